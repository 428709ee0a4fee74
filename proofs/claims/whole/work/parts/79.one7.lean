/-! numbers that are told by signs -/
abbrev isDg (x : Int64) : Prop := 48 ≤ x.toInt ∧ x.toInt ≤ 57
/-- where the digits from i on end -/
def dgE (f : Nat → Int64) (m : Nat) : Nat → Nat → Nat
  | 0, i => i
  | n + 1, i => if i < m ∧ isDg (f i) then dgE f m n (i + 1) else i
def dgEnd (f : Nat → Int64) (m i : Nat) : Nat := dgE f m (m - i) i
theorem dgEnd_go {f : Nat → Int64} {m i : Nat} (h : i < m) (hd : isDg (f i)) : dgEnd f m i = dgEnd f m (i + 1) := by
  unfold dgEnd
  rw [show m - i = (m - (i + 1)) + 1 by omega]
  conv => lhs; unfold dgE
  rw [if_pos ⟨h, hd⟩]
theorem dgEnd_stop {f : Nat → Int64} {m i : Nat} (h : ¬ (i < m ∧ isDg (f i))) : dgEnd f m i = i := by
  unfold dgEnd
  cases m - i with
  | zero => rfl
  | succ n => unfold dgE; rw [if_neg h]
theorem dgE_le {f : Nat → Int64} {m n : Nat} : ∀ {i : Nat}, i ≤ dgE f m n i ∧ (i ≤ m → dgE f m n i ≤ m) ∧ ∀ j, i ≤ j → j < dgE f m n i → isDg (f j) := by
  induction n with
  | zero => intro i; exact ⟨Nat.le_refl _, fun z => z, fun j h1 h2 => absurd h2 (by show ¬ j < i; omega)⟩
  | succ n ih =>
    intro i
    unfold dgE
    by_cases z : i < m ∧ isDg (f i)
    · rw [if_pos z]
      obtain ⟨a, b, c⟩ := ih (i := i + 1)
      refine ⟨by omega, fun _ => b (by omega), fun j h1 h2 => ?_⟩
      by_cases y : j = i
      · rw [y]; exact z.2
      · exact c j (by omega) h2
    · rw [if_neg z]
      exact ⟨Nat.le_refl _, fun y => y, fun j h1 h2 => absurd h2 (by omega)⟩
/-- where the digits of a number begin, and where they end -/
def nmS (f : Nat → Int64) (i : Nat) : Nat := if f i = Int64.ofInt 95 then i + 1 else i
def nmE (f : Nat → Int64) (m i : Nat) : Nat := dgEnd f m (nmS f i)
/-- is there a number at i, with a blank or nothing behind it -/
abbrev nmP (f : Nat → Int64) (m i : Nat) : Prop := (m ≤ nmE f m i ∨ f (nmE f m i) = Int64.ofInt 32) ∧ nmS f i < nmE f m i ∧ nmE f m i ≤ nmS f i + 18
theorem nmS_le (f : Nat → Int64) (i : Nat) : i ≤ nmS f i ∧ nmS f i ≤ i + 1 := by unfold nmS; split <;> omega
theorem nmE_le {f : Nat → Int64} {m i : Nat} (h : i < m) : nmS f i ≤ nmE f m i ∧ nmE f m i ≤ m := by
  have a := nmS_le f i
  obtain ⟨b, c, -⟩ := dgE_le (f := f) (m := m) (n := m - nmS f i) (i := nmS f i)
  exact ⟨b, c (by omega)⟩
/-- its digits' number, and the number -/
def dgV (f : Nat → Int64) (s : Nat) : Nat → Int64
  | 0 => Int64.ofInt 0
  | n + 1 => dgV f s n * Int64.ofInt 10 + (f (s + n) - Int64.ofInt 48)
def nmV (f : Nat → Int64) (i e : Nat) : Int64 := if f i = Int64.ofInt 95 then -dgV f (nmS f i) (e - nmS f i) else dgV f (nmS f i) (e - nmS f i)
def tldS (f : Nat → Int64) (m : Nat) : Nat → Nat → Nat → (Nat → Int64) → Option (Nat × (Nat → Int64))
  | 0, _, _, _ => none
  | F + 1, a, n, g => if m ≤ a then some (n, g) else if f a = Int64.ofInt 32 then tldS f m F (a + 1) n g else if nmP f m a then tldS f m F (nmE f m a) (n + 1) (va_up g n (nmV f a (nmE f m a))) else none
theorem tld_fuel {f : Nat → Int64} {m F : Nat} : ∀ {F' a n : Nat} {g : Nat → Int64}, 0 < F → 0 < F' → m < a + F → m < a + F' → tldS f m F a n g = tldS f m F' a n g := by
  induction F with
  | zero => intro F' a n g h; omega
  | succ F ih =>
    intro F' a n g h h' h1 h2
    cases F' with
    | zero => omega
    | succ F' =>
      unfold tldS
      by_cases z : m ≤ a
      · rw [if_pos z, if_pos z]
      · rw [if_neg z, if_neg z]
        by_cases b : f a = Int64.ofInt 32
        · rw [if_pos b, if_pos b]
          exact ih (by omega) (by omega) (by omega) (by omega)
        · rw [if_neg b, if_neg b]
          by_cases c : nmP f m a
          · rw [if_pos c, if_pos c]
            have hs := nmS_le f a
            have hc := c.2.1
            exact ih (by omega) (by omega) (by omega) (by omega)
          · rw [if_neg c, if_neg c]
abbrev tldT (f : Nat → Int64) (m a n : Nat) (g : Nat → Int64) : Option (Nat × (Nat → Int64)) := tldS f m (m + 1 - a) a n g
theorem tldT_end {f : Nat → Int64} {m a n : Nat} {g : Nat → Int64} (h : a = m) : tldT f m a n g = some (n, g) := by
  subst h
  show tldS f a (a + 1 - a) a n g = _
  rw [show a + 1 - a = 0 + 1 by omega]
  unfold tldS
  rw [if_pos (Nat.le_refl _)]
theorem tldT_bl {f : Nat → Int64} {m a n : Nat} {g : Nat → Int64} (h : a < m) (hb : f a = Int64.ofInt 32) : tldT f m a n g = tldT f m (a + 1) n g := by
  show tldS f m (m + 1 - a) a n g = tldS f m (m + 1 - (a + 1)) (a + 1) n g
  rw [show m + 1 - a = (m + 1 - (a + 1)) + 1 by omega]
  conv => lhs; unfold tldS
  rw [if_neg (by omega), if_pos hb]
theorem tldT_nm {f : Nat → Int64} {m a n : Nat} {g : Nat → Int64} (h : a < m) (hb : f a ≠ Int64.ofInt 32) (hp : nmP f m a) : tldT f m a n g = tldT f m (nmE f m a) (n + 1) (va_up g n (nmV f a (nmE f m a))) := by
  show tldS f m (m + 1 - a) a n g = _
  rw [show m + 1 - a = (m + 1 - (a + 1)) + 1 by omega]
  conv => lhs; unfold tldS
  rw [if_neg (by omega), if_neg hb, if_pos hp]
  have hs := nmS_le f a
  have hc := hp.2.1
  have he := nmE_le (f := f) h
  exact tld_fuel (by omega) (by omega) (by omega) (by omega)
theorem tldT_no {f : Nat → Int64} {m a n : Nat} {g : Nat → Int64} (h : a < m) (hb : f a ≠ Int64.ofInt 32) (hp : ¬ nmP f m a) : tldT f m a n g = none := by
  show tldS f m (m + 1 - a) a n g = _
  rw [show m + 1 - a = (m + 1 - (a + 1)) + 1 by omega]
  unfold tldS
  rw [if_neg (by omega), if_neg hb, if_neg hp]
def m_told (v : VV) : Nat ⊕ VV := if vk v = 1 ∨ vk v = 3 then (match tldT (vn v) (vm v) 0 0 (fun _ => 0) with
  | none => .inl 5
  | some (n, g) => .inr (vrow (vform n g) n g)) else .inl 3
theorem m_told_e {v : VV} (h1 : vk v = 1 ∨ vk v = 3) (h : tldT (vn v) (vm v) 0 0 (fun _ => 0) = none) : m_told v = .inl 5 := by
  unfold m_told
  rw [if_pos h1, h]
theorem m_told_r {v : VV} {n : Nat} {g : Nat → Int64} (h1 : vk v = 1 ∨ vk v = 3) (h : tldT (vn v) (vm v) 0 0 (fun _ => 0) = some (n, g)) : m_told v = .inr (vrow (vform n g) n g) := by
  unfold m_told
  rw [if_pos h1, h]
theorem vnum_s {v : VV} {k : Nat} (hw : vw1 v) (h : vk v = 1 ∨ vk v = 3) (hk : k < vm v) : vnum v ((k : Nat) : Int) = vn v k := by
  rcases h with h | h
  · rw [vnum_1 (by omega), show k = 0 by have := hw.2.1 (by omega); omega]
  · rw [vnum_r (by omega) (by omega) (by unfold vq; rw [if_neg (by omega), if_neg (by omega)]; omega)]
    rfl
set_option maxRecDepth 20000 in
theorem pm_X3_numberEnd : mj_mmof pg_ms 130 = some ((⟨"ArrayCalculator$OneAct", "numberEnd", "(LArrayCalculator$Value;I)I"⟩, prog_5_method_15_code, 5, (Option.some Jvm.ClassFile.FieldType.int)), 3, false, mj_dec prog_5_method_15_code) := rfl
theorem dm_X3_numberEnd_0 : mj_dec prog_5_method_15_code 0 = some (.aload_n 0, 1) := by decide +kernel
theorem dm_X3_numberEnd_1 : mj_dec prog_5_method_15_code 1 = some (.iload_n 1, 1) := by decide +kernel
theorem dm_X3_numberEnd_2 : mj_dec prog_5_method_15_code 2 = some (.invokevirtual 118, 3) := by decide +kernel
theorem dm_X3_numberEnd_5 : mj_dec prog_5_method_15_code 5 = some (.ldc2_w 192, 3) := by decide +kernel
theorem dm_X3_numberEnd_8 : mj_dec prog_5_method_15_code 8 = some (.lcmp, 1) := by decide +kernel
theorem dm_X3_numberEnd_9 : mj_dec prog_5_method_15_code 9 = some (.ifCond .ne 9, 3) := by decide +kernel
theorem dm_X3_numberEnd_12 : mj_dec prog_5_method_15_code 12 = some (.iload_n 1, 1) := by decide +kernel
theorem dm_X3_numberEnd_13 : mj_dec prog_5_method_15_code 13 = some (.iconst 1, 1) := by decide +kernel
theorem dm_X3_numberEnd_14 : mj_dec prog_5_method_15_code 14 = some (.iadd, 1) := by decide +kernel
theorem dm_X3_numberEnd_15 : mj_dec prog_5_method_15_code 15 = some (.goto 4, 3) := by decide +kernel
theorem dm_X3_numberEnd_18 : mj_dec prog_5_method_15_code 18 = some (.iload_n 1, 1) := by decide +kernel
theorem dm_X3_numberEnd_19 : mj_dec prog_5_method_15_code 19 = some (.istore_n 2, 1) := by decide +kernel
theorem dm_X3_numberEnd_20 : mj_dec prog_5_method_15_code 20 = some (.iload_n 2, 1) := by decide +kernel
theorem dm_X3_numberEnd_21 : mj_dec prog_5_method_15_code 21 = some (.istore_n 3, 1) := by decide +kernel
theorem dm_X3_numberEnd_22 : mj_dec prog_5_method_15_code 22 = some (.iload_n 3, 1) := by decide +kernel
theorem dm_X3_numberEnd_23 : mj_dec prog_5_method_15_code 23 = some (.aload_n 0, 1) := by decide +kernel
theorem dm_X3_numberEnd_24 : mj_dec prog_5_method_15_code 24 = some (.getfield 76, 3) := by decide +kernel
theorem dm_X3_numberEnd_27 : mj_dec prog_5_method_15_code 27 = some (.if_icmp .ge 20, 3) := by decide +kernel
theorem dm_X3_numberEnd_30 : mj_dec prog_5_method_15_code 30 = some (.aload_n 0, 1) := by decide +kernel
theorem dm_X3_numberEnd_31 : mj_dec prog_5_method_15_code 31 = some (.iload_n 3, 1) := by decide +kernel
theorem dm_X3_numberEnd_32 : mj_dec prog_5_method_15_code 32 = some (.invokevirtual 118, 3) := by decide +kernel
theorem dm_X3_numberEnd_35 : mj_dec prog_5_method_15_code 35 = some (.invokestatic 194, 3) := by decide +kernel
theorem dm_X3_numberEnd_38 : mj_dec prog_5_method_15_code 38 = some (.ifCond .eq 9, 3) := by decide +kernel
theorem dm_X3_numberEnd_41 : mj_dec prog_5_method_15_code 41 = some (.iinc 3 1, 3) := by decide +kernel
theorem dm_X3_numberEnd_44 : mj_dec prog_5_method_15_code 44 = some (.goto (-22), 3) := by decide +kernel
theorem dm_X3_numberEnd_47 : mj_dec prog_5_method_15_code 47 = some (.iload_n 3, 1) := by decide +kernel
theorem dm_X3_numberEnd_48 : mj_dec prog_5_method_15_code 48 = some (.aload_n 0, 1) := by decide +kernel
theorem dm_X3_numberEnd_49 : mj_dec prog_5_method_15_code 49 = some (.getfield 76, 3) := by decide +kernel
theorem dm_X3_numberEnd_52 : mj_dec prog_5_method_15_code 52 = some (.if_icmp .ge 15, 3) := by decide +kernel
theorem dm_X3_numberEnd_55 : mj_dec prog_5_method_15_code 55 = some (.aload_n 0, 1) := by decide +kernel
theorem dm_X3_numberEnd_56 : mj_dec prog_5_method_15_code 56 = some (.iload_n 3, 1) := by decide +kernel
theorem dm_X3_numberEnd_57 : mj_dec prog_5_method_15_code 57 = some (.invokevirtual 118, 3) := by decide +kernel
theorem dm_X3_numberEnd_60 : mj_dec prog_5_method_15_code 60 = some (.ldc2_w 182, 3) := by decide +kernel
theorem dm_X3_numberEnd_63 : mj_dec prog_5_method_15_code 63 = some (.lcmp, 1) := by decide +kernel
theorem dm_X3_numberEnd_64 : mj_dec prog_5_method_15_code 64 = some (.ifCond .ne 7, 3) := by decide +kernel
theorem dm_X3_numberEnd_67 : mj_dec prog_5_method_15_code 67 = some (.iconst 1, 1) := by decide +kernel
theorem dm_X3_numberEnd_68 : mj_dec prog_5_method_15_code 68 = some (.goto 4, 3) := by decide +kernel
theorem dm_X3_numberEnd_71 : mj_dec prog_5_method_15_code 71 = some (.iconst 0, 1) := by decide +kernel
theorem dm_X3_numberEnd_72 : mj_dec prog_5_method_15_code 72 = some (.istore 4, 2) := by decide +kernel
theorem dm_X3_numberEnd_74 : mj_dec prog_5_method_15_code 74 = some (.iload 4, 2) := by decide +kernel
theorem dm_X3_numberEnd_76 : mj_dec prog_5_method_15_code 76 = some (.ifCond .eq 20, 3) := by decide +kernel
theorem dm_X3_numberEnd_79 : mj_dec prog_5_method_15_code 79 = some (.iload_n 3, 1) := by decide +kernel
theorem dm_X3_numberEnd_80 : mj_dec prog_5_method_15_code 80 = some (.iload_n 2, 1) := by decide +kernel
theorem dm_X3_numberEnd_81 : mj_dec prog_5_method_15_code 81 = some (.if_icmp .le 15, 3) := by decide +kernel
theorem dm_X3_numberEnd_84 : mj_dec prog_5_method_15_code 84 = some (.iload_n 3, 1) := by decide +kernel
theorem dm_X3_numberEnd_85 : mj_dec prog_5_method_15_code 85 = some (.iload_n 2, 1) := by decide +kernel
theorem dm_X3_numberEnd_86 : mj_dec prog_5_method_15_code 86 = some (.isub, 1) := by decide +kernel
theorem dm_X3_numberEnd_87 : mj_dec prog_5_method_15_code 87 = some (.bipush 18, 2) := by decide +kernel
theorem dm_X3_numberEnd_89 : mj_dec prog_5_method_15_code 89 = some (.if_icmp .gt 7, 3) := by decide +kernel
theorem dm_X3_numberEnd_92 : mj_dec prog_5_method_15_code 92 = some (.iload_n 3, 1) := by decide +kernel
theorem dm_X3_numberEnd_93 : mj_dec prog_5_method_15_code 93 = some (.goto 4, 3) := by decide +kernel
theorem dm_X3_numberEnd_96 : mj_dec prog_5_method_15_code 96 = some (.iconst (-1), 1) := by decide +kernel
theorem dm_X3_numberEnd_97 : mj_dec prog_5_method_15_code 97 = some (.ireturn, 1) := by decide +kernel
theorem o_numberEnd {xt : mj_X} {d e p i : Nat} {A : Nat → Prop} {h : mj_H} {v : VV} {f1 : Nat → Value} (hx1 : xt 1 = some (.long, 0, f1)) (hd : 4 ≤ d) (hv : cv A h (e + 1) p v) (hsg : vk v = 1 ∨ vk v = 3) (hi : i < vm v) : pgP xt d 130 [.ref p, ii (i : Int)] h (ii (if nmP (vn v) (vm v) i then ((nmE (vn v) (vm v) i : Nat) : Int) else -1)) := by
  obtain ⟨row, fr, vals, hp, hp2, hpA, hvk, hvm, hvc, hvs, hvl⟩ := cv_val hv
  have hnS := nmS_le (vn v) i
  refine x_enter pm_X3_numberEnd (L0 := [(0, .ref p), (1, ii (i : Int))]) rfl (Nat.le_of_ble_eq_true rfl) (by omega) ?_
  have cut20 : pgE xt (d - 1) 3 5 false (Option.some Jvm.ClassFile.FieldType.int) (mj_dec prog_5_method_15_code) 20 [(0, .ref p), (1, ii (i : Int)), (2, ii ((nmS (vn v) i : Nat) : Int))] [] h (fun r h' => r = some (ii (if nmP (vn v) (vm v) i then ((nmE (vn v) (vm v) i : Nat) : Int) else -1)) ∧ h' = h) := by
    refine me1 (pc' := 21) (L' := [(0, .ref p), (1, ii (i : Int)), (2, ii ((nmS (vn v) i : Nat) : Int))]) (S' := [ii ((nmS (vn v) i : Nat) : Int)]) dm_X3_numberEnd_20 rfl rfl rfl rfl ?_
    refine me1 (pc' := 22) (L' := [(3, ii ((nmS (vn v) i : Nat) : Int)), (0, .ref p), (1, ii (i : Int)), (2, ii ((nmS (vn v) i : Nat) : Int))]) (S' := []) dm_X3_numberEnd_21 rfl rfl rfl rfl ?_
    have lp22 : ∀ (n22 : Nat) (j : Nat), vm v - j = n22 → (nmS (vn v) i ≤ j) → (j ≤ vm v) → (nmE (vn v) (vm v) i = dgEnd (vn v) (vm v) j) → pgE xt (d - 1) 3 5 false (Option.some Jvm.ClassFile.FieldType.int) (mj_dec prog_5_method_15_code) 22 [(0, .ref p), (1, ii (i : Int)), (2, ii ((nmS (vn v) i : Nat) : Int)), (3, ii ((j : Nat) : Int))] [] h (fun r h' => r = some (ii (if nmP (vn v) (vm v) i then ((nmE (vn v) (vm v) i : Nat) : Int) else -1)) ∧ h' = h) := by
      intro n22
      induction n22 using Nat.strongRecOn with
      | ind n22 ih22 =>
        intro j hm22 hj1 hj2 hE
        refine me1 (pc' := 23) (L' := [(0, .ref p), (1, ii (i : Int)), (2, ii ((nmS (vn v) i : Nat) : Int)), (3, ii ((j : Nat) : Int))]) (S' := [ii ((j : Nat) : Int)]) dm_X3_numberEnd_22 rfl rfl rfl rfl ?_
        refine me1 (pc' := 24) (L' := [(0, .ref p), (1, ii (i : Int)), (2, ii ((nmS (vn v) i : Nat) : Int)), (3, ii ((j : Nat) : Int))]) (S' := [.ref p, ii ((j : Nat) : Int)]) dm_X3_numberEnd_23 rfl rfl rfl rfl ?_
        refine me3 (pc' := 27) (S' := [ii (vm v : Int), ii ((j : Nat) : Int)]) dm_X3_numberEnd_24 (g_get (v := ii (vm v : Int)) hp rfl rfl (by omega)) rfl rfl rfl ?_
        refine y_2ge (a := ((j : Nat) : Int)) (b := (vm v : Int)) (t := 47) (pc' := 30) dm_X3_numberEnd_27 rfl rfl (by omega) (fun hb1 => ?_) (fun hb1 => ?_)
        · have hnE : nmE (vn v) (vm v) i = j := by rw [hE]; exact dgEnd_stop (fun z => by omega)
          refine me1 (pc' := 48) (L' := [(0, .ref p), (1, ii (i : Int)), (2, ii ((nmS (vn v) i : Nat) : Int)), (3, ii ((j : Nat) : Int))]) (S' := [ii ((j : Nat) : Int)]) dm_X3_numberEnd_47 rfl rfl rfl rfl ?_
          refine me1 (pc' := 49) (L' := [(0, .ref p), (1, ii (i : Int)), (2, ii ((nmS (vn v) i : Nat) : Int)), (3, ii ((j : Nat) : Int))]) (S' := [.ref p, ii ((j : Nat) : Int)]) dm_X3_numberEnd_48 rfl rfl rfl rfl ?_
          refine me3 (pc' := 52) (S' := [ii (vm v : Int), ii ((j : Nat) : Int)]) dm_X3_numberEnd_49 (g_get (v := ii (vm v : Int)) hp rfl rfl (by omega)) rfl rfl rfl ?_
          refine y_2ge (a := ((j : Nat) : Int)) (b := (vm v : Int)) (t := 67) (pc' := 55) dm_X3_numberEnd_52 rfl rfl (by omega) (fun hb2 => ?_) (fun hb2 => ?_)
          · refine me0 (pc' := 68) (S' := [ii 1]) dm_X3_numberEnd_67 rfl rfl rfl rfl ?_
            refine me2 (pc' := 72) (S' := [ii 1]) dm_X3_numberEnd_68 rfl rfl rfl ?_
            refine me1 (pc' := 74) (L' := [(4, ii 1), (0, .ref p), (1, ii (i : Int)), (2, ii ((nmS (vn v) i : Nat) : Int)), (3, ii ((j : Nat) : Int))]) (S' := []) dm_X3_numberEnd_72 rfl rfl rfl rfl ?_
            refine me1 (pc' := 76) (L' := [(4, ii 1), (0, .ref p), (1, ii (i : Int)), (2, ii ((nmS (vn v) i : Nat) : Int)), (3, ii ((j : Nat) : Int))]) (S' := [ii 1]) dm_X3_numberEnd_74 rfl rfl rfl rfl ?_
            refine me_1f (pc' := 79) dm_X3_numberEnd_76 rfl (by decide) rfl ?_
            refine me1 (pc' := 80) (L' := [(4, ii 1), (0, .ref p), (1, ii (i : Int)), (2, ii ((nmS (vn v) i : Nat) : Int)), (3, ii ((j : Nat) : Int))]) (S' := [ii ((j : Nat) : Int)]) dm_X3_numberEnd_79 rfl rfl rfl rfl ?_
            refine me1 (pc' := 81) (L' := [(4, ii 1), (0, .ref p), (1, ii (i : Int)), (2, ii ((nmS (vn v) i : Nat) : Int)), (3, ii ((j : Nat) : Int))]) (S' := [ii ((nmS (vn v) i : Nat) : Int), ii ((j : Nat) : Int)]) dm_X3_numberEnd_80 rfl rfl rfl rfl ?_
            refine y_2le (a := ((j : Nat) : Int)) (b := ((nmS (vn v) i : Nat) : Int)) (t := 96) (pc' := 84) dm_X3_numberEnd_81 rfl rfl (by omega) (fun hb3 => ?_) (fun hb3 => ?_)
            · refine me0 (pc' := 97) (S' := [ii (-1)]) dm_X3_numberEnd_96 rfl rfl rfl rfl ?_
              refine y_ret (r := some (ii (-1))) dm_X3_numberEnd_97 rfl rfl rfl ?_
              refine ⟨congrArg some (n_ii ?_), rfl⟩
              rw [if_neg (fun z => by obtain ⟨z1, z2, z3⟩ := z; rw [hnE] at z1 z2 z3; first | omega | (rcases z1 with z1 | z1; omega; exact absurd z1 (by assumption)))]
            · refine me1 (pc' := 85) (L' := [(4, ii 1), (0, .ref p), (1, ii (i : Int)), (2, ii ((nmS (vn v) i : Nat) : Int)), (3, ii ((j : Nat) : Int))]) (S' := [ii ((j : Nat) : Int)]) dm_X3_numberEnd_84 rfl rfl rfl rfl ?_
              refine me1 (pc' := 86) (L' := [(4, ii 1), (0, .ref p), (1, ii (i : Int)), (2, ii ((nmS (vn v) i : Nat) : Int)), (3, ii ((j : Nat) : Int))]) (S' := [ii ((nmS (vn v) i : Nat) : Int), ii ((j : Nat) : Int)]) dm_X3_numberEnd_85 rfl rfl rfl rfl ?_
              refine y_isub (a := ((j : Nat) : Int)) (b := ((nmS (vn v) i : Nat) : Int)) dm_X3_numberEnd_86 (pc' := 87) rfl ?_
              refine me0 (pc' := 89) (S' := [ii 18, ii (((j : Nat) : Int) - ((nmS (vn v) i : Nat) : Int))]) dm_X3_numberEnd_87 rfl rfl rfl rfl ?_
              refine y_2gt (a := ((j : Nat) : Int) - ((nmS (vn v) i : Nat) : Int)) (b := 18) (t := 96) (pc' := 92) dm_X3_numberEnd_89 rfl rfl (by omega) (fun hb4 => ?_) (fun hb4 => ?_)
              · refine me0 (pc' := 97) (S' := [ii (-1)]) dm_X3_numberEnd_96 rfl rfl rfl rfl ?_
                refine y_ret (r := some (ii (-1))) dm_X3_numberEnd_97 rfl rfl rfl ?_
                refine ⟨congrArg some (n_ii ?_), rfl⟩
                rw [if_neg (fun z => by obtain ⟨z1, z2, z3⟩ := z; rw [hnE] at z1 z2 z3; first | omega | (rcases z1 with z1 | z1; omega; exact absurd z1 (by assumption)))]
              · refine me1 (pc' := 93) (L' := [(4, ii 1), (0, .ref p), (1, ii (i : Int)), (2, ii ((nmS (vn v) i : Nat) : Int)), (3, ii ((j : Nat) : Int))]) (S' := [ii ((j : Nat) : Int)]) dm_X3_numberEnd_92 rfl rfl rfl rfl ?_
                refine me2 (pc' := 97) (S' := [ii ((j : Nat) : Int)]) dm_X3_numberEnd_93 rfl rfl rfl ?_
                refine y_ret (r := some (ii ((j : Nat) : Int))) dm_X3_numberEnd_97 rfl rfl rfl ?_
                refine ⟨congrArg some (n_ii ?_), rfl⟩
                rw [if_pos (show nmP (vn v) (vm v) i from ⟨by rw [hnE]; first | exact Or.inl (by omega) | exact Or.inr (by assumption), by omega, by omega⟩), hnE]
          · refine me1 (pc' := 56) (L' := [(0, .ref p), (1, ii (i : Int)), (2, ii ((nmS (vn v) i : Nat) : Int)), (3, ii ((j : Nat) : Int))]) (S' := [.ref p]) dm_X3_numberEnd_55 rfl rfl rfl rfl ?_
            refine me1 (pc' := 57) (L' := [(0, .ref p), (1, ii (i : Int)), (2, ii ((nmS (vn v) i : Nat) : Int)), (3, ii ((j : Nat) : Int))]) (S' := [ii ((j : Nat) : Int), .ref p]) dm_X3_numberEnd_56 rfl rfl rfl rfl ?_
            have hvn : vnum v ((j : Nat) : Int) = vn v (j) := vnum_s hv.1 hsg (by omega)
            refine x_cp (pc' := 60) (v := .long (vn v (j))) (rest := []) dm_X3_numberEnd_57 rfl (g_inv (As := [ii ((j : Nat) : Int)]) (S := []) hp rfl rfl rfl (by omega)) rfl rfl rfl ((show pgP xt (d - 1) _ _ _ (.long (vn v (j))) from hvn ▸ c_numberAt (i := ((j : Nat) : Int)) hx1 (by omega) hv (by omega))) ?_
            refine me3 (pc' := 63) (S' := [.long (Int64.ofInt 32), .long (vn v (j))]) dm_X3_numberEnd_60 rfl rfl rfl rfl ?_
            refine y_lne (x := vn v (j)) (y := Int64.ofInt 32) (t := 71) (pc1 := 64) (pc' := 67) dm_X3_numberEnd_63 rfl dm_X3_numberEnd_64 rfl rfl (fun hb5 => ?_) (fun hb5 => ?_)
            · refine me0 (pc' := 72) (S' := [ii 0]) dm_X3_numberEnd_71 rfl rfl rfl rfl ?_
              refine me1 (pc' := 74) (L' := [(4, ii 0), (0, .ref p), (1, ii (i : Int)), (2, ii ((nmS (vn v) i : Nat) : Int)), (3, ii ((j : Nat) : Int))]) (S' := []) dm_X3_numberEnd_72 rfl rfl rfl rfl ?_
              refine me1 (pc' := 76) (L' := [(4, ii 0), (0, .ref p), (1, ii (i : Int)), (2, ii ((nmS (vn v) i : Nat) : Int)), (3, ii ((j : Nat) : Int))]) (S' := [ii 0]) dm_X3_numberEnd_74 rfl rfl rfl rfl ?_
              refine me_1t (pc' := 96) dm_X3_numberEnd_76 rfl (by decide) ?_
              refine me0 (pc' := 97) (S' := [ii (-1)]) dm_X3_numberEnd_96 rfl rfl rfl rfl ?_
              refine y_ret (r := some (ii (-1))) dm_X3_numberEnd_97 rfl rfl rfl ?_
              refine ⟨congrArg some (n_ii ?_), rfl⟩
              rw [if_neg (fun z => by obtain ⟨z1, z2, z3⟩ := z; rw [hnE] at z1 z2 z3; first | omega | (rcases z1 with z1 | z1; omega; exact absurd z1 (by assumption)))]
            · refine me0 (pc' := 68) (S' := [ii 1]) dm_X3_numberEnd_67 rfl rfl rfl rfl ?_
              refine me2 (pc' := 72) (S' := [ii 1]) dm_X3_numberEnd_68 rfl rfl rfl ?_
              refine me1 (pc' := 74) (L' := [(4, ii 1), (0, .ref p), (1, ii (i : Int)), (2, ii ((nmS (vn v) i : Nat) : Int)), (3, ii ((j : Nat) : Int))]) (S' := []) dm_X3_numberEnd_72 rfl rfl rfl rfl ?_
              refine me1 (pc' := 76) (L' := [(4, ii 1), (0, .ref p), (1, ii (i : Int)), (2, ii ((nmS (vn v) i : Nat) : Int)), (3, ii ((j : Nat) : Int))]) (S' := [ii 1]) dm_X3_numberEnd_74 rfl rfl rfl rfl ?_
              refine me_1f (pc' := 79) dm_X3_numberEnd_76 rfl (by decide) rfl ?_
              refine me1 (pc' := 80) (L' := [(4, ii 1), (0, .ref p), (1, ii (i : Int)), (2, ii ((nmS (vn v) i : Nat) : Int)), (3, ii ((j : Nat) : Int))]) (S' := [ii ((j : Nat) : Int)]) dm_X3_numberEnd_79 rfl rfl rfl rfl ?_
              refine me1 (pc' := 81) (L' := [(4, ii 1), (0, .ref p), (1, ii (i : Int)), (2, ii ((nmS (vn v) i : Nat) : Int)), (3, ii ((j : Nat) : Int))]) (S' := [ii ((nmS (vn v) i : Nat) : Int), ii ((j : Nat) : Int)]) dm_X3_numberEnd_80 rfl rfl rfl rfl ?_
              refine y_2le (a := ((j : Nat) : Int)) (b := ((nmS (vn v) i : Nat) : Int)) (t := 96) (pc' := 84) dm_X3_numberEnd_81 rfl rfl (by omega) (fun hb6 => ?_) (fun hb6 => ?_)
              · refine me0 (pc' := 97) (S' := [ii (-1)]) dm_X3_numberEnd_96 rfl rfl rfl rfl ?_
                refine y_ret (r := some (ii (-1))) dm_X3_numberEnd_97 rfl rfl rfl ?_
                refine ⟨congrArg some (n_ii ?_), rfl⟩
                rw [if_neg (fun z => by obtain ⟨z1, z2, z3⟩ := z; rw [hnE] at z1 z2 z3; first | omega | (rcases z1 with z1 | z1; omega; exact absurd z1 (by assumption)))]
              · refine me1 (pc' := 85) (L' := [(4, ii 1), (0, .ref p), (1, ii (i : Int)), (2, ii ((nmS (vn v) i : Nat) : Int)), (3, ii ((j : Nat) : Int))]) (S' := [ii ((j : Nat) : Int)]) dm_X3_numberEnd_84 rfl rfl rfl rfl ?_
                refine me1 (pc' := 86) (L' := [(4, ii 1), (0, .ref p), (1, ii (i : Int)), (2, ii ((nmS (vn v) i : Nat) : Int)), (3, ii ((j : Nat) : Int))]) (S' := [ii ((nmS (vn v) i : Nat) : Int), ii ((j : Nat) : Int)]) dm_X3_numberEnd_85 rfl rfl rfl rfl ?_
                refine y_isub (a := ((j : Nat) : Int)) (b := ((nmS (vn v) i : Nat) : Int)) dm_X3_numberEnd_86 (pc' := 87) rfl ?_
                refine me0 (pc' := 89) (S' := [ii 18, ii (((j : Nat) : Int) - ((nmS (vn v) i : Nat) : Int))]) dm_X3_numberEnd_87 rfl rfl rfl rfl ?_
                refine y_2gt (a := ((j : Nat) : Int) - ((nmS (vn v) i : Nat) : Int)) (b := 18) (t := 96) (pc' := 92) dm_X3_numberEnd_89 rfl rfl (by omega) (fun hb7 => ?_) (fun hb7 => ?_)
                · refine me0 (pc' := 97) (S' := [ii (-1)]) dm_X3_numberEnd_96 rfl rfl rfl rfl ?_
                  refine y_ret (r := some (ii (-1))) dm_X3_numberEnd_97 rfl rfl rfl ?_
                  refine ⟨congrArg some (n_ii ?_), rfl⟩
                  rw [if_neg (fun z => by obtain ⟨z1, z2, z3⟩ := z; rw [hnE] at z1 z2 z3; first | omega | (rcases z1 with z1 | z1; omega; exact absurd z1 (by assumption)))]
                · refine me1 (pc' := 93) (L' := [(4, ii 1), (0, .ref p), (1, ii (i : Int)), (2, ii ((nmS (vn v) i : Nat) : Int)), (3, ii ((j : Nat) : Int))]) (S' := [ii ((j : Nat) : Int)]) dm_X3_numberEnd_92 rfl rfl rfl rfl ?_
                  refine me2 (pc' := 97) (S' := [ii ((j : Nat) : Int)]) dm_X3_numberEnd_93 rfl rfl rfl ?_
                  refine y_ret (r := some (ii ((j : Nat) : Int))) dm_X3_numberEnd_97 rfl rfl rfl ?_
                  refine ⟨congrArg some (n_ii ?_), rfl⟩
                  rw [if_pos (show nmP (vn v) (vm v) i from ⟨by rw [hnE]; first | exact Or.inl (by omega) | exact Or.inr (by assumption), by omega, by omega⟩), hnE]
        · refine me1 (pc' := 31) (L' := [(0, .ref p), (1, ii (i : Int)), (2, ii ((nmS (vn v) i : Nat) : Int)), (3, ii ((j : Nat) : Int))]) (S' := [.ref p]) dm_X3_numberEnd_30 rfl rfl rfl rfl ?_
          refine me1 (pc' := 32) (L' := [(0, .ref p), (1, ii (i : Int)), (2, ii ((nmS (vn v) i : Nat) : Int)), (3, ii ((j : Nat) : Int))]) (S' := [ii ((j : Nat) : Int), .ref p]) dm_X3_numberEnd_31 rfl rfl rfl rfl ?_
          have hvn : vnum v ((j : Nat) : Int) = vn v (j) := vnum_s hv.1 hsg (by omega)
          refine x_cp (pc' := 35) (v := .long (vn v (j))) (rest := []) dm_X3_numberEnd_32 rfl (g_inv (As := [ii ((j : Nat) : Int)]) (S := []) hp rfl rfl rfl (by omega)) rfl rfl rfl ((show pgP xt (d - 1) _ _ _ (.long (vn v (j))) from hvn ▸ c_numberAt (i := ((j : Nat) : Int)) hx1 (by omega) hv (by omega))) ?_
          refine x_cp (pc' := 38) (v := zz (decide (48 ≤ (vn v (j)).toInt ∧ (vn v (j)).toInt ≤ 57))) (rest := []) dm_X3_numberEnd_35 rfl (g_invs (As := [.long (vn v (j))]) (S := []) rfl rfl rfl) rfl rfl rfl (a_isDigit (by omega)) ?_
          refine y_zeq (c := decide (48 ≤ (vn v (j)).toInt ∧ (vn v (j)).toInt ≤ 57)) (t := 47) (pc' := 41) dm_X3_numberEnd_38 rfl rfl (fun hb8 => ?_) (fun hb8 => ?_)
          · replace hb8 := dF hb8
            have hnE : nmE (vn v) (vm v) i = j := by rw [hE]; exact dgEnd_stop (fun z => hb8 z.2)
            refine me1 (pc' := 48) (L' := [(0, .ref p), (1, ii (i : Int)), (2, ii ((nmS (vn v) i : Nat) : Int)), (3, ii ((j : Nat) : Int))]) (S' := [ii ((j : Nat) : Int)]) dm_X3_numberEnd_47 rfl rfl rfl rfl ?_
            refine me1 (pc' := 49) (L' := [(0, .ref p), (1, ii (i : Int)), (2, ii ((nmS (vn v) i : Nat) : Int)), (3, ii ((j : Nat) : Int))]) (S' := [.ref p, ii ((j : Nat) : Int)]) dm_X3_numberEnd_48 rfl rfl rfl rfl ?_
            refine me3 (pc' := 52) (S' := [ii (vm v : Int), ii ((j : Nat) : Int)]) dm_X3_numberEnd_49 (g_get (v := ii (vm v : Int)) hp rfl rfl (by omega)) rfl rfl rfl ?_
            refine y_2ge (a := ((j : Nat) : Int)) (b := (vm v : Int)) (t := 67) (pc' := 55) dm_X3_numberEnd_52 rfl rfl (by omega) (fun hb9 => ?_) (fun hb9 => ?_)
            · refine me0 (pc' := 68) (S' := [ii 1]) dm_X3_numberEnd_67 rfl rfl rfl rfl ?_
              refine me2 (pc' := 72) (S' := [ii 1]) dm_X3_numberEnd_68 rfl rfl rfl ?_
              refine me1 (pc' := 74) (L' := [(4, ii 1), (0, .ref p), (1, ii (i : Int)), (2, ii ((nmS (vn v) i : Nat) : Int)), (3, ii ((j : Nat) : Int))]) (S' := []) dm_X3_numberEnd_72 rfl rfl rfl rfl ?_
              refine me1 (pc' := 76) (L' := [(4, ii 1), (0, .ref p), (1, ii (i : Int)), (2, ii ((nmS (vn v) i : Nat) : Int)), (3, ii ((j : Nat) : Int))]) (S' := [ii 1]) dm_X3_numberEnd_74 rfl rfl rfl rfl ?_
              refine me_1f (pc' := 79) dm_X3_numberEnd_76 rfl (by decide) rfl ?_
              refine me1 (pc' := 80) (L' := [(4, ii 1), (0, .ref p), (1, ii (i : Int)), (2, ii ((nmS (vn v) i : Nat) : Int)), (3, ii ((j : Nat) : Int))]) (S' := [ii ((j : Nat) : Int)]) dm_X3_numberEnd_79 rfl rfl rfl rfl ?_
              refine me1 (pc' := 81) (L' := [(4, ii 1), (0, .ref p), (1, ii (i : Int)), (2, ii ((nmS (vn v) i : Nat) : Int)), (3, ii ((j : Nat) : Int))]) (S' := [ii ((nmS (vn v) i : Nat) : Int), ii ((j : Nat) : Int)]) dm_X3_numberEnd_80 rfl rfl rfl rfl ?_
              refine y_2le (a := ((j : Nat) : Int)) (b := ((nmS (vn v) i : Nat) : Int)) (t := 96) (pc' := 84) dm_X3_numberEnd_81 rfl rfl (by omega) (fun hb10 => ?_) (fun hb10 => ?_)
              · refine me0 (pc' := 97) (S' := [ii (-1)]) dm_X3_numberEnd_96 rfl rfl rfl rfl ?_
                refine y_ret (r := some (ii (-1))) dm_X3_numberEnd_97 rfl rfl rfl ?_
                refine ⟨congrArg some (n_ii ?_), rfl⟩
                rw [if_neg (fun z => by obtain ⟨z1, z2, z3⟩ := z; rw [hnE] at z1 z2 z3; first | omega | (rcases z1 with z1 | z1; omega; exact absurd z1 (by assumption)))]
              · refine me1 (pc' := 85) (L' := [(4, ii 1), (0, .ref p), (1, ii (i : Int)), (2, ii ((nmS (vn v) i : Nat) : Int)), (3, ii ((j : Nat) : Int))]) (S' := [ii ((j : Nat) : Int)]) dm_X3_numberEnd_84 rfl rfl rfl rfl ?_
                refine me1 (pc' := 86) (L' := [(4, ii 1), (0, .ref p), (1, ii (i : Int)), (2, ii ((nmS (vn v) i : Nat) : Int)), (3, ii ((j : Nat) : Int))]) (S' := [ii ((nmS (vn v) i : Nat) : Int), ii ((j : Nat) : Int)]) dm_X3_numberEnd_85 rfl rfl rfl rfl ?_
                refine y_isub (a := ((j : Nat) : Int)) (b := ((nmS (vn v) i : Nat) : Int)) dm_X3_numberEnd_86 (pc' := 87) rfl ?_
                refine me0 (pc' := 89) (S' := [ii 18, ii (((j : Nat) : Int) - ((nmS (vn v) i : Nat) : Int))]) dm_X3_numberEnd_87 rfl rfl rfl rfl ?_
                refine y_2gt (a := ((j : Nat) : Int) - ((nmS (vn v) i : Nat) : Int)) (b := 18) (t := 96) (pc' := 92) dm_X3_numberEnd_89 rfl rfl (by omega) (fun hb11 => ?_) (fun hb11 => ?_)
                · refine me0 (pc' := 97) (S' := [ii (-1)]) dm_X3_numberEnd_96 rfl rfl rfl rfl ?_
                  refine y_ret (r := some (ii (-1))) dm_X3_numberEnd_97 rfl rfl rfl ?_
                  refine ⟨congrArg some (n_ii ?_), rfl⟩
                  rw [if_neg (fun z => by obtain ⟨z1, z2, z3⟩ := z; rw [hnE] at z1 z2 z3; first | omega | (rcases z1 with z1 | z1; omega; exact absurd z1 (by assumption)))]
                · refine me1 (pc' := 93) (L' := [(4, ii 1), (0, .ref p), (1, ii (i : Int)), (2, ii ((nmS (vn v) i : Nat) : Int)), (3, ii ((j : Nat) : Int))]) (S' := [ii ((j : Nat) : Int)]) dm_X3_numberEnd_92 rfl rfl rfl rfl ?_
                  refine me2 (pc' := 97) (S' := [ii ((j : Nat) : Int)]) dm_X3_numberEnd_93 rfl rfl rfl ?_
                  refine y_ret (r := some (ii ((j : Nat) : Int))) dm_X3_numberEnd_97 rfl rfl rfl ?_
                  refine ⟨congrArg some (n_ii ?_), rfl⟩
                  rw [if_pos (show nmP (vn v) (vm v) i from ⟨by rw [hnE]; first | exact Or.inl (by omega) | exact Or.inr (by assumption), by omega, by omega⟩), hnE]
            · refine me1 (pc' := 56) (L' := [(0, .ref p), (1, ii (i : Int)), (2, ii ((nmS (vn v) i : Nat) : Int)), (3, ii ((j : Nat) : Int))]) (S' := [.ref p]) dm_X3_numberEnd_55 rfl rfl rfl rfl ?_
              refine me1 (pc' := 57) (L' := [(0, .ref p), (1, ii (i : Int)), (2, ii ((nmS (vn v) i : Nat) : Int)), (3, ii ((j : Nat) : Int))]) (S' := [ii ((j : Nat) : Int), .ref p]) dm_X3_numberEnd_56 rfl rfl rfl rfl ?_
              have hvn : vnum v ((j : Nat) : Int) = vn v (j) := vnum_s hv.1 hsg (by omega)
              refine x_cp (pc' := 60) (v := .long (vn v (j))) (rest := []) dm_X3_numberEnd_57 rfl (g_inv (As := [ii ((j : Nat) : Int)]) (S := []) hp rfl rfl rfl (by omega)) rfl rfl rfl ((show pgP xt (d - 1) _ _ _ (.long (vn v (j))) from hvn ▸ c_numberAt (i := ((j : Nat) : Int)) hx1 (by omega) hv (by omega))) ?_
              refine me3 (pc' := 63) (S' := [.long (Int64.ofInt 32), .long (vn v (j))]) dm_X3_numberEnd_60 rfl rfl rfl rfl ?_
              refine y_lne (x := vn v (j)) (y := Int64.ofInt 32) (t := 71) (pc1 := 64) (pc' := 67) dm_X3_numberEnd_63 rfl dm_X3_numberEnd_64 rfl rfl (fun hb12 => ?_) (fun hb12 => ?_)
              · refine me0 (pc' := 72) (S' := [ii 0]) dm_X3_numberEnd_71 rfl rfl rfl rfl ?_
                refine me1 (pc' := 74) (L' := [(4, ii 0), (0, .ref p), (1, ii (i : Int)), (2, ii ((nmS (vn v) i : Nat) : Int)), (3, ii ((j : Nat) : Int))]) (S' := []) dm_X3_numberEnd_72 rfl rfl rfl rfl ?_
                refine me1 (pc' := 76) (L' := [(4, ii 0), (0, .ref p), (1, ii (i : Int)), (2, ii ((nmS (vn v) i : Nat) : Int)), (3, ii ((j : Nat) : Int))]) (S' := [ii 0]) dm_X3_numberEnd_74 rfl rfl rfl rfl ?_
                refine me_1t (pc' := 96) dm_X3_numberEnd_76 rfl (by decide) ?_
                refine me0 (pc' := 97) (S' := [ii (-1)]) dm_X3_numberEnd_96 rfl rfl rfl rfl ?_
                refine y_ret (r := some (ii (-1))) dm_X3_numberEnd_97 rfl rfl rfl ?_
                refine ⟨congrArg some (n_ii ?_), rfl⟩
                rw [if_neg (fun z => by obtain ⟨z1, z2, z3⟩ := z; rw [hnE] at z1 z2 z3; first | omega | (rcases z1 with z1 | z1; omega; exact absurd z1 (by assumption)))]
              · refine me0 (pc' := 68) (S' := [ii 1]) dm_X3_numberEnd_67 rfl rfl rfl rfl ?_
                refine me2 (pc' := 72) (S' := [ii 1]) dm_X3_numberEnd_68 rfl rfl rfl ?_
                refine me1 (pc' := 74) (L' := [(4, ii 1), (0, .ref p), (1, ii (i : Int)), (2, ii ((nmS (vn v) i : Nat) : Int)), (3, ii ((j : Nat) : Int))]) (S' := []) dm_X3_numberEnd_72 rfl rfl rfl rfl ?_
                refine me1 (pc' := 76) (L' := [(4, ii 1), (0, .ref p), (1, ii (i : Int)), (2, ii ((nmS (vn v) i : Nat) : Int)), (3, ii ((j : Nat) : Int))]) (S' := [ii 1]) dm_X3_numberEnd_74 rfl rfl rfl rfl ?_
                refine me_1f (pc' := 79) dm_X3_numberEnd_76 rfl (by decide) rfl ?_
                refine me1 (pc' := 80) (L' := [(4, ii 1), (0, .ref p), (1, ii (i : Int)), (2, ii ((nmS (vn v) i : Nat) : Int)), (3, ii ((j : Nat) : Int))]) (S' := [ii ((j : Nat) : Int)]) dm_X3_numberEnd_79 rfl rfl rfl rfl ?_
                refine me1 (pc' := 81) (L' := [(4, ii 1), (0, .ref p), (1, ii (i : Int)), (2, ii ((nmS (vn v) i : Nat) : Int)), (3, ii ((j : Nat) : Int))]) (S' := [ii ((nmS (vn v) i : Nat) : Int), ii ((j : Nat) : Int)]) dm_X3_numberEnd_80 rfl rfl rfl rfl ?_
                refine y_2le (a := ((j : Nat) : Int)) (b := ((nmS (vn v) i : Nat) : Int)) (t := 96) (pc' := 84) dm_X3_numberEnd_81 rfl rfl (by omega) (fun hb13 => ?_) (fun hb13 => ?_)
                · refine me0 (pc' := 97) (S' := [ii (-1)]) dm_X3_numberEnd_96 rfl rfl rfl rfl ?_
                  refine y_ret (r := some (ii (-1))) dm_X3_numberEnd_97 rfl rfl rfl ?_
                  refine ⟨congrArg some (n_ii ?_), rfl⟩
                  rw [if_neg (fun z => by obtain ⟨z1, z2, z3⟩ := z; rw [hnE] at z1 z2 z3; first | omega | (rcases z1 with z1 | z1; omega; exact absurd z1 (by assumption)))]
                · refine me1 (pc' := 85) (L' := [(4, ii 1), (0, .ref p), (1, ii (i : Int)), (2, ii ((nmS (vn v) i : Nat) : Int)), (3, ii ((j : Nat) : Int))]) (S' := [ii ((j : Nat) : Int)]) dm_X3_numberEnd_84 rfl rfl rfl rfl ?_
                  refine me1 (pc' := 86) (L' := [(4, ii 1), (0, .ref p), (1, ii (i : Int)), (2, ii ((nmS (vn v) i : Nat) : Int)), (3, ii ((j : Nat) : Int))]) (S' := [ii ((nmS (vn v) i : Nat) : Int), ii ((j : Nat) : Int)]) dm_X3_numberEnd_85 rfl rfl rfl rfl ?_
                  refine y_isub (a := ((j : Nat) : Int)) (b := ((nmS (vn v) i : Nat) : Int)) dm_X3_numberEnd_86 (pc' := 87) rfl ?_
                  refine me0 (pc' := 89) (S' := [ii 18, ii (((j : Nat) : Int) - ((nmS (vn v) i : Nat) : Int))]) dm_X3_numberEnd_87 rfl rfl rfl rfl ?_
                  refine y_2gt (a := ((j : Nat) : Int) - ((nmS (vn v) i : Nat) : Int)) (b := 18) (t := 96) (pc' := 92) dm_X3_numberEnd_89 rfl rfl (by omega) (fun hb14 => ?_) (fun hb14 => ?_)
                  · refine me0 (pc' := 97) (S' := [ii (-1)]) dm_X3_numberEnd_96 rfl rfl rfl rfl ?_
                    refine y_ret (r := some (ii (-1))) dm_X3_numberEnd_97 rfl rfl rfl ?_
                    refine ⟨congrArg some (n_ii ?_), rfl⟩
                    rw [if_neg (fun z => by obtain ⟨z1, z2, z3⟩ := z; rw [hnE] at z1 z2 z3; first | omega | (rcases z1 with z1 | z1; omega; exact absurd z1 (by assumption)))]
                  · refine me1 (pc' := 93) (L' := [(4, ii 1), (0, .ref p), (1, ii (i : Int)), (2, ii ((nmS (vn v) i : Nat) : Int)), (3, ii ((j : Nat) : Int))]) (S' := [ii ((j : Nat) : Int)]) dm_X3_numberEnd_92 rfl rfl rfl rfl ?_
                    refine me2 (pc' := 97) (S' := [ii ((j : Nat) : Int)]) dm_X3_numberEnd_93 rfl rfl rfl ?_
                    refine y_ret (r := some (ii ((j : Nat) : Int))) dm_X3_numberEnd_97 rfl rfl rfl ?_
                    refine ⟨congrArg some (n_ii ?_), rfl⟩
                    rw [if_pos (show nmP (vn v) (vm v) i from ⟨by rw [hnE]; first | exact Or.inl (by omega) | exact Or.inr (by assumption), by omega, by omega⟩), hnE]
          · replace hb8 := dT hb8
            have hdig : isDg (vn v j) := hb8
            refine y_iinc (pc' := 44) (L' := [(3, ii (((j : Nat) : Int) + 1)), (0, .ref p), (1, ii (i : Int)), (2, ii ((nmS (vn v) i : Nat) : Int))]) dm_X3_numberEnd_41 (y_incp (a := ((j : Nat) : Int)) (c := 1) rfl rfl (by decide)) rfl ?_
            refine me2 (pc' := 22) (S' := []) dm_X3_numberEnd_44 rfl rfl rfl ?_
            exact pg_sub (L := [(0, .ref p), (1, ii (i : Int)), (2, ii ((nmS (vn v) i : Nat) : Int)), (3, ii (((j + 1) : Nat) : Int))]) rfl rfl rfl (ih22 (vm v - (j + 1)) (by omega) (j + 1) rfl (by omega) (by omega) (by rw [hE]; exact dgEnd_go (by omega) hdig))
    exact pg_sub (L := [(0, .ref p), (1, ii (i : Int)), (2, ii ((nmS (vn v) i : Nat) : Int)), (3, ii ((nmS (vn v) i : Nat) : Int))]) rfl rfl rfl (lp22 _ (nmS (vn v) i) rfl (Nat.le_refl _) (by omega) rfl)
  refine me1 (pc' := 1) (L' := [(0, .ref p), (1, ii (i : Int))]) (S' := [.ref p]) dm_X3_numberEnd_0 rfl rfl rfl rfl ?_
  refine me1 (pc' := 2) (L' := [(0, .ref p), (1, ii (i : Int))]) (S' := [ii (i : Int), .ref p]) dm_X3_numberEnd_1 rfl rfl rfl rfl ?_
  have hvn : vnum v ((i : Nat) : Int) = vn v (i) := vnum_s hv.1 hsg (by omega)
  refine x_cp (pc' := 5) (v := .long (vn v (i))) (rest := []) dm_X3_numberEnd_2 rfl (g_inv (As := [ii (i : Int)]) (S := []) hp rfl rfl rfl (by omega)) rfl rfl rfl ((show pgP xt (d - 1) _ _ _ (.long (vn v (i))) from hvn ▸ c_numberAt (i := ((i : Nat) : Int)) hx1 (by omega) hv (by omega))) ?_
  refine me3 (pc' := 8) (S' := [.long (Int64.ofInt 95), .long (vn v (i))]) dm_X3_numberEnd_5 rfl rfl rfl rfl ?_
  refine y_lne (x := vn v (i)) (y := Int64.ofInt 95) (t := 18) (pc1 := 9) (pc' := 12) dm_X3_numberEnd_8 rfl dm_X3_numberEnd_9 rfl rfl (fun hb15 => ?_) (fun hb15 => ?_)
  · refine me1 (pc' := 19) (L' := [(0, .ref p), (1, ii (i : Int))]) (S' := [ii (i : Int)]) dm_X3_numberEnd_18 rfl rfl rfl rfl ?_
    refine pg_st0 (S' := [ii ((nmS (vn v) i : Nat) : Int)]) (congrArg (fun z => ii z :: []) (by unfold nmS; first | (rw [if_pos (by assumption)]; push_cast; rfl) | (rw [if_neg (by assumption)]))) ?_
    refine me1 (pc' := 20) (L' := [(2, ii ((nmS (vn v) i : Nat) : Int)), (0, .ref p), (1, ii (i : Int))]) (S' := []) dm_X3_numberEnd_19 rfl rfl rfl rfl ?_
    exact pg_sub (L := [(0, .ref p), (1, ii (i : Int)), (2, ii ((nmS (vn v) i : Nat) : Int))]) rfl rfl rfl (cut20 )
  · refine me1 (pc' := 13) (L' := [(0, .ref p), (1, ii (i : Int))]) (S' := [ii (i : Int)]) dm_X3_numberEnd_12 rfl rfl rfl rfl ?_
    refine me0 (pc' := 14) (S' := [ii 1, ii (i : Int)]) dm_X3_numberEnd_13 rfl rfl rfl rfl ?_
    refine y_iadd (a := (i : Int)) (b := 1) dm_X3_numberEnd_14 (pc' := 15) rfl ?_
    refine me2 (pc' := 19) (S' := [ii ((i : Int) + 1)]) dm_X3_numberEnd_15 rfl rfl rfl ?_
    refine pg_st0 (S' := [ii ((nmS (vn v) i : Nat) : Int)]) (congrArg (fun z => ii z :: []) (by unfold nmS; first | (rw [if_pos (by assumption)]; push_cast; rfl) | (rw [if_neg (by assumption)]))) ?_
    refine me1 (pc' := 20) (L' := [(2, ii ((nmS (vn v) i : Nat) : Int)), (0, .ref p), (1, ii (i : Int))]) (S' := []) dm_X3_numberEnd_19 rfl rfl rfl rfl ?_
    exact pg_sub (L := [(0, .ref p), (1, ii (i : Int)), (2, ii ((nmS (vn v) i : Nat) : Int))]) rfl rfl rfl (cut20 )
set_option maxRecDepth 20000 in
theorem pm_X3_numberOf : mj_mmof pg_ms 131 = some ((⟨"ArrayCalculator$OneAct", "numberOf", "(LArrayCalculator$Value;II)J"⟩, prog_5_method_16_code, 7, (Option.some Jvm.ClassFile.FieldType.long)), 3, false, mj_dec prog_5_method_16_code) := rfl
theorem dm_X3_numberOf_0 : mj_dec prog_5_method_16_code 0 = some (.aload_n 0, 1) := by decide +kernel
theorem dm_X3_numberOf_1 : mj_dec prog_5_method_16_code 1 = some (.iload_n 1, 1) := by decide +kernel
theorem dm_X3_numberOf_2 : mj_dec prog_5_method_16_code 2 = some (.invokevirtual 118, 3) := by decide +kernel
theorem dm_X3_numberOf_5 : mj_dec prog_5_method_16_code 5 = some (.ldc2_w 192, 3) := by decide +kernel
theorem dm_X3_numberOf_8 : mj_dec prog_5_method_16_code 8 = some (.lcmp, 1) := by decide +kernel
theorem dm_X3_numberOf_9 : mj_dec prog_5_method_16_code 9 = some (.ifCond .ne 7, 3) := by decide +kernel
theorem dm_X3_numberOf_12 : mj_dec prog_5_method_16_code 12 = some (.iconst 1, 1) := by decide +kernel
theorem dm_X3_numberOf_13 : mj_dec prog_5_method_16_code 13 = some (.goto 4, 3) := by decide +kernel
theorem dm_X3_numberOf_16 : mj_dec prog_5_method_16_code 16 = some (.iconst 0, 1) := by decide +kernel
theorem dm_X3_numberOf_17 : mj_dec prog_5_method_16_code 17 = some (.istore_n 3, 1) := by decide +kernel
theorem dm_X3_numberOf_18 : mj_dec prog_5_method_16_code 18 = some (.lconst 0, 1) := by decide +kernel
theorem dm_X3_numberOf_19 : mj_dec prog_5_method_16_code 19 = some (.lstore 4, 2) := by decide +kernel
theorem dm_X3_numberOf_21 : mj_dec prog_5_method_16_code 21 = some (.iload_n 3, 1) := by decide +kernel
theorem dm_X3_numberOf_22 : mj_dec prog_5_method_16_code 22 = some (.ifCond .eq 9, 3) := by decide +kernel
theorem dm_X3_numberOf_25 : mj_dec prog_5_method_16_code 25 = some (.iload_n 1, 1) := by decide +kernel
theorem dm_X3_numberOf_26 : mj_dec prog_5_method_16_code 26 = some (.iconst 1, 1) := by decide +kernel
theorem dm_X3_numberOf_27 : mj_dec prog_5_method_16_code 27 = some (.iadd, 1) := by decide +kernel
theorem dm_X3_numberOf_28 : mj_dec prog_5_method_16_code 28 = some (.goto 4, 3) := by decide +kernel
theorem dm_X3_numberOf_31 : mj_dec prog_5_method_16_code 31 = some (.iload_n 1, 1) := by decide +kernel
theorem dm_X3_numberOf_32 : mj_dec prog_5_method_16_code 32 = some (.istore 6, 2) := by decide +kernel
theorem dm_X3_numberOf_34 : mj_dec prog_5_method_16_code 34 = some (.iload 6, 2) := by decide +kernel
theorem dm_X3_numberOf_36 : mj_dec prog_5_method_16_code 36 = some (.iload_n 2, 1) := by decide +kernel
theorem dm_X3_numberOf_37 : mj_dec prog_5_method_16_code 37 = some (.if_icmp .ge 28, 3) := by decide +kernel
theorem dm_X3_numberOf_40 : mj_dec prog_5_method_16_code 40 = some (.lload 4, 2) := by decide +kernel
theorem dm_X3_numberOf_42 : mj_dec prog_5_method_16_code 42 = some (.ldc2_w 198, 3) := by decide +kernel
theorem dm_X3_numberOf_45 : mj_dec prog_5_method_16_code 45 = some (.lmul, 1) := by decide +kernel
theorem dm_X3_numberOf_46 : mj_dec prog_5_method_16_code 46 = some (.aload_n 0, 1) := by decide +kernel
theorem dm_X3_numberOf_47 : mj_dec prog_5_method_16_code 47 = some (.iload 6, 2) := by decide +kernel
theorem dm_X3_numberOf_49 : mj_dec prog_5_method_16_code 49 = some (.invokevirtual 118, 3) := by decide +kernel
theorem dm_X3_numberOf_52 : mj_dec prog_5_method_16_code 52 = some (.ldc2_w 200, 3) := by decide +kernel
theorem dm_X3_numberOf_55 : mj_dec prog_5_method_16_code 55 = some (.lsub, 1) := by decide +kernel
theorem dm_X3_numberOf_56 : mj_dec prog_5_method_16_code 56 = some (.ladd, 1) := by decide +kernel
theorem dm_X3_numberOf_57 : mj_dec prog_5_method_16_code 57 = some (.lstore 4, 2) := by decide +kernel
theorem dm_X3_numberOf_59 : mj_dec prog_5_method_16_code 59 = some (.iinc 6 1, 3) := by decide +kernel
theorem dm_X3_numberOf_62 : mj_dec prog_5_method_16_code 62 = some (.goto (-28), 3) := by decide +kernel
theorem dm_X3_numberOf_65 : mj_dec prog_5_method_16_code 65 = some (.iload_n 3, 1) := by decide +kernel
theorem dm_X3_numberOf_66 : mj_dec prog_5_method_16_code 66 = some (.ifCond .eq 9, 3) := by decide +kernel
theorem dm_X3_numberOf_69 : mj_dec prog_5_method_16_code 69 = some (.lload 4, 2) := by decide +kernel
theorem dm_X3_numberOf_71 : mj_dec prog_5_method_16_code 71 = some (.lneg, 1) := by decide +kernel
theorem dm_X3_numberOf_72 : mj_dec prog_5_method_16_code 72 = some (.goto 5, 3) := by decide +kernel
theorem dm_X3_numberOf_75 : mj_dec prog_5_method_16_code 75 = some (.lload 4, 2) := by decide +kernel
theorem dm_X3_numberOf_77 : mj_dec prog_5_method_16_code 77 = some (.lreturn, 1) := by decide +kernel
theorem o_numberOf {xt : mj_X} {d e p i : Nat} {A : Nat → Prop} {h : mj_H} {v : VV} {f1 : Nat → Value} (hx1 : xt 1 = some (.long, 0, f1)) (hd : 4 ≤ d) (hv : cv A h (e + 1) p v) (hsg : vk v = 1 ∨ vk v = 3) (hi : i < vm v) {x : Nat} (hx : nmS (vn v) i ≤ x) (hxm : x ≤ vm v) : pgP xt d 131 [.ref p, ii (i : Int), ii (x : Int)] h (.long (nmV (vn v) i x)) := by
  obtain ⟨row, fr, vals, hp, hp2, hpA, hvk, hvm, hvc, hvs, hvl⟩ := cv_val hv
  have hnS := nmS_le (vn v) i
  refine x_enter pm_X3_numberOf (L0 := [(0, .ref p), (1, ii (i : Int)), (2, ii (x : Int))]) rfl (Nat.le_of_ble_eq_true rfl) (by omega) ?_
  have cut18 : pgE xt (d - 1) 3 7 false (Option.some Jvm.ClassFile.FieldType.long) (mj_dec prog_5_method_16_code) 18 [(0, .ref p), (1, ii (i : Int)), (2, ii (x : Int)), (3, zz (decide (vn v i = Int64.ofInt 95)))] [] h (fun r h' => r = some (.long (nmV (vn v) i x)) ∧ h' = h) := by
    refine me0 (pc' := 19) (S' := [.long (Int64.ofInt 0)]) dm_X3_numberOf_18 rfl rfl rfl rfl ?_
    refine me1 (pc' := 21) (L' := [(4, .long (Int64.ofInt 0)), (0, .ref p), (1, ii (i : Int)), (2, ii (x : Int)), (3, zz (decide (vn v i = Int64.ofInt 95)))]) (S' := []) dm_X3_numberOf_19 rfl rfl rfl rfl ?_
    refine me1 (pc' := 22) (L' := [(4, .long (Int64.ofInt 0)), (0, .ref p), (1, ii (i : Int)), (2, ii (x : Int)), (3, zz (decide (vn v i = Int64.ofInt 95)))]) (S' := [zz (decide (vn v i = Int64.ofInt 95))]) dm_X3_numberOf_21 rfl rfl rfl rfl ?_
    refine y_zeq (c := decide (vn v i = Int64.ofInt 95)) (t := 31) (pc' := 25) dm_X3_numberOf_22 rfl rfl (fun hb1 => ?_) (fun hb1 => ?_)
    · replace hb1 := dF hb1
      refine me1 (pc' := 32) (L' := [(4, .long (Int64.ofInt 0)), (0, .ref p), (1, ii (i : Int)), (2, ii (x : Int)), (3, zz (decide (vn v i = Int64.ofInt 95)))]) (S' := [ii (i : Int)]) dm_X3_numberOf_31 rfl rfl rfl rfl ?_
      refine pg_st0 (S' := [ii ((nmS (vn v) i + 0 : Nat) : Int)]) (congrArg (fun z => ii z :: []) (by unfold nmS; first | (rw [if_pos (by assumption)]; push_cast; omega) | (rw [if_neg (by assumption)]; rfl))) ?_
      refine me1 (pc' := 34) (L' := [(6, ii ((nmS (vn v) i + 0 : Nat) : Int)), (4, .long (Int64.ofInt 0)), (0, .ref p), (1, ii (i : Int)), (2, ii (x : Int)), (3, zz (decide (vn v i = Int64.ofInt 95)))]) (S' := []) dm_X3_numberOf_32 rfl rfl rfl rfl ?_
      have lp34 : ∀ (n34 : Nat) (t : Nat), x - (nmS (vn v) i + t) = n34 → (nmS (vn v) i + t ≤ x) → pgE xt (d - 1) 3 7 false (Option.some Jvm.ClassFile.FieldType.long) (mj_dec prog_5_method_16_code) 34 [(0, .ref p), (1, ii (i : Int)), (2, ii (x : Int)), (3, zz (decide (vn v i = Int64.ofInt 95))), (4, .long (dgV (vn v) (nmS (vn v) i) t)), (6, ii ((nmS (vn v) i + t : Nat) : Int))] [] h (fun r h' => r = some (.long (nmV (vn v) i x)) ∧ h' = h) := by
        intro n34
        induction n34 using Nat.strongRecOn with
        | ind n34 ih34 =>
          intro t hm34 ht
          refine me1 (pc' := 36) (L' := [(0, .ref p), (1, ii (i : Int)), (2, ii (x : Int)), (3, zz (decide (vn v i = Int64.ofInt 95))), (4, .long (dgV (vn v) (nmS (vn v) i) t)), (6, ii ((nmS (vn v) i + t : Nat) : Int))]) (S' := [ii ((nmS (vn v) i + t : Nat) : Int)]) dm_X3_numberOf_34 rfl rfl rfl rfl ?_
          refine me1 (pc' := 37) (L' := [(0, .ref p), (1, ii (i : Int)), (2, ii (x : Int)), (3, zz (decide (vn v i = Int64.ofInt 95))), (4, .long (dgV (vn v) (nmS (vn v) i) t)), (6, ii ((nmS (vn v) i + t : Nat) : Int))]) (S' := [ii (x : Int), ii ((nmS (vn v) i + t : Nat) : Int)]) dm_X3_numberOf_36 rfl rfl rfl rfl ?_
          refine y_2ge (a := ((nmS (vn v) i + t : Nat) : Int)) (b := (x : Int)) (t := 65) (pc' := 40) dm_X3_numberOf_37 rfl rfl (by omega) (fun hb2 => ?_) (fun hb2 => ?_)
          · refine me1 (pc' := 66) (L' := [(0, .ref p), (1, ii (i : Int)), (2, ii (x : Int)), (3, zz (decide (vn v i = Int64.ofInt 95))), (4, .long (dgV (vn v) (nmS (vn v) i) t)), (6, ii ((nmS (vn v) i + t : Nat) : Int))]) (S' := [zz (decide (vn v i = Int64.ofInt 95))]) dm_X3_numberOf_65 rfl rfl rfl rfl ?_
            refine y_zeq (c := decide (vn v i = Int64.ofInt 95)) (t := 75) (pc' := 69) dm_X3_numberOf_66 rfl rfl (fun hb3 => ?_) (fun hb3 => ?_)
            · replace hb3 := dF hb3
              refine me1 (pc' := 77) (L' := [(0, .ref p), (1, ii (i : Int)), (2, ii (x : Int)), (3, zz (decide (vn v i = Int64.ofInt 95))), (4, .long (dgV (vn v) (nmS (vn v) i) t)), (6, ii ((nmS (vn v) i + t : Nat) : Int))]) (S' := [.long (dgV (vn v) (nmS (vn v) i) t)]) dm_X3_numberOf_75 rfl rfl rfl rfl ?_
              refine y_ret (r := some (.long (dgV (vn v) (nmS (vn v) i) t))) dm_X3_numberOf_77 rfl rfl rfl ?_
              refine ⟨congrArg some (congrArg Value.long ?_), rfl⟩
              have htx : t = x - nmS (vn v) i := by omega
              unfold nmV
              rw [htx]
              first | (rw [if_pos (by assumption)]; done) | (rw [if_neg (by assumption)]; done) | (exfalso; contradiction)
            · replace hb3 := dT hb3
              refine me1 (pc' := 71) (L' := [(0, .ref p), (1, ii (i : Int)), (2, ii (x : Int)), (3, zz (decide (vn v i = Int64.ofInt 95))), (4, .long (dgV (vn v) (nmS (vn v) i) t)), (6, ii ((nmS (vn v) i + t : Nat) : Int))]) (S' := [.long (dgV (vn v) (nmS (vn v) i) t)]) dm_X3_numberOf_69 rfl rfl rfl rfl ?_
              refine me0 (pc' := 72) (S' := [.long (-(dgV (vn v) (nmS (vn v) i) t))]) dm_X3_numberOf_71 rfl rfl rfl rfl ?_
              refine me2 (pc' := 77) (S' := [.long (-(dgV (vn v) (nmS (vn v) i) t))]) dm_X3_numberOf_72 rfl rfl rfl ?_
              refine y_ret (r := some (.long (-(dgV (vn v) (nmS (vn v) i) t)))) dm_X3_numberOf_77 rfl rfl rfl ?_
              refine ⟨congrArg some (congrArg Value.long ?_), rfl⟩
              have htx : t = x - nmS (vn v) i := by omega
              unfold nmV
              rw [htx]
              first | (rw [if_pos (by assumption)]; done) | (rw [if_neg (by assumption)]; done) | (exfalso; contradiction)
          · refine me1 (pc' := 42) (L' := [(0, .ref p), (1, ii (i : Int)), (2, ii (x : Int)), (3, zz (decide (vn v i = Int64.ofInt 95))), (4, .long (dgV (vn v) (nmS (vn v) i) t)), (6, ii ((nmS (vn v) i + t : Nat) : Int))]) (S' := [.long (dgV (vn v) (nmS (vn v) i) t)]) dm_X3_numberOf_40 rfl rfl rfl rfl ?_
            refine me3 (pc' := 45) (S' := [.long (Int64.ofInt 10), .long (dgV (vn v) (nmS (vn v) i) t)]) dm_X3_numberOf_42 rfl rfl rfl rfl ?_
            refine me0 (pc' := 46) (S' := [.long ((dgV (vn v) (nmS (vn v) i) t) * (Int64.ofInt 10))]) dm_X3_numberOf_45 rfl rfl rfl rfl ?_
            refine me1 (pc' := 47) (L' := [(0, .ref p), (1, ii (i : Int)), (2, ii (x : Int)), (3, zz (decide (vn v i = Int64.ofInt 95))), (4, .long (dgV (vn v) (nmS (vn v) i) t)), (6, ii ((nmS (vn v) i + t : Nat) : Int))]) (S' := [.ref p, .long ((dgV (vn v) (nmS (vn v) i) t) * (Int64.ofInt 10))]) dm_X3_numberOf_46 rfl rfl rfl rfl ?_
            refine me1 (pc' := 49) (L' := [(0, .ref p), (1, ii (i : Int)), (2, ii (x : Int)), (3, zz (decide (vn v i = Int64.ofInt 95))), (4, .long (dgV (vn v) (nmS (vn v) i) t)), (6, ii ((nmS (vn v) i + t : Nat) : Int))]) (S' := [ii ((nmS (vn v) i + t : Nat) : Int), .ref p, .long ((dgV (vn v) (nmS (vn v) i) t) * (Int64.ofInt 10))]) dm_X3_numberOf_47 rfl rfl rfl rfl ?_
            have hvn : vnum v ((nmS (vn v) i + t : Nat) : Int) = vn v (nmS (vn v) i + t) := vnum_s hv.1 hsg (by omega)
            refine x_cp (pc' := 52) (v := .long (vn v (nmS (vn v) i + t))) (rest := [.long ((dgV (vn v) (nmS (vn v) i) t) * (Int64.ofInt 10))]) dm_X3_numberOf_49 rfl (g_inv (As := [ii ((nmS (vn v) i + t : Nat) : Int)]) (S := [.long ((dgV (vn v) (nmS (vn v) i) t) * (Int64.ofInt 10))]) hp rfl rfl rfl (by omega)) rfl rfl rfl ((show pgP xt (d - 1) _ _ _ (.long (vn v (nmS (vn v) i + t))) from hvn ▸ c_numberAt (i := ((nmS (vn v) i + t : Nat) : Int)) hx1 (by omega) hv (by omega))) ?_
            refine me3 (pc' := 55) (S' := [.long (Int64.ofInt 48), .long (vn v (nmS (vn v) i + t)), .long ((dgV (vn v) (nmS (vn v) i) t) * (Int64.ofInt 10))]) dm_X3_numberOf_52 rfl rfl rfl rfl ?_
            refine me0 (pc' := 56) (S' := [.long ((vn v (nmS (vn v) i + t)) - (Int64.ofInt 48)), .long ((dgV (vn v) (nmS (vn v) i) t) * (Int64.ofInt 10))]) dm_X3_numberOf_55 rfl rfl rfl rfl ?_
            refine me0 (pc' := 57) (S' := [.long (((dgV (vn v) (nmS (vn v) i) t) * (Int64.ofInt 10)) + ((vn v (nmS (vn v) i + t)) - (Int64.ofInt 48)))]) dm_X3_numberOf_56 rfl rfl rfl rfl ?_
            refine me1 (pc' := 59) (L' := [(4, .long (((dgV (vn v) (nmS (vn v) i) t) * (Int64.ofInt 10)) + ((vn v (nmS (vn v) i + t)) - (Int64.ofInt 48)))), (0, .ref p), (1, ii (i : Int)), (2, ii (x : Int)), (3, zz (decide (vn v i = Int64.ofInt 95))), (6, ii ((nmS (vn v) i + t : Nat) : Int))]) (S' := []) dm_X3_numberOf_57 rfl rfl rfl rfl ?_
            refine y_iinc (pc' := 62) (L' := [(6, ii (((nmS (vn v) i + t : Nat) : Int) + 1)), (4, .long (((dgV (vn v) (nmS (vn v) i) t) * (Int64.ofInt 10)) + ((vn v (nmS (vn v) i + t)) - (Int64.ofInt 48)))), (0, .ref p), (1, ii (i : Int)), (2, ii (x : Int)), (3, zz (decide (vn v i = Int64.ofInt 95)))]) dm_X3_numberOf_59 (y_incp (a := ((nmS (vn v) i + t : Nat) : Int)) (c := 1) rfl rfl (by decide)) rfl ?_
            refine me2 (pc' := 34) (S' := []) dm_X3_numberOf_62 rfl rfl rfl ?_
            exact pg_sub (L := [(0, .ref p), (1, ii (i : Int)), (2, ii (x : Int)), (3, zz (decide (vn v i = Int64.ofInt 95))), (4, .long (dgV (vn v) (nmS (vn v) i) (t + 1))), (6, ii ((nmS (vn v) i + (t + 1) : Nat) : Int))]) rfl rfl rfl (ih34 (x - (nmS (vn v) i + (t + 1))) (by omega) (t + 1) rfl (by omega))
      exact pg_sub (L := [(0, .ref p), (1, ii (i : Int)), (2, ii (x : Int)), (3, zz (decide (vn v i = Int64.ofInt 95))), (4, .long (dgV (vn v) (nmS (vn v) i) 0)), (6, ii ((nmS (vn v) i + 0 : Nat) : Int))]) rfl rfl rfl (lp34 _ 0 rfl (by omega))
    · replace hb1 := dT hb1
      refine me1 (pc' := 26) (L' := [(4, .long (Int64.ofInt 0)), (0, .ref p), (1, ii (i : Int)), (2, ii (x : Int)), (3, zz (decide (vn v i = Int64.ofInt 95)))]) (S' := [ii (i : Int)]) dm_X3_numberOf_25 rfl rfl rfl rfl ?_
      refine me0 (pc' := 27) (S' := [ii 1, ii (i : Int)]) dm_X3_numberOf_26 rfl rfl rfl rfl ?_
      refine y_iadd (a := (i : Int)) (b := 1) dm_X3_numberOf_27 (pc' := 28) rfl ?_
      refine me2 (pc' := 32) (S' := [ii ((i : Int) + 1)]) dm_X3_numberOf_28 rfl rfl rfl ?_
      refine pg_st0 (S' := [ii ((nmS (vn v) i + 0 : Nat) : Int)]) (congrArg (fun z => ii z :: []) (by unfold nmS; first | (rw [if_pos (by assumption)]; push_cast; omega) | (rw [if_neg (by assumption)]; rfl))) ?_
      refine me1 (pc' := 34) (L' := [(6, ii ((nmS (vn v) i + 0 : Nat) : Int)), (4, .long (Int64.ofInt 0)), (0, .ref p), (1, ii (i : Int)), (2, ii (x : Int)), (3, zz (decide (vn v i = Int64.ofInt 95)))]) (S' := []) dm_X3_numberOf_32 rfl rfl rfl rfl ?_
      have lp34 : ∀ (n34 : Nat) (t : Nat), x - (nmS (vn v) i + t) = n34 → (nmS (vn v) i + t ≤ x) → pgE xt (d - 1) 3 7 false (Option.some Jvm.ClassFile.FieldType.long) (mj_dec prog_5_method_16_code) 34 [(0, .ref p), (1, ii (i : Int)), (2, ii (x : Int)), (3, zz (decide (vn v i = Int64.ofInt 95))), (4, .long (dgV (vn v) (nmS (vn v) i) t)), (6, ii ((nmS (vn v) i + t : Nat) : Int))] [] h (fun r h' => r = some (.long (nmV (vn v) i x)) ∧ h' = h) := by
        intro n34
        induction n34 using Nat.strongRecOn with
        | ind n34 ih34 =>
          intro t hm34 ht
          refine me1 (pc' := 36) (L' := [(0, .ref p), (1, ii (i : Int)), (2, ii (x : Int)), (3, zz (decide (vn v i = Int64.ofInt 95))), (4, .long (dgV (vn v) (nmS (vn v) i) t)), (6, ii ((nmS (vn v) i + t : Nat) : Int))]) (S' := [ii ((nmS (vn v) i + t : Nat) : Int)]) dm_X3_numberOf_34 rfl rfl rfl rfl ?_
          refine me1 (pc' := 37) (L' := [(0, .ref p), (1, ii (i : Int)), (2, ii (x : Int)), (3, zz (decide (vn v i = Int64.ofInt 95))), (4, .long (dgV (vn v) (nmS (vn v) i) t)), (6, ii ((nmS (vn v) i + t : Nat) : Int))]) (S' := [ii (x : Int), ii ((nmS (vn v) i + t : Nat) : Int)]) dm_X3_numberOf_36 rfl rfl rfl rfl ?_
          refine y_2ge (a := ((nmS (vn v) i + t : Nat) : Int)) (b := (x : Int)) (t := 65) (pc' := 40) dm_X3_numberOf_37 rfl rfl (by omega) (fun hb4 => ?_) (fun hb4 => ?_)
          · refine me1 (pc' := 66) (L' := [(0, .ref p), (1, ii (i : Int)), (2, ii (x : Int)), (3, zz (decide (vn v i = Int64.ofInt 95))), (4, .long (dgV (vn v) (nmS (vn v) i) t)), (6, ii ((nmS (vn v) i + t : Nat) : Int))]) (S' := [zz (decide (vn v i = Int64.ofInt 95))]) dm_X3_numberOf_65 rfl rfl rfl rfl ?_
            refine y_zeq (c := decide (vn v i = Int64.ofInt 95)) (t := 75) (pc' := 69) dm_X3_numberOf_66 rfl rfl (fun hb5 => ?_) (fun hb5 => ?_)
            · replace hb5 := dF hb5
              refine me1 (pc' := 77) (L' := [(0, .ref p), (1, ii (i : Int)), (2, ii (x : Int)), (3, zz (decide (vn v i = Int64.ofInt 95))), (4, .long (dgV (vn v) (nmS (vn v) i) t)), (6, ii ((nmS (vn v) i + t : Nat) : Int))]) (S' := [.long (dgV (vn v) (nmS (vn v) i) t)]) dm_X3_numberOf_75 rfl rfl rfl rfl ?_
              refine y_ret (r := some (.long (dgV (vn v) (nmS (vn v) i) t))) dm_X3_numberOf_77 rfl rfl rfl ?_
              refine ⟨congrArg some (congrArg Value.long ?_), rfl⟩
              have htx : t = x - nmS (vn v) i := by omega
              unfold nmV
              rw [htx]
              first | (rw [if_pos (by assumption)]; done) | (rw [if_neg (by assumption)]; done) | (exfalso; contradiction)
            · replace hb5 := dT hb5
              refine me1 (pc' := 71) (L' := [(0, .ref p), (1, ii (i : Int)), (2, ii (x : Int)), (3, zz (decide (vn v i = Int64.ofInt 95))), (4, .long (dgV (vn v) (nmS (vn v) i) t)), (6, ii ((nmS (vn v) i + t : Nat) : Int))]) (S' := [.long (dgV (vn v) (nmS (vn v) i) t)]) dm_X3_numberOf_69 rfl rfl rfl rfl ?_
              refine me0 (pc' := 72) (S' := [.long (-(dgV (vn v) (nmS (vn v) i) t))]) dm_X3_numberOf_71 rfl rfl rfl rfl ?_
              refine me2 (pc' := 77) (S' := [.long (-(dgV (vn v) (nmS (vn v) i) t))]) dm_X3_numberOf_72 rfl rfl rfl ?_
              refine y_ret (r := some (.long (-(dgV (vn v) (nmS (vn v) i) t)))) dm_X3_numberOf_77 rfl rfl rfl ?_
              refine ⟨congrArg some (congrArg Value.long ?_), rfl⟩
              have htx : t = x - nmS (vn v) i := by omega
              unfold nmV
              rw [htx]
              first | (rw [if_pos (by assumption)]; done) | (rw [if_neg (by assumption)]; done) | (exfalso; contradiction)
          · refine me1 (pc' := 42) (L' := [(0, .ref p), (1, ii (i : Int)), (2, ii (x : Int)), (3, zz (decide (vn v i = Int64.ofInt 95))), (4, .long (dgV (vn v) (nmS (vn v) i) t)), (6, ii ((nmS (vn v) i + t : Nat) : Int))]) (S' := [.long (dgV (vn v) (nmS (vn v) i) t)]) dm_X3_numberOf_40 rfl rfl rfl rfl ?_
            refine me3 (pc' := 45) (S' := [.long (Int64.ofInt 10), .long (dgV (vn v) (nmS (vn v) i) t)]) dm_X3_numberOf_42 rfl rfl rfl rfl ?_
            refine me0 (pc' := 46) (S' := [.long ((dgV (vn v) (nmS (vn v) i) t) * (Int64.ofInt 10))]) dm_X3_numberOf_45 rfl rfl rfl rfl ?_
            refine me1 (pc' := 47) (L' := [(0, .ref p), (1, ii (i : Int)), (2, ii (x : Int)), (3, zz (decide (vn v i = Int64.ofInt 95))), (4, .long (dgV (vn v) (nmS (vn v) i) t)), (6, ii ((nmS (vn v) i + t : Nat) : Int))]) (S' := [.ref p, .long ((dgV (vn v) (nmS (vn v) i) t) * (Int64.ofInt 10))]) dm_X3_numberOf_46 rfl rfl rfl rfl ?_
            refine me1 (pc' := 49) (L' := [(0, .ref p), (1, ii (i : Int)), (2, ii (x : Int)), (3, zz (decide (vn v i = Int64.ofInt 95))), (4, .long (dgV (vn v) (nmS (vn v) i) t)), (6, ii ((nmS (vn v) i + t : Nat) : Int))]) (S' := [ii ((nmS (vn v) i + t : Nat) : Int), .ref p, .long ((dgV (vn v) (nmS (vn v) i) t) * (Int64.ofInt 10))]) dm_X3_numberOf_47 rfl rfl rfl rfl ?_
            have hvn : vnum v ((nmS (vn v) i + t : Nat) : Int) = vn v (nmS (vn v) i + t) := vnum_s hv.1 hsg (by omega)
            refine x_cp (pc' := 52) (v := .long (vn v (nmS (vn v) i + t))) (rest := [.long ((dgV (vn v) (nmS (vn v) i) t) * (Int64.ofInt 10))]) dm_X3_numberOf_49 rfl (g_inv (As := [ii ((nmS (vn v) i + t : Nat) : Int)]) (S := [.long ((dgV (vn v) (nmS (vn v) i) t) * (Int64.ofInt 10))]) hp rfl rfl rfl (by omega)) rfl rfl rfl ((show pgP xt (d - 1) _ _ _ (.long (vn v (nmS (vn v) i + t))) from hvn ▸ c_numberAt (i := ((nmS (vn v) i + t : Nat) : Int)) hx1 (by omega) hv (by omega))) ?_
            refine me3 (pc' := 55) (S' := [.long (Int64.ofInt 48), .long (vn v (nmS (vn v) i + t)), .long ((dgV (vn v) (nmS (vn v) i) t) * (Int64.ofInt 10))]) dm_X3_numberOf_52 rfl rfl rfl rfl ?_
            refine me0 (pc' := 56) (S' := [.long ((vn v (nmS (vn v) i + t)) - (Int64.ofInt 48)), .long ((dgV (vn v) (nmS (vn v) i) t) * (Int64.ofInt 10))]) dm_X3_numberOf_55 rfl rfl rfl rfl ?_
            refine me0 (pc' := 57) (S' := [.long (((dgV (vn v) (nmS (vn v) i) t) * (Int64.ofInt 10)) + ((vn v (nmS (vn v) i + t)) - (Int64.ofInt 48)))]) dm_X3_numberOf_56 rfl rfl rfl rfl ?_
            refine me1 (pc' := 59) (L' := [(4, .long (((dgV (vn v) (nmS (vn v) i) t) * (Int64.ofInt 10)) + ((vn v (nmS (vn v) i + t)) - (Int64.ofInt 48)))), (0, .ref p), (1, ii (i : Int)), (2, ii (x : Int)), (3, zz (decide (vn v i = Int64.ofInt 95))), (6, ii ((nmS (vn v) i + t : Nat) : Int))]) (S' := []) dm_X3_numberOf_57 rfl rfl rfl rfl ?_
            refine y_iinc (pc' := 62) (L' := [(6, ii (((nmS (vn v) i + t : Nat) : Int) + 1)), (4, .long (((dgV (vn v) (nmS (vn v) i) t) * (Int64.ofInt 10)) + ((vn v (nmS (vn v) i + t)) - (Int64.ofInt 48)))), (0, .ref p), (1, ii (i : Int)), (2, ii (x : Int)), (3, zz (decide (vn v i = Int64.ofInt 95)))]) dm_X3_numberOf_59 (y_incp (a := ((nmS (vn v) i + t : Nat) : Int)) (c := 1) rfl rfl (by decide)) rfl ?_
            refine me2 (pc' := 34) (S' := []) dm_X3_numberOf_62 rfl rfl rfl ?_
            exact pg_sub (L := [(0, .ref p), (1, ii (i : Int)), (2, ii (x : Int)), (3, zz (decide (vn v i = Int64.ofInt 95))), (4, .long (dgV (vn v) (nmS (vn v) i) (t + 1))), (6, ii ((nmS (vn v) i + (t + 1) : Nat) : Int))]) rfl rfl rfl (ih34 (x - (nmS (vn v) i + (t + 1))) (by omega) (t + 1) rfl (by omega))
      exact pg_sub (L := [(0, .ref p), (1, ii (i : Int)), (2, ii (x : Int)), (3, zz (decide (vn v i = Int64.ofInt 95))), (4, .long (dgV (vn v) (nmS (vn v) i) 0)), (6, ii ((nmS (vn v) i + 0 : Nat) : Int))]) rfl rfl rfl (lp34 _ 0 rfl (by omega))
  refine me1 (pc' := 1) (L' := [(0, .ref p), (1, ii (i : Int)), (2, ii (x : Int))]) (S' := [.ref p]) dm_X3_numberOf_0 rfl rfl rfl rfl ?_
  refine me1 (pc' := 2) (L' := [(0, .ref p), (1, ii (i : Int)), (2, ii (x : Int))]) (S' := [ii (i : Int), .ref p]) dm_X3_numberOf_1 rfl rfl rfl rfl ?_
  have hvn : vnum v ((i : Nat) : Int) = vn v (i) := vnum_s hv.1 hsg (by omega)
  refine x_cp (pc' := 5) (v := .long (vn v (i))) (rest := []) dm_X3_numberOf_2 rfl (g_inv (As := [ii (i : Int)]) (S := []) hp rfl rfl rfl (by omega)) rfl rfl rfl ((show pgP xt (d - 1) _ _ _ (.long (vn v (i))) from hvn ▸ c_numberAt (i := ((i : Nat) : Int)) hx1 (by omega) hv (by omega))) ?_
  refine me3 (pc' := 8) (S' := [.long (Int64.ofInt 95), .long (vn v (i))]) dm_X3_numberOf_5 rfl rfl rfl rfl ?_
  refine y_lne (x := vn v (i)) (y := Int64.ofInt 95) (t := 16) (pc1 := 9) (pc' := 12) dm_X3_numberOf_8 rfl dm_X3_numberOf_9 rfl rfl (fun hb6 => ?_) (fun hb6 => ?_)
  · refine me0 (pc' := 17) (S' := [ii 0]) dm_X3_numberOf_16 rfl rfl rfl rfl ?_
    refine pg_st0 (S' := [zz (decide (vn v i = Int64.ofInt 95))]) (congrArg (fun z => z :: []) (zf (by assumption))) ?_
    refine me1 (pc' := 18) (L' := [(3, zz (decide (vn v i = Int64.ofInt 95))), (0, .ref p), (1, ii (i : Int)), (2, ii (x : Int))]) (S' := []) dm_X3_numberOf_17 rfl rfl rfl rfl ?_
    exact pg_sub (L := [(0, .ref p), (1, ii (i : Int)), (2, ii (x : Int)), (3, zz (decide (vn v i = Int64.ofInt 95)))]) rfl rfl rfl (cut18 )
  · refine me0 (pc' := 13) (S' := [ii 1]) dm_X3_numberOf_12 rfl rfl rfl rfl ?_
    refine me2 (pc' := 17) (S' := [ii 1]) dm_X3_numberOf_13 rfl rfl rfl ?_
    refine pg_st0 (S' := [zz (decide (vn v i = Int64.ofInt 95))]) (congrArg (fun z => z :: []) (zt (by assumption))) ?_
    refine me1 (pc' := 18) (L' := [(3, zz (decide (vn v i = Int64.ofInt 95))), (0, .ref p), (1, ii (i : Int)), (2, ii (x : Int))]) (S' := []) dm_X3_numberOf_17 rfl rfl rfl rfl ?_
    exact pg_sub (L := [(0, .ref p), (1, ii (i : Int)), (2, ii (x : Int)), (3, zz (decide (vn v i = Int64.ofInt 95)))]) rfl rfl rfl (cut18 )
set_option maxRecDepth 20000 in
theorem pm_X3_numbersTold : mj_mmof pg_ms 129 = some ((⟨"ArrayCalculator$OneAct", "numbersTold", "(LArrayCalculator$Value;)LArrayCalculator$Value;"⟩, prog_5_method_14_code, 6, (Option.some (Jvm.ClassFile.FieldType.object "ArrayCalculator$Value"))), 3, false, mj_dec prog_5_method_14_code) := rfl
theorem dm_X3_numbersTold_0 : mj_dec prog_5_method_14_code 0 = some (.aload_n 1, 1) := by decide +kernel
theorem dm_X3_numbersTold_1 : mj_dec prog_5_method_14_code 1 = some (.invokevirtual 179, 3) := by decide +kernel
theorem dm_X3_numbersTold_4 : mj_dec prog_5_method_14_code 4 = some (.ifCond .ne 8, 3) := by decide +kernel
theorem dm_X3_numbersTold_7 : mj_dec prog_5_method_14_code 7 = some (.iconst 3, 1) := by decide +kernel
theorem dm_X3_numbersTold_8 : mj_dec prog_5_method_14_code 8 = some (.invokestatic 68, 3) := by decide +kernel
theorem dm_X3_numbersTold_11 : mj_dec prog_5_method_14_code 11 = some (.areturn, 1) := by decide +kernel
theorem dm_X3_numbersTold_12 : mj_dec prog_5_method_14_code 12 = some (.iconst 0, 1) := by decide +kernel
theorem dm_X3_numbersTold_13 : mj_dec prog_5_method_14_code 13 = some (.istore_n 2, 1) := by decide +kernel
theorem dm_X3_numbersTold_14 : mj_dec prog_5_method_14_code 14 = some (.iconst 0, 1) := by decide +kernel
theorem dm_X3_numbersTold_15 : mj_dec prog_5_method_14_code 15 = some (.istore_n 3, 1) := by decide +kernel
theorem dm_X3_numbersTold_16 : mj_dec prog_5_method_14_code 16 = some (.iconst 0, 1) := by decide +kernel
theorem dm_X3_numbersTold_17 : mj_dec prog_5_method_14_code 17 = some (.istore 4, 2) := by decide +kernel
theorem dm_X3_numbersTold_19 : mj_dec prog_5_method_14_code 19 = some (.iload 4, 2) := by decide +kernel
theorem dm_X3_numbersTold_21 : mj_dec prog_5_method_14_code 21 = some (.bipush 120, 2) := by decide +kernel
theorem dm_X3_numbersTold_23 : mj_dec prog_5_method_14_code 23 = some (.if_icmp .ge 71, 3) := by decide +kernel
theorem dm_X3_numbersTold_26 : mj_dec prog_5_method_14_code 26 = some (.iload_n 3, 1) := by decide +kernel
theorem dm_X3_numbersTold_27 : mj_dec prog_5_method_14_code 27 = some (.aload_n 1, 1) := by decide +kernel
theorem dm_X3_numbersTold_28 : mj_dec prog_5_method_14_code 28 = some (.getfield 76, 3) := by decide +kernel
theorem dm_X3_numbersTold_31 : mj_dec prog_5_method_14_code 31 = some (.if_icmp .ge 63, 3) := by decide +kernel
theorem dm_X3_numbersTold_34 : mj_dec prog_5_method_14_code 34 = some (.aload_n 1, 1) := by decide +kernel
theorem dm_X3_numbersTold_35 : mj_dec prog_5_method_14_code 35 = some (.iload_n 3, 1) := by decide +kernel
theorem dm_X3_numbersTold_36 : mj_dec prog_5_method_14_code 36 = some (.invokevirtual 118, 3) := by decide +kernel
theorem dm_X3_numbersTold_39 : mj_dec prog_5_method_14_code 39 = some (.ldc2_w 182, 3) := by decide +kernel
theorem dm_X3_numbersTold_42 : mj_dec prog_5_method_14_code 42 = some (.lcmp, 1) := by decide +kernel
theorem dm_X3_numbersTold_43 : mj_dec prog_5_method_14_code 43 = some (.ifCond .ne 9, 3) := by decide +kernel
theorem dm_X3_numbersTold_46 : mj_dec prog_5_method_14_code 46 = some (.iinc 3 1, 3) := by decide +kernel
theorem dm_X3_numbersTold_49 : mj_dec prog_5_method_14_code 49 = some (.goto 39, 3) := by decide +kernel
theorem dm_X3_numbersTold_52 : mj_dec prog_5_method_14_code 52 = some (.aload_n 1, 1) := by decide +kernel
theorem dm_X3_numbersTold_53 : mj_dec prog_5_method_14_code 53 = some (.iload_n 3, 1) := by decide +kernel
theorem dm_X3_numbersTold_54 : mj_dec prog_5_method_14_code 54 = some (.invokestatic 184, 3) := by decide +kernel
theorem dm_X3_numbersTold_57 : mj_dec prog_5_method_14_code 57 = some (.istore 5, 2) := by decide +kernel
theorem dm_X3_numbersTold_59 : mj_dec prog_5_method_14_code 59 = some (.iload 5, 2) := by decide +kernel
theorem dm_X3_numbersTold_61 : mj_dec prog_5_method_14_code 61 = some (.ifCond .ge 8, 3) := by decide +kernel
theorem dm_X3_numbersTold_64 : mj_dec prog_5_method_14_code 64 = some (.iconst 5, 1) := by decide +kernel
theorem dm_X3_numbersTold_65 : mj_dec prog_5_method_14_code 65 = some (.invokestatic 68, 3) := by decide +kernel
theorem dm_X3_numbersTold_68 : mj_dec prog_5_method_14_code 68 = some (.areturn, 1) := by decide +kernel
theorem dm_X3_numbersTold_69 : mj_dec prog_5_method_14_code 69 = some (.aload_n 0, 1) := by decide +kernel
theorem dm_X3_numbersTold_70 : mj_dec prog_5_method_14_code 70 = some (.getfield 15, 3) := by decide +kernel
theorem dm_X3_numbersTold_73 : mj_dec prog_5_method_14_code 73 = some (.iload_n 2, 1) := by decide +kernel
theorem dm_X3_numbersTold_74 : mj_dec prog_5_method_14_code 74 = some (.aload_n 1, 1) := by decide +kernel
theorem dm_X3_numbersTold_75 : mj_dec prog_5_method_14_code 75 = some (.iload_n 3, 1) := by decide +kernel
theorem dm_X3_numbersTold_76 : mj_dec prog_5_method_14_code 76 = some (.iload 5, 2) := by decide +kernel
theorem dm_X3_numbersTold_78 : mj_dec prog_5_method_14_code 78 = some (.invokestatic 188, 3) := by decide +kernel
theorem dm_X3_numbersTold_81 : mj_dec prog_5_method_14_code 81 = some (.lastore, 1) := by decide +kernel
theorem dm_X3_numbersTold_82 : mj_dec prog_5_method_14_code 82 = some (.iinc 2 1, 3) := by decide +kernel
theorem dm_X3_numbersTold_85 : mj_dec prog_5_method_14_code 85 = some (.iload 5, 2) := by decide +kernel
theorem dm_X3_numbersTold_87 : mj_dec prog_5_method_14_code 87 = some (.istore_n 3, 1) := by decide +kernel
theorem dm_X3_numbersTold_88 : mj_dec prog_5_method_14_code 88 = some (.iinc 4 1, 3) := by decide +kernel
theorem dm_X3_numbersTold_91 : mj_dec prog_5_method_14_code 91 = some (.goto (-72), 3) := by decide +kernel
theorem dm_X3_numbersTold_94 : mj_dec prog_5_method_14_code 94 = some (.aload_n 0, 1) := by decide +kernel
theorem dm_X3_numbersTold_95 : mj_dec prog_5_method_14_code 95 = some (.getfield 15, 3) := by decide +kernel
theorem dm_X3_numbersTold_98 : mj_dec prog_5_method_14_code 98 = some (.iload_n 2, 1) := by decide +kernel
theorem dm_X3_numbersTold_99 : mj_dec prog_5_method_14_code 99 = some (.invokestatic 129, 3) := by decide +kernel
theorem dm_X3_numbersTold_102 : mj_dec prog_5_method_14_code 102 = some (.invokestatic 135, 3) := by decide +kernel
theorem dm_X3_numbersTold_105 : mj_dec prog_5_method_14_code 105 = some (.areturn, 1) := by decide +kernel
theorem o_numbersTold {xt : mj_X} {d e p : Nat} {A : Nat → Prop} {h : mj_H} {v : VV} {f1 : Nat → Value} (hx1 : xt 1 = some (.long, 0, f1)) (hd : 8 ≤ d) (hl : 127 ≤ h.length) (hA : okA A h) (hH : actH h) (hv : cv A h (e + 1) p v) (he : e ≤ 20) (hset : vsz (e + 1) v ≤ 1000) : pgV xt d 129 [.ref 17, .ref p] h (aact A h (e + 1) (m_told v) 2 (rsl (m_told v))) := by
  have h17 := hH.1
  obtain ⟨pf0, h18⟩ := hH.2.1
  obtain ⟨nf0, h19⟩ := hH.2.2.1
  have hcv := vw1_c hv.1
  obtain ⟨row, fr, vals, hp, hp2, hpA, hvk, hvm, hvc, hvs, hvl⟩ := cv_val hv
  have hpb := hA p hpA
  refine x_enter pm_X3_numbersTold (L0 := [(0, .ref 17), (1, .ref p)]) rfl (Nat.le_of_ble_eq_true rfl) (by omega) ?_
  refine me1 (pc' := 1) (L' := [(0, .ref 17), (1, .ref p)]) (S' := [.ref p]) dm_X3_numbersTold_0 rfl rfl rfl rfl ?_
  refine x_cp (pc' := 4) (v := zz (decide (vk v = 1 ∨ vk v = 3))) (rest := []) dm_X3_numbersTold_1 rfl (g_inv (As := []) (S := []) hp rfl rfl rfl (by omega)) rfl rfl rfl (c_ofSigns (by omega) hv) ?_
  refine y_zne (c := decide (vk v = 1 ∨ vk v = 3)) (t := 12) (pc' := 7) dm_X3_numbersTold_4 rfl rfl (fun hb1 => ?_) (fun hb1 => ?_)
  · replace hb1 := dT hb1
    have hsg := hb1
    refine me0 (pc' := 13) (S' := [ii 0]) dm_X3_numbersTold_12 rfl rfl rfl rfl ?_
    refine me1 (pc' := 14) (L' := [(2, ii 0), (0, .ref 17), (1, .ref p)]) (S' := []) dm_X3_numbersTold_13 rfl rfl rfl rfl ?_
    refine me0 (pc' := 15) (S' := [ii 0]) dm_X3_numbersTold_14 rfl rfl rfl rfl ?_
    refine me1 (pc' := 16) (L' := [(3, ii 0), (2, ii 0), (0, .ref 17), (1, .ref p)]) (S' := []) dm_X3_numbersTold_15 rfl rfl rfl rfl ?_
    refine me0 (pc' := 17) (S' := [ii 0]) dm_X3_numbersTold_16 rfl rfl rfl rfl ?_
    refine me1 (pc' := 19) (L' := [(4, ii 0), (3, ii 0), (2, ii 0), (0, .ref 17), (1, .ref p)]) (S' := []) dm_X3_numbersTold_17 rfl rfl rfl rfl ?_
    have lp19 : ∀ (n19 : Nat) (a : Nat) (n : Nat) (t : Nat) (G : Nat → Int64) (g : Nat → Int64), vm v - a = n19 → (a ≤ vm v) → (n ≤ a) → (t ≤ a) → (tldT (vn v) (vm v) 0 0 (fun _ => 0) = tldT (vn v) (vm v) a n g) → (∀ j, j < n → G j = g j) → pgE xt (d - 1) 3 6 false (Option.some (Jvm.ClassFile.FieldType.object "ArrayCalculator$Value")) (mj_dec prog_5_method_14_code) 19 [(0, .ref 17), (1, .ref p), (2, ii ((n : Nat) : Int)), (3, ii ((a : Nat) : Int)), (4, ii ((t : Nat) : Int))] [] ((h).set 19 (cJ 144 G)) (fun r h' => ∃ x, r = some x ∧ aact A h (e + 1) (m_told v) 2 (rsl (m_told v)) x h') := by
      intro n19
      induction n19 using Nat.strongRecOn with
      | ind n19 ih19 =>
        intro a n t G g hm19 ha hn ht hT hG
        refine me1 (pc' := 21) (L' := [(0, .ref 17), (1, .ref p), (2, ii ((n : Nat) : Int)), (3, ii ((a : Nat) : Int)), (4, ii ((t : Nat) : Int))]) (S' := [ii ((t : Nat) : Int)]) dm_X3_numbersTold_19 rfl rfl rfl rfl ?_
        refine me0 (pc' := 23) (S' := [ii 120, ii ((t : Nat) : Int)]) dm_X3_numbersTold_21 rfl rfl rfl rfl ?_
        refine y_2ge (a := ((t : Nat) : Int)) (b := 120) (t := 94) (pc' := 26) dm_X3_numbersTold_23 rfl rfl (by omega) (fun hb2 => ?_) (fun hb2 => ?_)
        · refine me1 (pc' := 95) (L' := [(0, .ref 17), (1, .ref p), (2, ii ((n : Nat) : Int)), (3, ii ((a : Nat) : Int)), (4, ii ((t : Nat) : Int))]) (S' := [.ref 17]) dm_X3_numbersTold_94 rfl rfl rfl rfl ?_
          refine me3 (pc' := 98) (S' := [.ref 19]) dm_X3_numbersTold_95 (g_get (v := .ref 19) (hl_ne (by decide) h17) rfl rfl (by decide)) rfl rfl rfl ?_
          refine me1 (pc' := 99) (L' := [(0, .ref 17), (1, .ref p), (2, ii ((n : Nat) : Int)), (3, ii ((a : Nat) : Int)), (4, ii ((t : Nat) : Int))]) (S' := [ii ((n : Nat) : Int), .ref 19]) dm_X3_numbersTold_98 rfl rfl rfl rfl ?_
          refine x_cv (pc' := 102) (rest := []) dm_X3_numbersTold_99 rfl (g_invs (As := [.ref 19, ii ((n : Nat) : Int)]) (S := []) rfl rfl rfl) rfl rfl rfl (j_copyOf (n := n) (q := h.length) (by omega) (by simp; omega) (by simp) (hl_set (hl_lt h19)) (by decide) (by omega) (by omega)) ?_
          rintro _ _ ⟨rfl, rfl⟩
          refine x_cv (pc' := 105) (rest := []) dm_X3_numbersTold_102 rfl (g_invs (As := [.ref h.length]) (S := []) rfl rfl rfl) rfl rfl rfl (c_numberRow (hx1 := hx1) (q := h.length + 1) (by omega) (by simp; omega) (by simp) (show rowAt (fun _ => True) _ _ _ _ from Or.inr ⟨by omega, (hl_newa (by simp)), by omega, trivial⟩) (by omega)) ?_
          rintro _ _ ⟨rfl, rfl⟩
          refine y_ret (r := some (.ref (h.length + 1))) dm_X3_numbersTold_105 rfl rfl rfl ?_
          have ham : a = vm v := by omega
          have hsp := m_told_r hsg (hT.trans (tldT_end ham))
          rw [hsp]
          refine ⟨_, rfl, h.set 19 (cJ 144 G), scrS_set (by unfold scr; decide) h19 rfl, actH_19 hH _, ?_⟩
          have hvf := vform_le (m := n) (f := g)
          exact vres_rowL (by simp) hl (by omega) (by omega) (by omega) (by rw [vform_congr (g := g) (fun j hj => by rw [cpy_at hj]; exact hG j hj)]) (fun j hj => by rw [cpy_at hj]; exact hG j hj) (by omega) (rsl_row (by omega))
        · refine me1 (pc' := 27) (L' := [(0, .ref 17), (1, .ref p), (2, ii ((n : Nat) : Int)), (3, ii ((a : Nat) : Int)), (4, ii ((t : Nat) : Int))]) (S' := [ii ((a : Nat) : Int)]) dm_X3_numbersTold_26 rfl rfl rfl rfl ?_
          refine me1 (pc' := 28) (L' := [(0, .ref 17), (1, .ref p), (2, ii ((n : Nat) : Int)), (3, ii ((a : Nat) : Int)), (4, ii ((t : Nat) : Int))]) (S' := [.ref p, ii ((a : Nat) : Int)]) dm_X3_numbersTold_27 rfl rfl rfl rfl ?_
          refine me3 (pc' := 31) (S' := [ii (vm v : Int), ii ((a : Nat) : Int)]) dm_X3_numbersTold_28 (g_get (v := ii (vm v : Int)) (hl_ne (by omega) hp) rfl rfl (by omega)) rfl rfl rfl ?_
          refine y_2ge (a := ((a : Nat) : Int)) (b := (vm v : Int)) (t := 94) (pc' := 34) dm_X3_numbersTold_31 rfl rfl (by omega) (fun hb3 => ?_) (fun hb3 => ?_)
          · refine me1 (pc' := 95) (L' := [(0, .ref 17), (1, .ref p), (2, ii ((n : Nat) : Int)), (3, ii ((a : Nat) : Int)), (4, ii ((t : Nat) : Int))]) (S' := [.ref 17]) dm_X3_numbersTold_94 rfl rfl rfl rfl ?_
            refine me3 (pc' := 98) (S' := [.ref 19]) dm_X3_numbersTold_95 (g_get (v := .ref 19) (hl_ne (by decide) h17) rfl rfl (by decide)) rfl rfl rfl ?_
            refine me1 (pc' := 99) (L' := [(0, .ref 17), (1, .ref p), (2, ii ((n : Nat) : Int)), (3, ii ((a : Nat) : Int)), (4, ii ((t : Nat) : Int))]) (S' := [ii ((n : Nat) : Int), .ref 19]) dm_X3_numbersTold_98 rfl rfl rfl rfl ?_
            refine x_cv (pc' := 102) (rest := []) dm_X3_numbersTold_99 rfl (g_invs (As := [.ref 19, ii ((n : Nat) : Int)]) (S := []) rfl rfl rfl) rfl rfl rfl (j_copyOf (n := n) (q := h.length) (by omega) (by simp; omega) (by simp) (hl_set (hl_lt h19)) (by decide) (by omega) (by omega)) ?_
            rintro _ _ ⟨rfl, rfl⟩
            refine x_cv (pc' := 105) (rest := []) dm_X3_numbersTold_102 rfl (g_invs (As := [.ref h.length]) (S := []) rfl rfl rfl) rfl rfl rfl (c_numberRow (hx1 := hx1) (q := h.length + 1) (by omega) (by simp; omega) (by simp) (show rowAt (fun _ => True) _ _ _ _ from Or.inr ⟨by omega, (hl_newa (by simp)), by omega, trivial⟩) (by omega)) ?_
            rintro _ _ ⟨rfl, rfl⟩
            refine y_ret (r := some (.ref (h.length + 1))) dm_X3_numbersTold_105 rfl rfl rfl ?_
            have ham : a = vm v := by omega
            have hsp := m_told_r hsg (hT.trans (tldT_end ham))
            rw [hsp]
            refine ⟨_, rfl, h.set 19 (cJ 144 G), scrS_set (by unfold scr; decide) h19 rfl, actH_19 hH _, ?_⟩
            have hvf := vform_le (m := n) (f := g)
            exact vres_rowL (by simp) hl (by omega) (by omega) (by omega) (by rw [vform_congr (g := g) (fun j hj => by rw [cpy_at hj]; exact hG j hj)]) (fun j hj => by rw [cpy_at hj]; exact hG j hj) (by omega) (rsl_row (by omega))
          · refine me1 (pc' := 35) (L' := [(0, .ref 17), (1, .ref p), (2, ii ((n : Nat) : Int)), (3, ii ((a : Nat) : Int)), (4, ii ((t : Nat) : Int))]) (S' := [.ref p]) dm_X3_numbersTold_34 rfl rfl rfl rfl ?_
            refine me1 (pc' := 36) (L' := [(0, .ref 17), (1, .ref p), (2, ii ((n : Nat) : Int)), (3, ii ((a : Nat) : Int)), (4, ii ((t : Nat) : Int))]) (S' := [ii ((a : Nat) : Int), .ref p]) dm_X3_numbersTold_35 rfl rfl rfl rfl ?_
            have hvn : vnum v ((a : Nat) : Int) = vn v (a) := vnum_s hv.1 hsg (by omega)
            refine x_cp (pc' := 39) (v := .long (vn v (a))) (rest := []) dm_X3_numbersTold_36 rfl (g_inv (As := [ii ((a : Nat) : Int)]) (S := []) (hl_ne (by omega) hp) rfl rfl rfl (by omega)) rfl rfl rfl ((show pgP xt (d - 1) _ _ _ (.long (vn v (a))) from hvn ▸ c_numberAt (i := ((a : Nat) : Int)) hx1 (by omega) (cv_set (nA hA (Or.inl (by decide))) hv) (by omega))) ?_
            refine me3 (pc' := 42) (S' := [.long (Int64.ofInt 32), .long (vn v (a))]) dm_X3_numbersTold_39 rfl rfl rfl rfl ?_
            refine y_lne (x := vn v (a)) (y := Int64.ofInt 32) (t := 52) (pc1 := 43) (pc' := 46) dm_X3_numbersTold_42 rfl dm_X3_numbersTold_43 rfl rfl (fun hb4 => ?_) (fun hb4 => ?_)
            · refine me1 (pc' := 53) (L' := [(0, .ref 17), (1, .ref p), (2, ii ((n : Nat) : Int)), (3, ii ((a : Nat) : Int)), (4, ii ((t : Nat) : Int))]) (S' := [.ref p]) dm_X3_numbersTold_52 rfl rfl rfl rfl ?_
              refine me1 (pc' := 54) (L' := [(0, .ref 17), (1, .ref p), (2, ii ((n : Nat) : Int)), (3, ii ((a : Nat) : Int)), (4, ii ((t : Nat) : Int))]) (S' := [ii ((a : Nat) : Int), .ref p]) dm_X3_numbersTold_53 rfl rfl rfl rfl ?_
              have hnEl := nmE_le (f := vn v) (m := vm v) (i := a) (by omega)
              have hnSl := nmS_le (vn v) a
              obtain ⟨ne, hne⟩ : ∃ ne : Int, ne = (if nmP (vn v) (vm v) a then ((nmE (vn v) (vm v) a : Nat) : Int) else -1) := ⟨_, rfl⟩
              have hne2 : (nmP (vn v) (vm v) a ∧ ne = ((nmE (vn v) (vm v) a : Nat) : Int) ∧ nmS (vn v) a < nmE (vn v) (vm v) a) ∨ (¬ nmP (vn v) (vm v) a ∧ ne = -1) := by by_cases z : nmP (vn v) (vm v) a; (exact Or.inl ⟨z, by rw [hne, if_pos z], z.2.1⟩); (exact Or.inr ⟨z, by rw [hne, if_neg z]⟩)
              have hne3 : -1 ≤ ne ∧ ne ≤ 1000 := by rcases hne2 with z | z; (have z1 := z.2.1; omega); (have z1 := z.2; omega)
              refine x_cp (pc' := 57) (v := ii ne) (rest := []) dm_X3_numbersTold_54 rfl (g_invs (As := [.ref p, ii ((a : Nat) : Int)]) (S := []) rfl rfl rfl) rfl rfl rfl ((show pgP xt (d - 1) _ _ _ (ii ne) from hne ▸ o_numberEnd hx1 (by omega) (cv_set (nA hA (Or.inl (by decide))) hv) hsg (by omega))) ?_
              refine me1 (pc' := 59) (L' := [(5, ii ne), (0, .ref 17), (1, .ref p), (2, ii ((n : Nat) : Int)), (3, ii ((a : Nat) : Int)), (4, ii ((t : Nat) : Int))]) (S' := []) dm_X3_numbersTold_57 rfl rfl rfl rfl ?_
              refine me1 (pc' := 61) (L' := [(5, ii ne), (0, .ref 17), (1, .ref p), (2, ii ((n : Nat) : Int)), (3, ii ((a : Nat) : Int)), (4, ii ((t : Nat) : Int))]) (S' := [ii ne]) dm_X3_numbersTold_59 rfl rfl rfl rfl ?_
              refine y_1ge (a := ne) (t := 69) (pc' := 64) dm_X3_numbersTold_61 rfl rfl (by omega) (fun hb5 => ?_) (fun hb5 => ?_)
              · have hok : nmP (vn v) (vm v) a := by rcases hne2 with z | z; exact z.1; (exfalso; have z1 := z.2; omega)
                have hneq : ne = ((nmE (vn v) (vm v) a : Nat) : Int) := by rcases hne2 with z | z; exact z.2.1; (exfalso; have z1 := z.2; omega)
                have hlt9 := hok.2.1
                clear hne2
                refine me1 (pc' := 70) (L' := [(5, ii ne), (0, .ref 17), (1, .ref p), (2, ii ((n : Nat) : Int)), (3, ii ((a : Nat) : Int)), (4, ii ((t : Nat) : Int))]) (S' := [.ref 17]) dm_X3_numbersTold_69 rfl rfl rfl rfl ?_
                refine me3 (pc' := 73) (S' := [.ref 19]) dm_X3_numbersTold_70 (g_get (v := .ref 19) (hl_ne (by decide) h17) rfl rfl (by decide)) rfl rfl rfl ?_
                refine me1 (pc' := 74) (L' := [(5, ii ne), (0, .ref 17), (1, .ref p), (2, ii ((n : Nat) : Int)), (3, ii ((a : Nat) : Int)), (4, ii ((t : Nat) : Int))]) (S' := [ii ((n : Nat) : Int), .ref 19]) dm_X3_numbersTold_73 rfl rfl rfl rfl ?_
                refine me1 (pc' := 75) (L' := [(5, ii ne), (0, .ref 17), (1, .ref p), (2, ii ((n : Nat) : Int)), (3, ii ((a : Nat) : Int)), (4, ii ((t : Nat) : Int))]) (S' := [.ref p, ii ((n : Nat) : Int), .ref 19]) dm_X3_numbersTold_74 rfl rfl rfl rfl ?_
                refine me1 (pc' := 76) (L' := [(5, ii ne), (0, .ref 17), (1, .ref p), (2, ii ((n : Nat) : Int)), (3, ii ((a : Nat) : Int)), (4, ii ((t : Nat) : Int))]) (S' := [ii ((a : Nat) : Int), .ref p, ii ((n : Nat) : Int), .ref 19]) dm_X3_numbersTold_75 rfl rfl rfl rfl ?_
                refine me1 (pc' := 78) (L' := [(5, ii ne), (0, .ref 17), (1, .ref p), (2, ii ((n : Nat) : Int)), (3, ii ((a : Nat) : Int)), (4, ii ((t : Nat) : Int))]) (S' := [ii ne, ii ((a : Nat) : Int), .ref p, ii ((n : Nat) : Int), .ref 19]) dm_X3_numbersTold_76 rfl rfl rfl rfl ?_
                refine pg_st0 (S' := [ii ((nmE (vn v) (vm v) a : Nat) : Int), ii ((a : Nat) : Int), .ref p, ii ((n : Nat) : Int), .ref 19]) (congrArg (fun z => ii z :: [ii ((a : Nat) : Int), .ref p, ii ((n : Nat) : Int), .ref 19]) (hneq)) ?_
                refine x_cp (pc' := 81) (v := .long (nmV (vn v) a (nmE (vn v) (vm v) a))) (rest := [ii ((n : Nat) : Int), .ref 19]) dm_X3_numbersTold_78 rfl (g_invs (As := [.ref p, ii ((a : Nat) : Int), ii ((nmE (vn v) (vm v) a : Nat) : Int)]) (S := [ii ((n : Nat) : Int), .ref 19]) rfl rfl rfl) rfl rfl rfl (o_numberOf hx1 (by omega) (cv_set (nA hA (Or.inl (by decide))) hv) hsg (by omega) (by omega) (by omega)) ?_
                refine me3 (pc' := 82) (S' := []) (h1 := (h).set 19 (cJ 144 (va_up G n (nmV (vn v) a (nmE (vn v) (vm v) a))))) dm_X3_numbersTold_81 (y_hs (yh_last (j := ((n : Nat) : Int)) (hl_set (hl_lt h19)) (by omega) (by omega) (by omega) (by decide)) (by rw [show ((n : Nat) : Int).toNat = n from rfl]; rw [List.set_set])) rfl rfl rfl ?_
                refine y_iinc (pc' := 85) (L' := [(2, ii (((n : Nat) : Int) + 1)), (5, ii ne), (0, .ref 17), (1, .ref p), (3, ii ((a : Nat) : Int)), (4, ii ((t : Nat) : Int))]) dm_X3_numbersTold_82 (y_incp (a := ((n : Nat) : Int)) (c := 1) rfl rfl (by decide)) rfl ?_
                refine me1 (pc' := 87) (L' := [(2, ii (((n : Nat) : Int) + 1)), (5, ii ne), (0, .ref 17), (1, .ref p), (3, ii ((a : Nat) : Int)), (4, ii ((t : Nat) : Int))]) (S' := [ii ne]) dm_X3_numbersTold_85 rfl rfl rfl rfl ?_
                refine pg_st0 (S' := [ii ((nmE (vn v) (vm v) a : Nat) : Int)]) (congrArg (fun z => ii z :: []) (hneq)) ?_
                refine me1 (pc' := 88) (L' := [(3, ii ((nmE (vn v) (vm v) a : Nat) : Int)), (2, ii (((n : Nat) : Int) + 1)), (5, ii ne), (0, .ref 17), (1, .ref p), (4, ii ((t : Nat) : Int))]) (S' := []) dm_X3_numbersTold_87 rfl rfl rfl rfl ?_
                refine y_iinc (pc' := 91) (L' := [(4, ii (((t : Nat) : Int) + 1)), (3, ii ((nmE (vn v) (vm v) a : Nat) : Int)), (2, ii (((n : Nat) : Int) + 1)), (5, ii ne), (0, .ref 17), (1, .ref p)]) dm_X3_numbersTold_88 (y_incp (a := ((t : Nat) : Int)) (c := 1) rfl rfl (by decide)) rfl ?_
                refine me2 (pc' := 19) (S' := []) dm_X3_numbersTold_91 rfl rfl rfl ?_
                exact pg_sub (L := [(0, .ref 17), (1, .ref p), (2, ii (((n + 1) : Nat) : Int)), (3, ii (((nmE (vn v) (vm v) a) : Nat) : Int)), (4, ii (((t + 1) : Nat) : Int))]) rfl rfl rfl (ih19 (vm v - (nmE (vn v) (vm v) a)) (by omega) (nmE (vn v) (vm v) a) (n + 1) (t + 1) (va_up G n (nmV (vn v) a (nmE (vn v) (vm v) a))) (va_up g n (nmV (vn v) a (nmE (vn v) (vm v) a))) rfl (by omega) (by omega) (by omega) (by rw [hT]; exact tldT_nm (by omega) (by assumption) hok) (fun j hj => by rw [up_at, up_at]; by_cases z : j = n; (rw [if_pos z, if_pos z]); (rw [if_neg z, if_neg z]; exact hG j (by omega))))
              · have hok : ¬ nmP (vn v) (vm v) a := by rcases hne2 with z | z; (exfalso; have z1 := z.2.1; omega); exact z.1
                clear hne2
                refine me0 (pc' := 65) (S' := [ii 5]) dm_X3_numbersTold_64 rfl rfl rfl rfl ?_
                refine x_cv (pc' := 68) (rest := []) dm_X3_numbersTold_65 rfl (g_invs (As := [ii 5]) (S := []) rfl rfl rfl) rfl rfl rfl (c_fault (q := h.length) (by omega) (by simp; omega) (by simp) (by omega)) ?_
                rintro _ _ ⟨rfl, rfl⟩
                refine y_ret (r := some (.ref h.length)) dm_X3_numbersTold_68 rfl rfl rfl ?_
                have hsp : m_told v = .inl 5 := m_told_e hsg (by rw [hT]; exact tldT_no (by omega) (by assumption) hok)
                rw [hsp]
                refine ⟨_, rfl, h.set 19 (cJ 144 G), scrS_set (by unfold scr; decide) h19 rfl, actH_19 hH _, ?_⟩
                have hfz := ares_f (A := A) (h := h.set 19 (cJ 144 G)) (e := e + 1) (a := 2) (b := rsl (.inl 5)) 5 (by simp; omega) (by omega) (Nat.le_refl _)
                rw [List.length_set] at hfz
                exact hfz
            · refine y_iinc (pc' := 49) (L' := [(3, ii (((a : Nat) : Int) + 1)), (0, .ref 17), (1, .ref p), (2, ii ((n : Nat) : Int)), (4, ii ((t : Nat) : Int))]) dm_X3_numbersTold_46 (y_incp (a := ((a : Nat) : Int)) (c := 1) rfl rfl (by decide)) rfl ?_
              refine me2 (pc' := 88) (S' := []) dm_X3_numbersTold_49 rfl rfl rfl ?_
              refine y_iinc (pc' := 91) (L' := [(4, ii (((t : Nat) : Int) + 1)), (3, ii (((a : Nat) : Int) + 1)), (0, .ref 17), (1, .ref p), (2, ii ((n : Nat) : Int))]) dm_X3_numbersTold_88 (y_incp (a := ((t : Nat) : Int)) (c := 1) rfl rfl (by decide)) rfl ?_
              refine me2 (pc' := 19) (S' := []) dm_X3_numbersTold_91 rfl rfl rfl ?_
              exact pg_sub (L := [(0, .ref 17), (1, .ref p), (2, ii ((n : Nat) : Int)), (3, ii (((a + 1) : Nat) : Int)), (4, ii (((t + 1) : Nat) : Int))]) rfl rfl rfl (ih19 (vm v - (a + 1)) (by omega) (a + 1) n (t + 1) G g rfl (by omega) (by omega) (by omega) (by rw [hT]; exact tldT_bl (by omega) (by assumption)) hG)
    refine pg_cast (h2 := (h).set 19 (cJ 144 nf0)) (hl_self h19).symm ?_
    exact pg_sub (L := [(0, .ref 17), (1, .ref p), (2, ii ((0 : Nat) : Int)), (3, ii ((0 : Nat) : Int)), (4, ii ((0 : Nat) : Int))]) rfl rfl rfl (lp19 _ 0 0 0 nf0 (fun _ => 0) rfl (Nat.zero_le _) (Nat.zero_le _) (Nat.zero_le _) rfl (fun j hj => absurd hj (Nat.not_lt_zero j)))
  · replace hb1 := dF hb1
    refine me0 (pc' := 8) (S' := [ii 3]) dm_X3_numbersTold_7 rfl rfl rfl rfl ?_
    refine x_cv (pc' := 11) (rest := []) dm_X3_numbersTold_8 rfl (g_invs (As := [ii 3]) (S := []) rfl rfl rfl) rfl rfl rfl (c_fault (q := h.length) (by omega) (by omega) rfl (by omega)) ?_
    rintro _ _ ⟨rfl, rfl⟩
    refine y_ret (r := some (.ref h.length)) dm_X3_numbersTold_11 rfl rfl rfl ?_
    exact ⟨_, rfl, h, scrS_rf h, hH, by rw [show m_told v = .inl 3 by unfold m_told; rw [if_neg (by assumption)]]; exact ares_f 3 (by omega) (by omega) (by first | omega | exact Nat.le_refl _)⟩
