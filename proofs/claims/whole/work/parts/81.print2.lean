/-! what is printed: a list of bytes -/
def bl (f : Nat → Int) (m : Nat) : List Int := (List.range m).map f
theorem bl_len (f : Nat → Int) (m : Nat) : (bl f m).length = m := by unfold bl; rw [List.length_map, List.length_range]
theorem bl_congr {f g : Nat → Int} {m : Nat} (h : ∀ j, j < m → f j = g j) : bl f m = bl g m := List.map_congr_left (fun a ha => h a (List.mem_range.mp ha))
theorem bl_s (f : Nat → Int) (m : Nat) : bl f (m + 1) = bl f m ++ [f m] := by unfold bl; rw [List.range_succ, List.map_append]; rfl
theorem bl_up (f : Nat → Int) (m : Nat) (c : Int) : bl (va_up f m c) (m + 1) = bl f m ++ [c] := by
  rw [bl_s, up_eq, bl_congr (g := f) (fun j hj => up_ne _ _ (by omega))]
/-- from the last to the first -/
def rl (D : Nat → Int) (t : Nat) : List Int := (bl D t).reverse
theorem rl_s (D : Nat → Int) (t : Nat) : rl D (t + 1) = D t :: rl D t := by
  unfold rl
  rw [bl_s, List.reverse_append]
  rfl
theorem rl_congr {f g : Nat → Int} {m : Nat} (h : ∀ j, j < m → f j = g j) : rl f m = rl g m := by unfold rl; rw [bl_congr h]
theorem take_bl {f : Nat → Int} {m n : Nat} (h : m ≤ n) : (bl f m).take n = bl f m := List.take_of_length_le (by rw [bl_len]; exact h)
theorem take_blA {f : Nat → Int} {n : Nat} {X : List Int} : (bl f n ++ X).take n = bl f n := by
  rw [List.take_append_of_le_length (by rw [bl_len]; exact Nat.le_refl _)]
  exact take_bl (Nat.le_refl _)
theorem take_tk (l X : List Int) (n : Nat) : (l.take n ++ X).take n = (l ++ X).take n := by
  rw [List.take_append, List.take_append, List.take_take, Nat.min_self, List.length_take]
  by_cases h : n ≤ l.length
  · rw [Nat.min_eq_left h, Nat.sub_self, show n - l.length = 0 by omega]
  · rw [Nat.min_eq_right (by omega)]
theorem take_tk2 (l X Y : List Int) (n : Nat) : ((l ++ X).take n ++ Y).take n = (l ++ (X ++ Y)).take n := by rw [take_tk, List.append_assoc]
/-- cells o, b, g alone have changed, each as large as it was -/
def prS (o b g : Nat) (h h1 : mj_H) : Prop := h1.length = h.length ∧ mj_sl h1 = mj_sl h ∧ ∀ x, x ≠ o → x ≠ b → x ≠ g → h1[x]? = h[x]?
theorem prS_rf (o b g : Nat) (h : mj_H) : prS o b g h h := ⟨rfl, rfl, fun _ _ _ _ => rfl⟩
theorem prS_tr {o b g : Nat} {h h1 h2 : mj_H} (a : prS o b g h h1) (c : prS o b g h1 h2) : prS o b g h h2 := ⟨c.1.trans a.1, c.2.1.trans a.2.1, fun x h1 h2 h3 => (c.2.2 x h1 h2 h3).trans (a.2.2 x h1 h2 h3)⟩
theorem prS_set {o b g a : Nat} {h : mj_H} {e e' : mj_E} (ha : a = o ∨ a = b ∨ a = g) (hg : h[a]? = some e) (hs : mj_sl1 e' = mj_sl1 e) : prS o b g h (h.set a e') := ⟨by rw [List.length_set], sl_set hg hs, fun x h1 h2 h3 => by rw [List.getElem?_set_ne (by omega)]⟩
theorem cv_pr {A : Nat → Prop} {o b g : Nat} {h h1 : mj_H} (hA : ¬ A o ∧ ¬ A b ∧ ¬ A g) (hs : prS o b g h h1) {d p : Nat} {v : VV} (hv : cv A h d p v) : cv A h1 d p v := cv_keep (fun a e ha hg => ⟨ha, (hs.2.2 a (fun z => hA.1 (z ▸ ha)) (fun z => hA.2.1 (z ▸ ha)) (fun z => hA.2.2 (z ▸ ha))).trans hg⟩) hv
/-- a Printer with what it has printed -/
def prt (h : mj_H) (o b g n : Nat) (l : List Int) : Prop := ∃ f m dg, h[o]? = some (cO 6 [.ref b, .ref g, ii ((m : Nat) : Int)]) ∧ h[b]? = some (cB n f) ∧ h[g]? = some (cB 20 dg) ∧ m ≤ n ∧ l = bl f m
theorem hl_sw {h : mj_H} {a b : Nat} {x x' y y' : mj_E} (hab : a ≠ b) : (((h.set b x).set a y).set b x').set a y' = (h.set b x').set a y' := by
  rw [List.set_comm y x' (by omega : a ≠ b), List.set_set, List.set_set]
theorem addP_prt {h : mj_H} {o b g n m : Nat} {f dg : Nat → Int} {c : Int} (hob : o ≠ b) (hog : o ≠ g) (hbg : b ≠ g) (ho : h[o]? = some (cO 6 [.ref b, .ref g, ii ((m : Nat) : Int)])) (hb : h[b]? = some (cB n f)) (hg : h[g]? = some (cB 20 dg)) (hm : m ≤ n) : prS o b g h (addP h o b g n f m c) ∧ prt (addP h o b g n f m c) o b g n ((bl f m ++ [c]).take n) := by
  unfold addP
  by_cases z : m < n
  · rw [if_pos z]
    refine ⟨prS_tr (prS_set (e' := cB n (va_up f m c)) (Or.inr (Or.inl rfl)) hb rfl) (prS_set (e' := cO 6 [.ref b, .ref g, ii ((m + 1 : Nat) : Int)]) (Or.inl rfl) (hl_ne hob ho) rfl), va_up f m c, m + 1, dg, hl_set (by rw [List.length_set]; exact hl_lt ho), hl_ne (fun z => hob z.symm) (hl_set (hl_lt hb)), hl_ne (fun z => hog z.symm) (hl_ne (fun z => hbg z.symm) hg), z, ?_⟩
    rw [← bl_up, take_bl (by omega)]
  · rw [if_neg z]
    have hmn : m = n := by omega
    subst hmn
    exact ⟨prS_rf _ _ _ _, f, m, dg, ho, hb, hg, hm, take_blA⟩
theorem prS_3 {h : mj_H} {o b g n m : Nat} {f dg : Nat → Int} (hob : o ≠ b) (hog : o ≠ g) (hbg : b ≠ g) (ho : h[o]? = some (cO 6 [.ref b, .ref g, ii ((m : Nat) : Int)])) (hb : h[b]? = some (cB n f)) (hg : h[g]? = some (cB 20 dg)) (E f1 : Nat → Int) (m1 : Nat) : prS o b g h (((h.set g (cB 20 E)).set b (cB n f1)).set o (cO 6 [.ref b, .ref g, ii ((m1 : Nat) : Int)])) :=
  prS_tr (prS_tr (prS_set (e' := cB 20 E) (Or.inr (Or.inr rfl)) hg rfl) (prS_set (e' := cB n f1) (Or.inr (Or.inl rfl)) (hl_ne hbg hb) rfl)) (prS_set (e' := cO 6 [.ref b, .ref g, ii ((m1 : Nat) : Int)]) (Or.inl rfl) (hl_ne hob (hl_ne hog ho)) rfl)
/-- the digits of a number, how many there are -/
def dgt (m j : Nat) : Int := 48 + ((m / 10 ^ j % 10 : Nat) : Int)
def ndF : Nat → Nat → Nat
  | 0, _ => 1
  | F + 1, m => if m < 10 then 1 else ndF F (m / 10) + 1
def nd (m : Nat) : Nat := ndF 20 m
theorem ndF_eq {F : Nat} : ∀ {m k : Nat}, k + 1 ≤ F → m / 10 ^ (k + 1) = 0 → (∀ j, 1 ≤ j → j ≤ k → m / 10 ^ j ≠ 0) → ndF F m = k + 1 := by
  induction F with
  | zero => intro m k h; omega
  | succ F ih =>
    intro m k hk h0 h1
    unfold ndF
    cases k with
    | zero =>
      rw [if_pos (by rw [Nat.pow_one] at h0; omega)]
    | succ k =>
      have h2 := h1 1 (by omega) (by omega)
      rw [Nat.pow_one] at h2
      rw [if_neg (by omega), ih (k := k) (by omega) ?_ ?_]
      · rw [Nat.div_div_eq_div_mul, Nat.mul_comm, ← Nat.pow_succ]; exact h0
      · intro j j1 j2
        rw [Nat.div_div_eq_div_mul, Nat.mul_comm, ← Nat.pow_succ]
        exact h1 (j + 1) (by omega) (by omega)
theorem nd_eq {m k : Nat} (hk : k + 1 ≤ 20) (h0 : m / 10 ^ (k + 1) = 0) (h1 : ∀ j, 1 ≤ j → j ≤ k → m / 10 ^ j ≠ 0) : nd m = k + 1 := ndF_eq hk h0 h1
def numL (x : Int64) : List Int := (if x.toInt < 0 then [95] else []) ++ rl (dgt x.toInt.natAbs) (nd x.toInt.natAbs)
theorem l_ofI (lf : Int64) {a : Int} (h : lf.toInt = a) : lf = Int64.ofInt a := by rw [← h, Int64.ofInt_toInt]
theorem l_div10 {lf : Int64} {a : Nat} (h : lf.toInt = -(a : Int)) : (lf / Int64.ofInt 10).toInt = -((a / 10 : Nat) : Int) := by
  have hb : Int64.ofInt 10 ≠ -1 := by decide
  have e10 : (Int64.ofInt 10).toInt = 10 := by decide
  rw [Int64.toInt_div_of_ne_right _ _ hb, h, e10, Int.neg_tdiv, Int.tdiv_eq_ediv_of_nonneg (by omega)]
  rfl
theorem l_dig {lf : Int64} {a : Nat} (h : lf.toInt = -(a : Int)) : (Int64.ofInt 48 - (lf - lf / Int64.ofInt 10 * Int64.ofInt 10)).toInt = 48 + ((a % 10 : Nat) : Int) := by
  have h1 := l_ofI _ (l_div10 h)
  have h2 := l_ofI _ h
  rw [h1, h2, ← Int64.ofInt_mul, ← Int64.ofInt_sub, ← Int64.ofInt_sub]
  rw [n_toL (by omega) (by omega)]
  omega
theorem k_add2 {xt : mj_X} {d : Nat} {h : mj_H} {o b g n : Nat} {l : List Int} (hd : 1 ≤ d) (h2 : 2 ≤ o ∧ 2 ≤ b ∧ 2 ≤ g) (hne : o ≠ b ∧ o ≠ g ∧ b ≠ g) (hn : n ≤ 1000) (hP : prt h o b g n l) {c : Int} (hc : -128 ≤ c ∧ c ≤ 127) : pgN xt d 138 [.ref o, ii c] h (fun h' => prS o b g h h' ∧ prt h' o b g n ((l ++ [c]).take n)) := by
  obtain ⟨f, m, dg0, ho, hb_, hg_, hm, rfl⟩ := hP
  refine x_imp (k_add hd ⟨h2.1, h2.2.1, hne.1⟩ ho hb_ hm (by omega) hc) ?_
  rintro r h' ⟨rfl, rfl⟩
  exact ⟨rfl, addP_prt hne.1 hne.2.1 hne.2.2 ho hb_ hg_ hm⟩
theorem l_neg {x : Int64} (h : -9223372036854775808 < x.toInt) : (-x).toInt = -x.toInt := by
  have := l_rng x
  rw [l_ofI x rfl, ← Int64.ofInt_neg, n_toL (by omega) (by omega), n_toL (by omega) (by omega)]
set_option maxRecDepth 20000 in
theorem pm_X6_putNumber : mj_mmof pg_ms 136 = some ((⟨"ArrayCalculator$Printer", "putNumber", "(J)V"⟩, prog_8_method_7_code, 6, (Option.none : Option Jvm.ClassFile.FieldType)), 6, false, mj_dec prog_8_method_7_code) := rfl
theorem dm_X6_putNumber_0 : mj_dec prog_8_method_7_code 0 = some (.lload_n 1, 1) := by decide +kernel
theorem dm_X6_putNumber_1 : mj_dec prog_8_method_7_code 1 = some (.lconst 0, 1) := by decide +kernel
theorem dm_X6_putNumber_2 : mj_dec prog_8_method_7_code 2 = some (.lcmp, 1) := by decide +kernel
theorem dm_X6_putNumber_3 : mj_dec prog_8_method_7_code 3 = some (.ifCond .ge 7, 3) := by decide +kernel
theorem dm_X6_putNumber_6 : mj_dec prog_8_method_7_code 6 = some (.lload_n 1, 1) := by decide +kernel
theorem dm_X6_putNumber_7 : mj_dec prog_8_method_7_code 7 = some (.goto 5, 3) := by decide +kernel
theorem dm_X6_putNumber_10 : mj_dec prog_8_method_7_code 10 = some (.lload_n 1, 1) := by decide +kernel
theorem dm_X6_putNumber_11 : mj_dec prog_8_method_7_code 11 = some (.lneg, 1) := by decide +kernel
theorem dm_X6_putNumber_12 : mj_dec prog_8_method_7_code 12 = some (.lstore_n 3, 1) := by decide +kernel
theorem dm_X6_putNumber_13 : mj_dec prog_8_method_7_code 13 = some (.iconst 0, 1) := by decide +kernel
theorem dm_X6_putNumber_14 : mj_dec prog_8_method_7_code 14 = some (.istore 5, 2) := by decide +kernel
theorem dm_X6_putNumber_16 : mj_dec prog_8_method_7_code 16 = some (.aload_n 0, 1) := by decide +kernel
theorem dm_X6_putNumber_17 : mj_dec prog_8_method_7_code 17 = some (.getfield 11, 3) := by decide +kernel
theorem dm_X6_putNumber_20 : mj_dec prog_8_method_7_code 20 = some (.iload 5, 2) := by decide +kernel
theorem dm_X6_putNumber_22 : mj_dec prog_8_method_7_code 22 = some (.ldc2_w 56, 3) := by decide +kernel
theorem dm_X6_putNumber_25 : mj_dec prog_8_method_7_code 25 = some (.lload_n 3, 1) := by decide +kernel
theorem dm_X6_putNumber_26 : mj_dec prog_8_method_7_code 26 = some (.ldc2_w 58, 3) := by decide +kernel
theorem dm_X6_putNumber_29 : mj_dec prog_8_method_7_code 29 = some (.lrem, 1) := by decide +kernel
theorem dm_X6_putNumber_30 : mj_dec prog_8_method_7_code 30 = some (.lsub, 1) := by decide +kernel
theorem dm_X6_putNumber_31 : mj_dec prog_8_method_7_code 31 = some (.l2i, 1) := by decide +kernel
theorem dm_X6_putNumber_32 : mj_dec prog_8_method_7_code 32 = some (.i2b, 1) := by decide +kernel
theorem dm_X6_putNumber_33 : mj_dec prog_8_method_7_code 33 = some (.bastore, 1) := by decide +kernel
theorem dm_X6_putNumber_34 : mj_dec prog_8_method_7_code 34 = some (.iinc 5 1, 3) := by decide +kernel
theorem dm_X6_putNumber_37 : mj_dec prog_8_method_7_code 37 = some (.lload_n 3, 1) := by decide +kernel
theorem dm_X6_putNumber_38 : mj_dec prog_8_method_7_code 38 = some (.ldc2_w 58, 3) := by decide +kernel
theorem dm_X6_putNumber_41 : mj_dec prog_8_method_7_code 41 = some (.ldiv, 1) := by decide +kernel
theorem dm_X6_putNumber_42 : mj_dec prog_8_method_7_code 42 = some (.lstore_n 3, 1) := by decide +kernel
theorem dm_X6_putNumber_43 : mj_dec prog_8_method_7_code 43 = some (.lload_n 3, 1) := by decide +kernel
theorem dm_X6_putNumber_44 : mj_dec prog_8_method_7_code 44 = some (.lconst 0, 1) := by decide +kernel
theorem dm_X6_putNumber_45 : mj_dec prog_8_method_7_code 45 = some (.lcmp, 1) := by decide +kernel
theorem dm_X6_putNumber_46 : mj_dec prog_8_method_7_code 46 = some (.ifCond .eq 15, 3) := by decide +kernel
theorem dm_X6_putNumber_49 : mj_dec prog_8_method_7_code 49 = some (.iload 5, 2) := by decide +kernel
theorem dm_X6_putNumber_51 : mj_dec prog_8_method_7_code 51 = some (.aload_n 0, 1) := by decide +kernel
theorem dm_X6_putNumber_52 : mj_dec prog_8_method_7_code 52 = some (.getfield 11, 3) := by decide +kernel
theorem dm_X6_putNumber_55 : mj_dec prog_8_method_7_code 55 = some (.arraylength, 1) := by decide +kernel
theorem dm_X6_putNumber_56 : mj_dec prog_8_method_7_code 56 = some (.iconst 1, 1) := by decide +kernel
theorem dm_X6_putNumber_57 : mj_dec prog_8_method_7_code 57 = some (.isub, 1) := by decide +kernel
theorem dm_X6_putNumber_58 : mj_dec prog_8_method_7_code 58 = some (.if_icmp .lt (-42), 3) := by decide +kernel
theorem dm_X6_putNumber_61 : mj_dec prog_8_method_7_code 61 = some (.lload_n 1, 1) := by decide +kernel
theorem dm_X6_putNumber_62 : mj_dec prog_8_method_7_code 62 = some (.lconst 0, 1) := by decide +kernel
theorem dm_X6_putNumber_63 : mj_dec prog_8_method_7_code 63 = some (.lcmp, 1) := by decide +kernel
theorem dm_X6_putNumber_64 : mj_dec prog_8_method_7_code 64 = some (.ifCond .ge 15, 3) := by decide +kernel
theorem dm_X6_putNumber_67 : mj_dec prog_8_method_7_code 67 = some (.aload_n 0, 1) := by decide +kernel
theorem dm_X6_putNumber_68 : mj_dec prog_8_method_7_code 68 = some (.getfield 11, 3) := by decide +kernel
theorem dm_X6_putNumber_71 : mj_dec prog_8_method_7_code 71 = some (.iload 5, 2) := by decide +kernel
theorem dm_X6_putNumber_73 : mj_dec prog_8_method_7_code 73 = some (.bipush 95, 2) := by decide +kernel
theorem dm_X6_putNumber_75 : mj_dec prog_8_method_7_code 75 = some (.bastore, 1) := by decide +kernel
theorem dm_X6_putNumber_76 : mj_dec prog_8_method_7_code 76 = some (.iinc 5 1, 3) := by decide +kernel
theorem dm_X6_putNumber_79 : mj_dec prog_8_method_7_code 79 = some (.iload 5, 2) := by decide +kernel
theorem dm_X6_putNumber_81 : mj_dec prog_8_method_7_code 81 = some (.ifCond .le 47, 3) := by decide +kernel
theorem dm_X6_putNumber_84 : mj_dec prog_8_method_7_code 84 = some (.aload_n 0, 1) := by decide +kernel
theorem dm_X6_putNumber_85 : mj_dec prog_8_method_7_code 85 = some (.getfield 18, 3) := by decide +kernel
theorem dm_X6_putNumber_88 : mj_dec prog_8_method_7_code 88 = some (.aload_n 0, 1) := by decide +kernel
theorem dm_X6_putNumber_89 : mj_dec prog_8_method_7_code 89 = some (.getfield 15, 3) := by decide +kernel
theorem dm_X6_putNumber_92 : mj_dec prog_8_method_7_code 92 = some (.arraylength, 1) := by decide +kernel
theorem dm_X6_putNumber_93 : mj_dec prog_8_method_7_code 93 = some (.if_icmp .ge 35, 3) := by decide +kernel
theorem dm_X6_putNumber_96 : mj_dec prog_8_method_7_code 96 = some (.iinc 5 (-1), 3) := by decide +kernel
theorem dm_X6_putNumber_99 : mj_dec prog_8_method_7_code 99 = some (.aload_n 0, 1) := by decide +kernel
theorem dm_X6_putNumber_100 : mj_dec prog_8_method_7_code 100 = some (.getfield 15, 3) := by decide +kernel
theorem dm_X6_putNumber_103 : mj_dec prog_8_method_7_code 103 = some (.aload_n 0, 1) := by decide +kernel
theorem dm_X6_putNumber_104 : mj_dec prog_8_method_7_code 104 = some (.getfield 18, 3) := by decide +kernel
theorem dm_X6_putNumber_107 : mj_dec prog_8_method_7_code 107 = some (.aload_n 0, 1) := by decide +kernel
theorem dm_X6_putNumber_108 : mj_dec prog_8_method_7_code 108 = some (.getfield 11, 3) := by decide +kernel
theorem dm_X6_putNumber_111 : mj_dec prog_8_method_7_code 111 = some (.iload 5, 2) := by decide +kernel
theorem dm_X6_putNumber_113 : mj_dec prog_8_method_7_code 113 = some (.baload, 1) := by decide +kernel
theorem dm_X6_putNumber_114 : mj_dec prog_8_method_7_code 114 = some (.bastore, 1) := by decide +kernel
theorem dm_X6_putNumber_115 : mj_dec prog_8_method_7_code 115 = some (.aload_n 0, 1) := by decide +kernel
theorem dm_X6_putNumber_116 : mj_dec prog_8_method_7_code 116 = some (.dup, 1) := by decide +kernel
theorem dm_X6_putNumber_117 : mj_dec prog_8_method_7_code 117 = some (.getfield 18, 3) := by decide +kernel
theorem dm_X6_putNumber_120 : mj_dec prog_8_method_7_code 120 = some (.iconst 1, 1) := by decide +kernel
theorem dm_X6_putNumber_121 : mj_dec prog_8_method_7_code 121 = some (.iadd, 1) := by decide +kernel
theorem dm_X6_putNumber_122 : mj_dec prog_8_method_7_code 122 = some (.putfield 18, 3) := by decide +kernel
theorem dm_X6_putNumber_125 : mj_dec prog_8_method_7_code 125 = some (.goto (-46), 3) := by decide +kernel
theorem dm_X6_putNumber_128 : mj_dec prog_8_method_7_code 128 = some (.return_, 1) := by decide +kernel
theorem k_putNumber {xt : mj_X} {d : Nat} {h : mj_H} {o b g n : Nat} {l : List Int} (hd : 1 ≤ d) (h2 : 2 ≤ o ∧ 2 ≤ b ∧ 2 ≤ g) (hne : o ≠ b ∧ o ≠ g ∧ b ≠ g) (hn : n ≤ 1000) (hP : prt h o b g n l) {x : Int64} : pgN xt d 136 [.ref o, .long x] h (fun h' => prS o b g h h' ∧ prt h' o b g n ((l ++ numL x).take n)) := by
  obtain ⟨f, m, dg0, ho, hb_, hg_, hm, rfl⟩ := hP
  have h0 : (Int64.ofInt 0).toInt = 0 := by decide
  have rx := l_rng x
  refine x_enter pm_X6_putNumber (L0 := [(0, .ref o), (1, .long x)]) rfl (Nat.le_of_ble_eq_true rfl) (by omega) ?_
  refine me1 (pc' := 1) (L' := [(0, .ref o), (1, .long x)]) (S' := [.long x]) dm_X6_putNumber_0 rfl rfl rfl rfl ?_
  refine me0 (pc' := 2) (S' := [.long (Int64.ofInt 0), .long x]) dm_X6_putNumber_1 rfl rfl rfl rfl ?_
  refine y_lge (x := x) (y := Int64.ofInt 0) (t := 10) (pc1 := 3) (pc' := 6) dm_X6_putNumber_2 rfl dm_X6_putNumber_3 rfl rfl (fun hb1 => ?_) (fun hb1 => ?_)
  · rw [h0] at hb1
    refine me1 (pc' := 11) (L' := [(0, .ref o), (1, .long x)]) (S' := [.long x]) dm_X6_putNumber_10 rfl rfl rfl rfl ?_
    refine me0 (pc' := 12) (S' := [.long (-x)]) dm_X6_putNumber_11 rfl rfl rfl rfl ?_
    refine me1 (pc' := 13) (L' := [(3, .long (-x)), (0, .ref o), (1, .long x)]) (S' := []) dm_X6_putNumber_12 rfl rfl rfl rfl ?_
    refine me0 (pc' := 14) (S' := [ii 0]) dm_X6_putNumber_13 rfl rfl rfl rfl ?_
    refine me1 (pc' := 16) (L' := [(5, ii 0), (3, .long (-x)), (0, .ref o), (1, .long x)]) (S' := []) dm_X6_putNumber_14 rfl rfl rfl rfl ?_
    have lp16 : ∀ (n16 : Nat) (k : Nat) (a : Nat) (lf : Int64) (D : Nat → Int), 18 - k = n16 → (k ≤ 18) → (lf.toInt = -(a : Int)) → (a = x.toInt.natAbs / 10 ^ k) → (∀ j, 1 ≤ j → j ≤ k → x.toInt.natAbs / 10 ^ j ≠ 0) → (∀ j, j < k → D j = dgt x.toInt.natAbs j) → pgE xt (d - 1) 6 6 false (Option.none : Option Jvm.ClassFile.FieldType) (mj_dec prog_8_method_7_code) 16 [(0, .ref o), (1, .long x), (3, .long lf), (5, ii (k : Int))] [] ((h).set g (cB 20 D)) (fun r h' => r = none ∧ prS o b g h h' ∧ prt h' o b g n ((bl f m ++ numL x).take n)) := by
      intro n16
      induction n16 using Nat.strongRecOn with
      | ind n16 ih16 =>
        intro k a lf D hm16 hk hlf ha hz hD
        refine me1 (pc' := 17) (L' := [(0, .ref o), (1, .long x), (3, .long lf), (5, ii (k : Int))]) (S' := [.ref o]) dm_X6_putNumber_16 rfl rfl rfl rfl ?_
        refine me3 (pc' := 20) (S' := [.ref g]) dm_X6_putNumber_17 (g_get (v := .ref g) (hl_ne hne.2.1 ho) rfl rfl (by omega)) rfl rfl rfl ?_
        refine me1 (pc' := 22) (L' := [(0, .ref o), (1, .long x), (3, .long lf), (5, ii (k : Int))]) (S' := [ii (k : Int), .ref g]) dm_X6_putNumber_20 rfl rfl rfl rfl ?_
        refine me3 (pc' := 25) (S' := [.long (Int64.ofInt 48), ii (k : Int), .ref g]) dm_X6_putNumber_22 rfl rfl rfl rfl ?_
        refine me1 (pc' := 26) (L' := [(0, .ref o), (1, .long x), (3, .long lf), (5, ii (k : Int))]) (S' := [.long lf, .long (Int64.ofInt 48), ii (k : Int), .ref g]) dm_X6_putNumber_25 rfl rfl rfl rfl ?_
        refine me3 (pc' := 29) (S' := [.long (Int64.ofInt 10), .long lf, .long (Int64.ofInt 48), ii (k : Int), .ref g]) dm_X6_putNumber_26 rfl rfl rfl rfl ?_
        refine y_lrem (x := lf) (y := Int64.ofInt 10) dm_X6_putNumber_29 (pc' := 30) rfl (by decide) ?_
        refine me0 (pc' := 31) (S' := [.long ((Int64.ofInt 48) - (lf - lf / (Int64.ofInt 10) * (Int64.ofInt 10))), ii (k : Int), .ref g]) dm_X6_putNumber_30 rfl rfl rfl rfl ?_
        refine y_l2i (a := 48 + ((a % 10 : Nat) : Int)) dm_X6_putNumber_31 (pc' := 32) rfl (n_l2i _ (l_dig hlf)) ?_
        refine y_i2b (a := 48 + ((a % 10 : Nat) : Int)) dm_X6_putNumber_32 (pc' := 33) rfl (by omega) (by omega) ?_
        refine me3 (pc' := 34) (S' := []) (h1 := (h).set g (cB 20 (va_up D k (48 + ((a % 10 : Nat) : Int))))) dm_X6_putNumber_33 (y_hs (yh_bast (j := (k : Int)) (hl_set (hl_lt hg_)) (by omega) (by omega) (by omega) (by omega) (by omega) (by omega)) (by rw [show (k : Int).toNat = k from rfl]; rw [List.set_set])) rfl rfl rfl ?_
        refine y_iinc (pc' := 37) (L' := [(5, ii ((k : Int) + 1)), (0, .ref o), (1, .long x), (3, .long lf)]) dm_X6_putNumber_34 (y_incp (a := (k : Int)) (c := 1) rfl rfl (by decide)) rfl ?_
        refine me1 (pc' := 38) (L' := [(5, ii ((k : Int) + 1)), (0, .ref o), (1, .long x), (3, .long lf)]) (S' := [.long lf]) dm_X6_putNumber_37 rfl rfl rfl rfl ?_
        refine me3 (pc' := 41) (S' := [.long (Int64.ofInt 10), .long lf]) dm_X6_putNumber_38 rfl rfl rfl rfl ?_
        refine y_ldiv (x := lf) (y := Int64.ofInt 10) dm_X6_putNumber_41 (pc' := 42) rfl (by decide) ?_
        refine me1 (pc' := 43) (L' := [(3, .long (lf / (Int64.ofInt 10))), (5, ii ((k : Int) + 1)), (0, .ref o), (1, .long x)]) (S' := []) dm_X6_putNumber_42 rfl rfl rfl rfl ?_
        refine me1 (pc' := 44) (L' := [(3, .long (lf / (Int64.ofInt 10))), (5, ii ((k : Int) + 1)), (0, .ref o), (1, .long x)]) (S' := [.long (lf / (Int64.ofInt 10))]) dm_X6_putNumber_43 rfl rfl rfl rfl ?_
        refine me0 (pc' := 45) (S' := [.long (Int64.ofInt 0), .long (lf / (Int64.ofInt 10))]) dm_X6_putNumber_44 rfl rfl rfl rfl ?_
        refine y_leq (x := lf / (Int64.ofInt 10)) (y := Int64.ofInt 0) (t := 61) (pc1 := 46) (pc' := 49) dm_X6_putNumber_45 rfl dm_X6_putNumber_46 rfl rfl (fun hb2 => ?_) (fun hb2 => ?_)
        · have ha1 : a / 10 = x.toInt.natAbs / 10 ^ (k + 1) := by rw [ha, Nat.div_div_eq_div_mul, Nat.pow_succ]
          have hD1 : ∀ j, j < k + 1 → va_up D k (48 + ((a % 10 : Nat) : Int)) j = dgt x.toInt.natAbs j := fun j hj => by rw [up_at]; by_cases z : j = k; (rw [if_pos z, z]; unfold dgt; rw [← ha]); (rw [if_neg z]; exact hD j (by omega))
          have hn0 : a / 10 = 0 := by have z := l_div10 hlf; rw [hb2] at z; have e0 : (Int64.ofInt 0).toInt = 0 := (by decide); rw [e0] at z; omega
          have hnd : nd x.toInt.natAbs = k + 1 := nd_eq (by omega) (by rw [← ha1]; exact hn0) hz
          clear hD
          refine me1 (pc' := 62) (L' := [(3, .long (lf / (Int64.ofInt 10))), (5, ii ((k : Int) + 1)), (0, .ref o), (1, .long x)]) (S' := [.long x]) dm_X6_putNumber_61 rfl rfl rfl rfl ?_
          refine me0 (pc' := 63) (S' := [.long (Int64.ofInt 0), .long x]) dm_X6_putNumber_62 rfl rfl rfl rfl ?_
          refine y_lge (x := x) (y := Int64.ofInt 0) (t := 79) (pc1 := 64) (pc' := 67) dm_X6_putNumber_63 rfl dm_X6_putNumber_64 rfl rfl (fun hb3 => ?_) (fun hb3 => ?_)
          · rw [h0] at hb3
            have lp79 : ∀ (n79 : Nat) (t : Nat) (m1 : Nat) (f1 : Nat → Int) (E : Nat → Int), t = n79 → (t ≤ 20) → (m1 ≤ n) → (∀ j, j < t → 0 ≤ E j ∧ E j ≤ 127) → ((bl f1 m1 ++ rl E t).take n = (bl f m ++ numL x).take n) → pgE xt (d - 1) 6 6 false (Option.none : Option Jvm.ClassFile.FieldType) (mj_dec prog_8_method_7_code) 79 [(0, .ref o), (5, ii ((t : Nat) : Int))] [] ((((h).set g (cB 20 E)).set b (cB n f1)).set o (cO 6 [.ref b, .ref g, ii ((m1 : Nat) : Int)])) (fun r h' => r = none ∧ prS o b g h h' ∧ prt h' o b g n ((bl f m ++ numL x).take n)) := by
              intro n79
              induction n79 using Nat.strongRecOn with
              | ind n79 ih79 =>
                intro t m1 f1 E hm79 ht20 hm1 hEr hBL
                refine me1 (pc' := 81) (L' := [(0, .ref o), (5, ii ((t : Nat) : Int))]) (S' := [ii ((t : Nat) : Int)]) dm_X6_putNumber_79 rfl rfl rfl rfl ?_
                refine y_1le (a := ((t : Nat) : Int)) (t := 128) (pc' := 84) dm_X6_putNumber_81 rfl rfl (by omega) (fun hb4 => ?_) (fun hb4 => ?_)
                · refine y_ret (r := none) dm_X6_putNumber_128 rfl rfl rfl ?_
                  refine ⟨rfl, ?_, f1, m1, E, hl_set (by simp; exact hl_lt ho), hl_ne (Ne.symm hne.1) (hl_set (by simp; exact hl_lt hb_)), hl_ne (Ne.symm hne.2.1) (hl_ne (Ne.symm hne.2.2) (hl_set (hl_lt hg_))), hm1, ?_⟩
                  · exact prS_3 hne.1 hne.2.1 hne.2.2 ho hb_ hg_ E f1 m1
                  · rw [← hBL]
                    first | (rw [show t = 0 by omega]; exact ((congrArg (List.take n) (List.append_nil _)).trans (take_bl hm1))) | (rw [show m1 = n by omega]; exact take_blA)
                · refine me1 (pc' := 85) (L' := [(0, .ref o), (5, ii ((t : Nat) : Int))]) (S' := [.ref o]) dm_X6_putNumber_84 rfl rfl rfl rfl ?_
                  refine me3 (pc' := 88) (S' := [ii ((m1 : Nat) : Int)]) dm_X6_putNumber_85 (g_get (v := ii ((m1 : Nat) : Int)) (hl_set (hl_lt (hl_ne hne.1 (hl_ne hne.2.1 ho)))) rfl rfl (by omega)) rfl rfl rfl ?_
                  refine me1 (pc' := 89) (L' := [(0, .ref o), (5, ii ((t : Nat) : Int))]) (S' := [.ref o, ii ((m1 : Nat) : Int)]) dm_X6_putNumber_88 rfl rfl rfl rfl ?_
                  refine me3 (pc' := 92) (S' := [.ref b, ii ((m1 : Nat) : Int)]) dm_X6_putNumber_89 (g_get (v := .ref b) (hl_set (hl_lt (hl_ne hne.1 (hl_ne hne.2.1 ho)))) rfl rfl (by omega)) rfl rfl rfl ?_
                  refine me3 (pc' := 93) (S' := [ii n, ii ((m1 : Nat) : Int)]) dm_X6_putNumber_92 (yh_len (n := n) rfl (hl_ne (Ne.symm hne.1) (hl_set (hl_lt (hl_ne hne.2.2 hb_)))) (by omega)) rfl rfl rfl ?_
                  refine y_2ge (a := ((m1 : Nat) : Int)) (b := n) (t := 128) (pc' := 96) dm_X6_putNumber_93 rfl rfl (by omega) (fun hb5 => ?_) (fun hb5 => ?_)
                  · refine y_ret (r := none) dm_X6_putNumber_128 rfl rfl rfl ?_
                    refine ⟨rfl, ?_, f1, m1, E, hl_set (by simp; exact hl_lt ho), hl_ne (Ne.symm hne.1) (hl_set (by simp; exact hl_lt hb_)), hl_ne (Ne.symm hne.2.1) (hl_ne (Ne.symm hne.2.2) (hl_set (hl_lt hg_))), hm1, ?_⟩
                    · exact prS_3 hne.1 hne.2.1 hne.2.2 ho hb_ hg_ E f1 m1
                    · rw [← hBL]
                      first | (rw [show t = 0 by omega]; exact ((congrArg (List.take n) (List.append_nil _)).trans (take_bl hm1))) | (rw [show m1 = n by omega]; exact take_blA)
                  · refine y_iinc (pc' := 99) (L' := [(5, ii (((t : Nat) : Int) + (-1))), (0, .ref o)]) dm_X6_putNumber_96 (y_incp (a := ((t : Nat) : Int)) (c := (-1)) rfl rfl (by decide)) rfl ?_
                    refine me1 (pc' := 100) (L' := [(5, ii (((t : Nat) : Int) + (-1))), (0, .ref o)]) (S' := [.ref o]) dm_X6_putNumber_99 rfl rfl rfl rfl ?_
                    refine me3 (pc' := 103) (S' := [.ref b]) dm_X6_putNumber_100 (g_get (v := .ref b) (hl_set (hl_lt (hl_ne hne.1 (hl_ne hne.2.1 ho)))) rfl rfl (by omega)) rfl rfl rfl ?_
                    refine me1 (pc' := 104) (L' := [(5, ii (((t : Nat) : Int) + (-1))), (0, .ref o)]) (S' := [.ref o, .ref b]) dm_X6_putNumber_103 rfl rfl rfl rfl ?_
                    refine me3 (pc' := 107) (S' := [ii ((m1 : Nat) : Int), .ref b]) dm_X6_putNumber_104 (g_get (v := ii ((m1 : Nat) : Int)) (hl_set (hl_lt (hl_ne hne.1 (hl_ne hne.2.1 ho)))) rfl rfl (by omega)) rfl rfl rfl ?_
                    refine me1 (pc' := 108) (L' := [(5, ii (((t : Nat) : Int) + (-1))), (0, .ref o)]) (S' := [.ref o, ii ((m1 : Nat) : Int), .ref b]) dm_X6_putNumber_107 rfl rfl rfl rfl ?_
                    refine me3 (pc' := 111) (S' := [.ref g, ii ((m1 : Nat) : Int), .ref b]) dm_X6_putNumber_108 (g_get (v := .ref g) (hl_set (hl_lt (hl_ne hne.1 (hl_ne hne.2.1 ho)))) rfl rfl (by omega)) rfl rfl rfl ?_
                    refine me1 (pc' := 113) (L' := [(5, ii (((t : Nat) : Int) + (-1))), (0, .ref o)]) (S' := [ii (((t : Nat) : Int) + (-1)), .ref g, ii ((m1 : Nat) : Int), .ref b]) dm_X6_putNumber_111 rfl rfl rfl rfl ?_
                    have hEt := hEr (t - 1) (by omega)
                    refine me3 (pc' := 114) (S' := [ii (E ((((t : Nat) : Int) + (-1)).toNat)), ii ((m1 : Nat) : Int), .ref b]) dm_X6_putNumber_113 (yh_bald (v := E ((((t : Nat) : Int) + (-1)).toNat)) (hl_ne (Ne.symm hne.2.1) (hl_ne (Ne.symm hne.2.2) (hl_set (hl_lt hg_)))) (by omega) (by omega) (by omega) (by omega) rfl) rfl rfl rfl ?_
                    refine pg_st0 (S' := [ii (E (t - 1)), ii ((m1 : Nat) : Int), .ref b]) (congrArg (fun z => ii z :: [ii ((m1 : Nat) : Int), .ref b]) (congrArg E (by omega))) ?_
                    refine me3 (pc' := 115) (S' := []) (h1 := ((((h).set g (cB 20 E)).set b (cB n f1)).set o (cO 6 [.ref b, .ref g, ii ((m1 : Nat) : Int)])).set b (cB n (va_up f1 m1 (E (t - 1))))) dm_X6_putNumber_114 (yh_bast (j := ((m1 : Nat) : Int)) (hl_ne (Ne.symm hne.1) (hl_set (hl_lt (hl_ne hne.2.2 hb_)))) (by omega) (by omega) (by omega) (by omega) (by omega) (by omega)) rfl rfl rfl ?_
                    refine me1 (pc' := 116) (L' := [(5, ii (((t : Nat) : Int) + (-1))), (0, .ref o)]) (S' := [.ref o]) dm_X6_putNumber_115 rfl rfl rfl rfl ?_
                    refine me0 (pc' := 117) (S' := [.ref o, .ref o]) dm_X6_putNumber_116 rfl rfl rfl rfl ?_
                    refine me3 (pc' := 120) (S' := [ii ((m1 : Nat) : Int), .ref o]) dm_X6_putNumber_117 (g_get (v := ii ((m1 : Nat) : Int)) (hl_ne hne.1 (hl_set (hl_lt (hl_ne hne.1 (hl_ne hne.2.1 ho))))) rfl rfl (by omega)) rfl rfl rfl ?_
                    refine me0 (pc' := 121) (S' := [ii 1, ii ((m1 : Nat) : Int), .ref o]) dm_X6_putNumber_120 rfl rfl rfl rfl ?_
                    refine y_iadd (a := ((m1 : Nat) : Int)) (b := 1) dm_X6_putNumber_121 (pc' := 122) rfl ?_
                    refine me3 (pc' := 125) (S' := []) (h1 := (((((h).set g (cB 20 E)).set b (cB n f1)).set o (cO 6 [.ref b, .ref g, ii ((m1 : Nat) : Int)])).set b (cB n (va_up f1 m1 (E (t - 1))))).set o (cO 6 [.ref b, .ref g, ii (((m1 : Nat) : Int) + 1)])) dm_X6_putNumber_122 (g_put (fs' := [.ref b, .ref g, ii (((m1 : Nat) : Int) + 1)]) (hl_ne hne.1 (hl_set (hl_lt (hl_ne hne.1 (hl_ne hne.2.1 ho))))) rfl rfl rfl (by simp) rfl (by decide) (fun z => by cases z) (by omega)) rfl rfl rfl ?_
                    rw [show ((t : Nat) : Int) + (-1) = ((t - 1 : Nat) : Int) by omega]
                    refine me2 (pc' := 79) (S' := []) dm_X6_putNumber_125 rfl rfl rfl ?_
                    refine pg_cast (h2 := (((h).set g (cB 20 E)).set b (cB n (va_up f1 m1 (E (t - 1))))).set o (cO 6 [.ref b, .ref g, ii (((m1 + 1) : Nat) : Int)])) (hl_sw hne.1) ?_
                    exact pg_sub (L := [(0, .ref o), (5, ii (((t - 1) : Nat) : Int))]) rfl rfl rfl (ih79 (t - 1) (by omega) (t - 1) (m1 + 1) (va_up f1 m1 (E (t - 1))) E rfl (by omega) (by omega) (fun j hj => hEr j (by omega)) (by rw [bl_up, List.append_assoc]; rw [show t = (t - 1) + 1 by omega, rl_s] at hBL; exact hBL))
            refine pg_cast (h2 := (((h).set g (cB 20 (va_up D k (48 + ((a % 10 : Nat) : Int))))).set b (cB n f)).set o (cO 6 [.ref b, .ref g, ii ((m : Nat) : Int)])) (((hl_self (hl_ne hne.2.2 hb_)).symm ▸ (hl_self (hl_ne hne.2.1 ho)).symm)) ?_
            exact pg_sub (L := [(0, .ref o), (5, ii (((k + 1) : Nat) : Int))]) rfl rfl rfl (lp79 _ (k + 1) m f (va_up D k (48 + ((a % 10 : Nat) : Int))) rfl (by omega) hm (fun j hj => by have z := hD1 j hj; rw [z]; unfold dgt; omega) (by rw [show numL x = rl (dgt x.toInt.natAbs) (k + 1) by unfold numL; rw [if_neg (by omega), hnd]; rfl, rl_congr hD1]))
          · rw [h0] at hb3
            refine me1 (pc' := 68) (L' := [(3, .long (lf / (Int64.ofInt 10))), (5, ii ((k : Int) + 1)), (0, .ref o), (1, .long x)]) (S' := [.ref o]) dm_X6_putNumber_67 rfl rfl rfl rfl ?_
            refine me3 (pc' := 71) (S' := [.ref g]) dm_X6_putNumber_68 (g_get (v := .ref g) (hl_ne hne.2.1 ho) rfl rfl (by omega)) rfl rfl rfl ?_
            refine me1 (pc' := 73) (L' := [(3, .long (lf / (Int64.ofInt 10))), (5, ii ((k : Int) + 1)), (0, .ref o), (1, .long x)]) (S' := [ii ((k : Int) + 1), .ref g]) dm_X6_putNumber_71 rfl rfl rfl rfl ?_
            refine me0 (pc' := 75) (S' := [ii 95, ii ((k : Int) + 1), .ref g]) dm_X6_putNumber_73 rfl rfl rfl rfl ?_
            refine me3 (pc' := 76) (S' := []) (h1 := (h).set g (cB 20 (va_up (va_up D k (48 + ((a % 10 : Nat) : Int))) (k + 1) 95))) dm_X6_putNumber_75 (y_hs (yh_bast (j := (k : Int) + 1) (hl_set (hl_lt hg_)) (by omega) (by omega) (by omega) (by omega) (by omega) (by omega)) (by rw [show ((k : Int) + 1).toNat = k + 1 from rfl]; rw [List.set_set])) rfl rfl rfl ?_
            refine y_iinc (pc' := 79) (L' := [(5, ii ((k : Int) + 1 + 1)), (3, .long (lf / (Int64.ofInt 10))), (0, .ref o), (1, .long x)]) dm_X6_putNumber_76 (y_incp (a := ((k : Int) + 1)) (c := 1) rfl rfl (by decide)) rfl ?_
            have lp79 : ∀ (n79 : Nat) (t : Nat) (m1 : Nat) (f1 : Nat → Int) (E : Nat → Int), t = n79 → (t ≤ 20) → (m1 ≤ n) → (∀ j, j < t → 0 ≤ E j ∧ E j ≤ 127) → ((bl f1 m1 ++ rl E t).take n = (bl f m ++ numL x).take n) → pgE xt (d - 1) 6 6 false (Option.none : Option Jvm.ClassFile.FieldType) (mj_dec prog_8_method_7_code) 79 [(0, .ref o), (5, ii ((t : Nat) : Int))] [] ((((h).set g (cB 20 E)).set b (cB n f1)).set o (cO 6 [.ref b, .ref g, ii ((m1 : Nat) : Int)])) (fun r h' => r = none ∧ prS o b g h h' ∧ prt h' o b g n ((bl f m ++ numL x).take n)) := by
              intro n79
              induction n79 using Nat.strongRecOn with
              | ind n79 ih79 =>
                intro t m1 f1 E hm79 ht20 hm1 hEr hBL
                refine me1 (pc' := 81) (L' := [(0, .ref o), (5, ii ((t : Nat) : Int))]) (S' := [ii ((t : Nat) : Int)]) dm_X6_putNumber_79 rfl rfl rfl rfl ?_
                refine y_1le (a := ((t : Nat) : Int)) (t := 128) (pc' := 84) dm_X6_putNumber_81 rfl rfl (by omega) (fun hb6 => ?_) (fun hb6 => ?_)
                · refine y_ret (r := none) dm_X6_putNumber_128 rfl rfl rfl ?_
                  refine ⟨rfl, ?_, f1, m1, E, hl_set (by simp; exact hl_lt ho), hl_ne (Ne.symm hne.1) (hl_set (by simp; exact hl_lt hb_)), hl_ne (Ne.symm hne.2.1) (hl_ne (Ne.symm hne.2.2) (hl_set (hl_lt hg_))), hm1, ?_⟩
                  · exact prS_3 hne.1 hne.2.1 hne.2.2 ho hb_ hg_ E f1 m1
                  · rw [← hBL]
                    first | (rw [show t = 0 by omega]; exact ((congrArg (List.take n) (List.append_nil _)).trans (take_bl hm1))) | (rw [show m1 = n by omega]; exact take_blA)
                · refine me1 (pc' := 85) (L' := [(0, .ref o), (5, ii ((t : Nat) : Int))]) (S' := [.ref o]) dm_X6_putNumber_84 rfl rfl rfl rfl ?_
                  refine me3 (pc' := 88) (S' := [ii ((m1 : Nat) : Int)]) dm_X6_putNumber_85 (g_get (v := ii ((m1 : Nat) : Int)) (hl_set (hl_lt (hl_ne hne.1 (hl_ne hne.2.1 ho)))) rfl rfl (by omega)) rfl rfl rfl ?_
                  refine me1 (pc' := 89) (L' := [(0, .ref o), (5, ii ((t : Nat) : Int))]) (S' := [.ref o, ii ((m1 : Nat) : Int)]) dm_X6_putNumber_88 rfl rfl rfl rfl ?_
                  refine me3 (pc' := 92) (S' := [.ref b, ii ((m1 : Nat) : Int)]) dm_X6_putNumber_89 (g_get (v := .ref b) (hl_set (hl_lt (hl_ne hne.1 (hl_ne hne.2.1 ho)))) rfl rfl (by omega)) rfl rfl rfl ?_
                  refine me3 (pc' := 93) (S' := [ii n, ii ((m1 : Nat) : Int)]) dm_X6_putNumber_92 (yh_len (n := n) rfl (hl_ne (Ne.symm hne.1) (hl_set (hl_lt (hl_ne hne.2.2 hb_)))) (by omega)) rfl rfl rfl ?_
                  refine y_2ge (a := ((m1 : Nat) : Int)) (b := n) (t := 128) (pc' := 96) dm_X6_putNumber_93 rfl rfl (by omega) (fun hb7 => ?_) (fun hb7 => ?_)
                  · refine y_ret (r := none) dm_X6_putNumber_128 rfl rfl rfl ?_
                    refine ⟨rfl, ?_, f1, m1, E, hl_set (by simp; exact hl_lt ho), hl_ne (Ne.symm hne.1) (hl_set (by simp; exact hl_lt hb_)), hl_ne (Ne.symm hne.2.1) (hl_ne (Ne.symm hne.2.2) (hl_set (hl_lt hg_))), hm1, ?_⟩
                    · exact prS_3 hne.1 hne.2.1 hne.2.2 ho hb_ hg_ E f1 m1
                    · rw [← hBL]
                      first | (rw [show t = 0 by omega]; exact ((congrArg (List.take n) (List.append_nil _)).trans (take_bl hm1))) | (rw [show m1 = n by omega]; exact take_blA)
                  · refine y_iinc (pc' := 99) (L' := [(5, ii (((t : Nat) : Int) + (-1))), (0, .ref o)]) dm_X6_putNumber_96 (y_incp (a := ((t : Nat) : Int)) (c := (-1)) rfl rfl (by decide)) rfl ?_
                    refine me1 (pc' := 100) (L' := [(5, ii (((t : Nat) : Int) + (-1))), (0, .ref o)]) (S' := [.ref o]) dm_X6_putNumber_99 rfl rfl rfl rfl ?_
                    refine me3 (pc' := 103) (S' := [.ref b]) dm_X6_putNumber_100 (g_get (v := .ref b) (hl_set (hl_lt (hl_ne hne.1 (hl_ne hne.2.1 ho)))) rfl rfl (by omega)) rfl rfl rfl ?_
                    refine me1 (pc' := 104) (L' := [(5, ii (((t : Nat) : Int) + (-1))), (0, .ref o)]) (S' := [.ref o, .ref b]) dm_X6_putNumber_103 rfl rfl rfl rfl ?_
                    refine me3 (pc' := 107) (S' := [ii ((m1 : Nat) : Int), .ref b]) dm_X6_putNumber_104 (g_get (v := ii ((m1 : Nat) : Int)) (hl_set (hl_lt (hl_ne hne.1 (hl_ne hne.2.1 ho)))) rfl rfl (by omega)) rfl rfl rfl ?_
                    refine me1 (pc' := 108) (L' := [(5, ii (((t : Nat) : Int) + (-1))), (0, .ref o)]) (S' := [.ref o, ii ((m1 : Nat) : Int), .ref b]) dm_X6_putNumber_107 rfl rfl rfl rfl ?_
                    refine me3 (pc' := 111) (S' := [.ref g, ii ((m1 : Nat) : Int), .ref b]) dm_X6_putNumber_108 (g_get (v := .ref g) (hl_set (hl_lt (hl_ne hne.1 (hl_ne hne.2.1 ho)))) rfl rfl (by omega)) rfl rfl rfl ?_
                    refine me1 (pc' := 113) (L' := [(5, ii (((t : Nat) : Int) + (-1))), (0, .ref o)]) (S' := [ii (((t : Nat) : Int) + (-1)), .ref g, ii ((m1 : Nat) : Int), .ref b]) dm_X6_putNumber_111 rfl rfl rfl rfl ?_
                    have hEt := hEr (t - 1) (by omega)
                    refine me3 (pc' := 114) (S' := [ii (E ((((t : Nat) : Int) + (-1)).toNat)), ii ((m1 : Nat) : Int), .ref b]) dm_X6_putNumber_113 (yh_bald (v := E ((((t : Nat) : Int) + (-1)).toNat)) (hl_ne (Ne.symm hne.2.1) (hl_ne (Ne.symm hne.2.2) (hl_set (hl_lt hg_)))) (by omega) (by omega) (by omega) (by omega) rfl) rfl rfl rfl ?_
                    refine pg_st0 (S' := [ii (E (t - 1)), ii ((m1 : Nat) : Int), .ref b]) (congrArg (fun z => ii z :: [ii ((m1 : Nat) : Int), .ref b]) (congrArg E (by omega))) ?_
                    refine me3 (pc' := 115) (S' := []) (h1 := ((((h).set g (cB 20 E)).set b (cB n f1)).set o (cO 6 [.ref b, .ref g, ii ((m1 : Nat) : Int)])).set b (cB n (va_up f1 m1 (E (t - 1))))) dm_X6_putNumber_114 (yh_bast (j := ((m1 : Nat) : Int)) (hl_ne (Ne.symm hne.1) (hl_set (hl_lt (hl_ne hne.2.2 hb_)))) (by omega) (by omega) (by omega) (by omega) (by omega) (by omega)) rfl rfl rfl ?_
                    refine me1 (pc' := 116) (L' := [(5, ii (((t : Nat) : Int) + (-1))), (0, .ref o)]) (S' := [.ref o]) dm_X6_putNumber_115 rfl rfl rfl rfl ?_
                    refine me0 (pc' := 117) (S' := [.ref o, .ref o]) dm_X6_putNumber_116 rfl rfl rfl rfl ?_
                    refine me3 (pc' := 120) (S' := [ii ((m1 : Nat) : Int), .ref o]) dm_X6_putNumber_117 (g_get (v := ii ((m1 : Nat) : Int)) (hl_ne hne.1 (hl_set (hl_lt (hl_ne hne.1 (hl_ne hne.2.1 ho))))) rfl rfl (by omega)) rfl rfl rfl ?_
                    refine me0 (pc' := 121) (S' := [ii 1, ii ((m1 : Nat) : Int), .ref o]) dm_X6_putNumber_120 rfl rfl rfl rfl ?_
                    refine y_iadd (a := ((m1 : Nat) : Int)) (b := 1) dm_X6_putNumber_121 (pc' := 122) rfl ?_
                    refine me3 (pc' := 125) (S' := []) (h1 := (((((h).set g (cB 20 E)).set b (cB n f1)).set o (cO 6 [.ref b, .ref g, ii ((m1 : Nat) : Int)])).set b (cB n (va_up f1 m1 (E (t - 1))))).set o (cO 6 [.ref b, .ref g, ii (((m1 : Nat) : Int) + 1)])) dm_X6_putNumber_122 (g_put (fs' := [.ref b, .ref g, ii (((m1 : Nat) : Int) + 1)]) (hl_ne hne.1 (hl_set (hl_lt (hl_ne hne.1 (hl_ne hne.2.1 ho))))) rfl rfl rfl (by simp) rfl (by decide) (fun z => by cases z) (by omega)) rfl rfl rfl ?_
                    rw [show ((t : Nat) : Int) + (-1) = ((t - 1 : Nat) : Int) by omega]
                    refine me2 (pc' := 79) (S' := []) dm_X6_putNumber_125 rfl rfl rfl ?_
                    refine pg_cast (h2 := (((h).set g (cB 20 E)).set b (cB n (va_up f1 m1 (E (t - 1))))).set o (cO 6 [.ref b, .ref g, ii (((m1 + 1) : Nat) : Int)])) (hl_sw hne.1) ?_
                    exact pg_sub (L := [(0, .ref o), (5, ii (((t - 1) : Nat) : Int))]) rfl rfl rfl (ih79 (t - 1) (by omega) (t - 1) (m1 + 1) (va_up f1 m1 (E (t - 1))) E rfl (by omega) (by omega) (fun j hj => hEr j (by omega)) (by rw [bl_up, List.append_assoc]; rw [show t = (t - 1) + 1 by omega, rl_s] at hBL; exact hBL))
            refine pg_cast (h2 := (((h).set g (cB 20 (va_up (va_up D k (48 + ((a % 10 : Nat) : Int))) (k + 1) 95))).set b (cB n f)).set o (cO 6 [.ref b, .ref g, ii ((m : Nat) : Int)])) (((hl_self (hl_ne hne.2.2 hb_)).symm ▸ (hl_self (hl_ne hne.2.1 ho)).symm)) ?_
            exact pg_sub (L := [(0, .ref o), (5, ii (((k + 1 + 1) : Nat) : Int))]) rfl rfl rfl (lp79 _ (k + 1 + 1) m f (va_up (va_up D k (48 + ((a % 10 : Nat) : Int))) (k + 1) 95) rfl (by omega) hm (fun j hj => by rw [up_at]; by_cases z : j = k + 1; (rw [if_pos z]; omega); (rw [if_neg z, hD1 j (by omega)]; unfold dgt; omega)) (by rw [show numL x = 95 :: rl (dgt x.toInt.natAbs) (k + 1) by unfold numL; rw [if_pos (by omega), hnd]; rfl, rl_s, up_eq, rl_congr (fun j hj => (up_ne _ _ (show j ≠ k + 1 by omega)).trans (hD1 j hj))]))
        · have ha1 : a / 10 = x.toInt.natAbs / 10 ^ (k + 1) := by rw [ha, Nat.div_div_eq_div_mul, Nat.pow_succ]
          have hD1 : ∀ j, j < k + 1 → va_up D k (48 + ((a % 10 : Nat) : Int)) j = dgt x.toInt.natAbs j := fun j hj => by rw [up_at]; by_cases z : j = k; (rw [if_pos z, z]; unfold dgt; rw [← ha]); (rw [if_neg z]; exact hD j (by omega))
          have hn0 : a / 10 ≠ 0 := fun z => hb2 (Int64.toInt_inj.mp (by rw [l_div10 hlf, z]; decide))
          have hz1 : ∀ j, 1 ≤ j → j ≤ k + 1 → x.toInt.natAbs / 10 ^ j ≠ 0 := fun j j1 j2 => by by_cases z : j = k + 1; (rw [z, ← ha1]; exact hn0); exact hz j j1 (by omega)
          have hk18 : k + 1 ≤ 18 := by (by_cases z : k = 18; (exfalso; rw [z] at ha1; have r9 := l_rng x; have e9 : (10 : Nat) ^ (18 + 1) = 10000000000000000000 := (by decide); rw [e9] at ha1; omega); omega)
          refine me1 (pc' := 51) (L' := [(3, .long (lf / (Int64.ofInt 10))), (5, ii ((k : Int) + 1)), (0, .ref o), (1, .long x)]) (S' := [ii ((k : Int) + 1)]) dm_X6_putNumber_49 rfl rfl rfl rfl ?_
          refine me1 (pc' := 52) (L' := [(3, .long (lf / (Int64.ofInt 10))), (5, ii ((k : Int) + 1)), (0, .ref o), (1, .long x)]) (S' := [.ref o, ii ((k : Int) + 1)]) dm_X6_putNumber_51 rfl rfl rfl rfl ?_
          refine me3 (pc' := 55) (S' := [.ref g, ii ((k : Int) + 1)]) dm_X6_putNumber_52 (g_get (v := .ref g) (hl_ne hne.2.1 ho) rfl rfl (by omega)) rfl rfl rfl ?_
          refine me3 (pc' := 56) (S' := [ii 20, ii ((k : Int) + 1)]) dm_X6_putNumber_55 (yh_len (n := 20) rfl (hl_set (hl_lt hg_)) (by omega)) rfl rfl rfl ?_
          refine me0 (pc' := 57) (S' := [ii 1, ii 20, ii ((k : Int) + 1)]) dm_X6_putNumber_56 rfl rfl rfl rfl ?_
          refine me0 (pc' := 58) (S' := [ii 19, ii ((k : Int) + 1)]) dm_X6_putNumber_57 rfl rfl rfl rfl ?_
          refine y_2lt (a := (k : Int) + 1) (b := 19) (t := 16) (pc' := 61) dm_X6_putNumber_58 rfl rfl (by omega) (fun hb8 => ?_) (fun hb8 => ?_)
          · exact pg_sub (L := [(0, .ref o), (1, .long x), (3, .long (lf / Int64.ofInt 10)), (5, ii ((k + 1) : Int))]) rfl rfl rfl (ih16 (18 - (k + 1)) (by omega) (k + 1) (a / 10) (lf / Int64.ofInt 10) (va_up D k (48 + ((a % 10 : Nat) : Int))) rfl hk18 (l_div10 hlf) ha1 hz1 hD1)
          · exfalso; omega
    refine pg_cast (h2 := (h).set g (cB 20 dg0)) (hl_self hg_).symm ?_
    exact pg_sub (L := [(0, .ref o), (1, .long x), (3, .long (-x)), (5, ii (0 : Int))]) rfl rfl rfl (lp16 _ 0 x.toInt.natAbs (-x) dg0 rfl (by omega) (by first | omega | (rw [l_neg (by omega)]; omega)) (by rw [Nat.pow_zero, Nat.div_one]) (fun j h1 h2 => absurd h1 (by omega)) (fun j hj => absurd hj (Nat.not_lt_zero j)))
  · rw [h0] at hb1
    refine me1 (pc' := 7) (L' := [(0, .ref o), (1, .long x)]) (S' := [.long x]) dm_X6_putNumber_6 rfl rfl rfl rfl ?_
    refine me2 (pc' := 12) (S' := [.long x]) dm_X6_putNumber_7 rfl rfl rfl ?_
    refine me1 (pc' := 13) (L' := [(3, .long x), (0, .ref o), (1, .long x)]) (S' := []) dm_X6_putNumber_12 rfl rfl rfl rfl ?_
    refine me0 (pc' := 14) (S' := [ii 0]) dm_X6_putNumber_13 rfl rfl rfl rfl ?_
    refine me1 (pc' := 16) (L' := [(5, ii 0), (3, .long x), (0, .ref o), (1, .long x)]) (S' := []) dm_X6_putNumber_14 rfl rfl rfl rfl ?_
    have lp16 : ∀ (n16 : Nat) (k : Nat) (a : Nat) (lf : Int64) (D : Nat → Int), 18 - k = n16 → (k ≤ 18) → (lf.toInt = -(a : Int)) → (a = x.toInt.natAbs / 10 ^ k) → (∀ j, 1 ≤ j → j ≤ k → x.toInt.natAbs / 10 ^ j ≠ 0) → (∀ j, j < k → D j = dgt x.toInt.natAbs j) → pgE xt (d - 1) 6 6 false (Option.none : Option Jvm.ClassFile.FieldType) (mj_dec prog_8_method_7_code) 16 [(0, .ref o), (1, .long x), (3, .long lf), (5, ii (k : Int))] [] ((h).set g (cB 20 D)) (fun r h' => r = none ∧ prS o b g h h' ∧ prt h' o b g n ((bl f m ++ numL x).take n)) := by
      intro n16
      induction n16 using Nat.strongRecOn with
      | ind n16 ih16 =>
        intro k a lf D hm16 hk hlf ha hz hD
        refine me1 (pc' := 17) (L' := [(0, .ref o), (1, .long x), (3, .long lf), (5, ii (k : Int))]) (S' := [.ref o]) dm_X6_putNumber_16 rfl rfl rfl rfl ?_
        refine me3 (pc' := 20) (S' := [.ref g]) dm_X6_putNumber_17 (g_get (v := .ref g) (hl_ne hne.2.1 ho) rfl rfl (by omega)) rfl rfl rfl ?_
        refine me1 (pc' := 22) (L' := [(0, .ref o), (1, .long x), (3, .long lf), (5, ii (k : Int))]) (S' := [ii (k : Int), .ref g]) dm_X6_putNumber_20 rfl rfl rfl rfl ?_
        refine me3 (pc' := 25) (S' := [.long (Int64.ofInt 48), ii (k : Int), .ref g]) dm_X6_putNumber_22 rfl rfl rfl rfl ?_
        refine me1 (pc' := 26) (L' := [(0, .ref o), (1, .long x), (3, .long lf), (5, ii (k : Int))]) (S' := [.long lf, .long (Int64.ofInt 48), ii (k : Int), .ref g]) dm_X6_putNumber_25 rfl rfl rfl rfl ?_
        refine me3 (pc' := 29) (S' := [.long (Int64.ofInt 10), .long lf, .long (Int64.ofInt 48), ii (k : Int), .ref g]) dm_X6_putNumber_26 rfl rfl rfl rfl ?_
        refine y_lrem (x := lf) (y := Int64.ofInt 10) dm_X6_putNumber_29 (pc' := 30) rfl (by decide) ?_
        refine me0 (pc' := 31) (S' := [.long ((Int64.ofInt 48) - (lf - lf / (Int64.ofInt 10) * (Int64.ofInt 10))), ii (k : Int), .ref g]) dm_X6_putNumber_30 rfl rfl rfl rfl ?_
        refine y_l2i (a := 48 + ((a % 10 : Nat) : Int)) dm_X6_putNumber_31 (pc' := 32) rfl (n_l2i _ (l_dig hlf)) ?_
        refine y_i2b (a := 48 + ((a % 10 : Nat) : Int)) dm_X6_putNumber_32 (pc' := 33) rfl (by omega) (by omega) ?_
        refine me3 (pc' := 34) (S' := []) (h1 := (h).set g (cB 20 (va_up D k (48 + ((a % 10 : Nat) : Int))))) dm_X6_putNumber_33 (y_hs (yh_bast (j := (k : Int)) (hl_set (hl_lt hg_)) (by omega) (by omega) (by omega) (by omega) (by omega) (by omega)) (by rw [show (k : Int).toNat = k from rfl]; rw [List.set_set])) rfl rfl rfl ?_
        refine y_iinc (pc' := 37) (L' := [(5, ii ((k : Int) + 1)), (0, .ref o), (1, .long x), (3, .long lf)]) dm_X6_putNumber_34 (y_incp (a := (k : Int)) (c := 1) rfl rfl (by decide)) rfl ?_
        refine me1 (pc' := 38) (L' := [(5, ii ((k : Int) + 1)), (0, .ref o), (1, .long x), (3, .long lf)]) (S' := [.long lf]) dm_X6_putNumber_37 rfl rfl rfl rfl ?_
        refine me3 (pc' := 41) (S' := [.long (Int64.ofInt 10), .long lf]) dm_X6_putNumber_38 rfl rfl rfl rfl ?_
        refine y_ldiv (x := lf) (y := Int64.ofInt 10) dm_X6_putNumber_41 (pc' := 42) rfl (by decide) ?_
        refine me1 (pc' := 43) (L' := [(3, .long (lf / (Int64.ofInt 10))), (5, ii ((k : Int) + 1)), (0, .ref o), (1, .long x)]) (S' := []) dm_X6_putNumber_42 rfl rfl rfl rfl ?_
        refine me1 (pc' := 44) (L' := [(3, .long (lf / (Int64.ofInt 10))), (5, ii ((k : Int) + 1)), (0, .ref o), (1, .long x)]) (S' := [.long (lf / (Int64.ofInt 10))]) dm_X6_putNumber_43 rfl rfl rfl rfl ?_
        refine me0 (pc' := 45) (S' := [.long (Int64.ofInt 0), .long (lf / (Int64.ofInt 10))]) dm_X6_putNumber_44 rfl rfl rfl rfl ?_
        refine y_leq (x := lf / (Int64.ofInt 10)) (y := Int64.ofInt 0) (t := 61) (pc1 := 46) (pc' := 49) dm_X6_putNumber_45 rfl dm_X6_putNumber_46 rfl rfl (fun hb9 => ?_) (fun hb9 => ?_)
        · have ha1 : a / 10 = x.toInt.natAbs / 10 ^ (k + 1) := by rw [ha, Nat.div_div_eq_div_mul, Nat.pow_succ]
          have hD1 : ∀ j, j < k + 1 → va_up D k (48 + ((a % 10 : Nat) : Int)) j = dgt x.toInt.natAbs j := fun j hj => by rw [up_at]; by_cases z : j = k; (rw [if_pos z, z]; unfold dgt; rw [← ha]); (rw [if_neg z]; exact hD j (by omega))
          have hn0 : a / 10 = 0 := by have z := l_div10 hlf; rw [hb9] at z; have e0 : (Int64.ofInt 0).toInt = 0 := (by decide); rw [e0] at z; omega
          have hnd : nd x.toInt.natAbs = k + 1 := nd_eq (by omega) (by rw [← ha1]; exact hn0) hz
          clear hD
          refine me1 (pc' := 62) (L' := [(3, .long (lf / (Int64.ofInt 10))), (5, ii ((k : Int) + 1)), (0, .ref o), (1, .long x)]) (S' := [.long x]) dm_X6_putNumber_61 rfl rfl rfl rfl ?_
          refine me0 (pc' := 63) (S' := [.long (Int64.ofInt 0), .long x]) dm_X6_putNumber_62 rfl rfl rfl rfl ?_
          refine y_lge (x := x) (y := Int64.ofInt 0) (t := 79) (pc1 := 64) (pc' := 67) dm_X6_putNumber_63 rfl dm_X6_putNumber_64 rfl rfl (fun hb10 => ?_) (fun hb10 => ?_)
          · rw [h0] at hb10
            have lp79 : ∀ (n79 : Nat) (t : Nat) (m1 : Nat) (f1 : Nat → Int) (E : Nat → Int), t = n79 → (t ≤ 20) → (m1 ≤ n) → (∀ j, j < t → 0 ≤ E j ∧ E j ≤ 127) → ((bl f1 m1 ++ rl E t).take n = (bl f m ++ numL x).take n) → pgE xt (d - 1) 6 6 false (Option.none : Option Jvm.ClassFile.FieldType) (mj_dec prog_8_method_7_code) 79 [(0, .ref o), (5, ii ((t : Nat) : Int))] [] ((((h).set g (cB 20 E)).set b (cB n f1)).set o (cO 6 [.ref b, .ref g, ii ((m1 : Nat) : Int)])) (fun r h' => r = none ∧ prS o b g h h' ∧ prt h' o b g n ((bl f m ++ numL x).take n)) := by
              intro n79
              induction n79 using Nat.strongRecOn with
              | ind n79 ih79 =>
                intro t m1 f1 E hm79 ht20 hm1 hEr hBL
                refine me1 (pc' := 81) (L' := [(0, .ref o), (5, ii ((t : Nat) : Int))]) (S' := [ii ((t : Nat) : Int)]) dm_X6_putNumber_79 rfl rfl rfl rfl ?_
                refine y_1le (a := ((t : Nat) : Int)) (t := 128) (pc' := 84) dm_X6_putNumber_81 rfl rfl (by omega) (fun hb11 => ?_) (fun hb11 => ?_)
                · refine y_ret (r := none) dm_X6_putNumber_128 rfl rfl rfl ?_
                  refine ⟨rfl, ?_, f1, m1, E, hl_set (by simp; exact hl_lt ho), hl_ne (Ne.symm hne.1) (hl_set (by simp; exact hl_lt hb_)), hl_ne (Ne.symm hne.2.1) (hl_ne (Ne.symm hne.2.2) (hl_set (hl_lt hg_))), hm1, ?_⟩
                  · exact prS_3 hne.1 hne.2.1 hne.2.2 ho hb_ hg_ E f1 m1
                  · rw [← hBL]
                    first | (rw [show t = 0 by omega]; exact ((congrArg (List.take n) (List.append_nil _)).trans (take_bl hm1))) | (rw [show m1 = n by omega]; exact take_blA)
                · refine me1 (pc' := 85) (L' := [(0, .ref o), (5, ii ((t : Nat) : Int))]) (S' := [.ref o]) dm_X6_putNumber_84 rfl rfl rfl rfl ?_
                  refine me3 (pc' := 88) (S' := [ii ((m1 : Nat) : Int)]) dm_X6_putNumber_85 (g_get (v := ii ((m1 : Nat) : Int)) (hl_set (hl_lt (hl_ne hne.1 (hl_ne hne.2.1 ho)))) rfl rfl (by omega)) rfl rfl rfl ?_
                  refine me1 (pc' := 89) (L' := [(0, .ref o), (5, ii ((t : Nat) : Int))]) (S' := [.ref o, ii ((m1 : Nat) : Int)]) dm_X6_putNumber_88 rfl rfl rfl rfl ?_
                  refine me3 (pc' := 92) (S' := [.ref b, ii ((m1 : Nat) : Int)]) dm_X6_putNumber_89 (g_get (v := .ref b) (hl_set (hl_lt (hl_ne hne.1 (hl_ne hne.2.1 ho)))) rfl rfl (by omega)) rfl rfl rfl ?_
                  refine me3 (pc' := 93) (S' := [ii n, ii ((m1 : Nat) : Int)]) dm_X6_putNumber_92 (yh_len (n := n) rfl (hl_ne (Ne.symm hne.1) (hl_set (hl_lt (hl_ne hne.2.2 hb_)))) (by omega)) rfl rfl rfl ?_
                  refine y_2ge (a := ((m1 : Nat) : Int)) (b := n) (t := 128) (pc' := 96) dm_X6_putNumber_93 rfl rfl (by omega) (fun hb12 => ?_) (fun hb12 => ?_)
                  · refine y_ret (r := none) dm_X6_putNumber_128 rfl rfl rfl ?_
                    refine ⟨rfl, ?_, f1, m1, E, hl_set (by simp; exact hl_lt ho), hl_ne (Ne.symm hne.1) (hl_set (by simp; exact hl_lt hb_)), hl_ne (Ne.symm hne.2.1) (hl_ne (Ne.symm hne.2.2) (hl_set (hl_lt hg_))), hm1, ?_⟩
                    · exact prS_3 hne.1 hne.2.1 hne.2.2 ho hb_ hg_ E f1 m1
                    · rw [← hBL]
                      first | (rw [show t = 0 by omega]; exact ((congrArg (List.take n) (List.append_nil _)).trans (take_bl hm1))) | (rw [show m1 = n by omega]; exact take_blA)
                  · refine y_iinc (pc' := 99) (L' := [(5, ii (((t : Nat) : Int) + (-1))), (0, .ref o)]) dm_X6_putNumber_96 (y_incp (a := ((t : Nat) : Int)) (c := (-1)) rfl rfl (by decide)) rfl ?_
                    refine me1 (pc' := 100) (L' := [(5, ii (((t : Nat) : Int) + (-1))), (0, .ref o)]) (S' := [.ref o]) dm_X6_putNumber_99 rfl rfl rfl rfl ?_
                    refine me3 (pc' := 103) (S' := [.ref b]) dm_X6_putNumber_100 (g_get (v := .ref b) (hl_set (hl_lt (hl_ne hne.1 (hl_ne hne.2.1 ho)))) rfl rfl (by omega)) rfl rfl rfl ?_
                    refine me1 (pc' := 104) (L' := [(5, ii (((t : Nat) : Int) + (-1))), (0, .ref o)]) (S' := [.ref o, .ref b]) dm_X6_putNumber_103 rfl rfl rfl rfl ?_
                    refine me3 (pc' := 107) (S' := [ii ((m1 : Nat) : Int), .ref b]) dm_X6_putNumber_104 (g_get (v := ii ((m1 : Nat) : Int)) (hl_set (hl_lt (hl_ne hne.1 (hl_ne hne.2.1 ho)))) rfl rfl (by omega)) rfl rfl rfl ?_
                    refine me1 (pc' := 108) (L' := [(5, ii (((t : Nat) : Int) + (-1))), (0, .ref o)]) (S' := [.ref o, ii ((m1 : Nat) : Int), .ref b]) dm_X6_putNumber_107 rfl rfl rfl rfl ?_
                    refine me3 (pc' := 111) (S' := [.ref g, ii ((m1 : Nat) : Int), .ref b]) dm_X6_putNumber_108 (g_get (v := .ref g) (hl_set (hl_lt (hl_ne hne.1 (hl_ne hne.2.1 ho)))) rfl rfl (by omega)) rfl rfl rfl ?_
                    refine me1 (pc' := 113) (L' := [(5, ii (((t : Nat) : Int) + (-1))), (0, .ref o)]) (S' := [ii (((t : Nat) : Int) + (-1)), .ref g, ii ((m1 : Nat) : Int), .ref b]) dm_X6_putNumber_111 rfl rfl rfl rfl ?_
                    have hEt := hEr (t - 1) (by omega)
                    refine me3 (pc' := 114) (S' := [ii (E ((((t : Nat) : Int) + (-1)).toNat)), ii ((m1 : Nat) : Int), .ref b]) dm_X6_putNumber_113 (yh_bald (v := E ((((t : Nat) : Int) + (-1)).toNat)) (hl_ne (Ne.symm hne.2.1) (hl_ne (Ne.symm hne.2.2) (hl_set (hl_lt hg_)))) (by omega) (by omega) (by omega) (by omega) rfl) rfl rfl rfl ?_
                    refine pg_st0 (S' := [ii (E (t - 1)), ii ((m1 : Nat) : Int), .ref b]) (congrArg (fun z => ii z :: [ii ((m1 : Nat) : Int), .ref b]) (congrArg E (by omega))) ?_
                    refine me3 (pc' := 115) (S' := []) (h1 := ((((h).set g (cB 20 E)).set b (cB n f1)).set o (cO 6 [.ref b, .ref g, ii ((m1 : Nat) : Int)])).set b (cB n (va_up f1 m1 (E (t - 1))))) dm_X6_putNumber_114 (yh_bast (j := ((m1 : Nat) : Int)) (hl_ne (Ne.symm hne.1) (hl_set (hl_lt (hl_ne hne.2.2 hb_)))) (by omega) (by omega) (by omega) (by omega) (by omega) (by omega)) rfl rfl rfl ?_
                    refine me1 (pc' := 116) (L' := [(5, ii (((t : Nat) : Int) + (-1))), (0, .ref o)]) (S' := [.ref o]) dm_X6_putNumber_115 rfl rfl rfl rfl ?_
                    refine me0 (pc' := 117) (S' := [.ref o, .ref o]) dm_X6_putNumber_116 rfl rfl rfl rfl ?_
                    refine me3 (pc' := 120) (S' := [ii ((m1 : Nat) : Int), .ref o]) dm_X6_putNumber_117 (g_get (v := ii ((m1 : Nat) : Int)) (hl_ne hne.1 (hl_set (hl_lt (hl_ne hne.1 (hl_ne hne.2.1 ho))))) rfl rfl (by omega)) rfl rfl rfl ?_
                    refine me0 (pc' := 121) (S' := [ii 1, ii ((m1 : Nat) : Int), .ref o]) dm_X6_putNumber_120 rfl rfl rfl rfl ?_
                    refine y_iadd (a := ((m1 : Nat) : Int)) (b := 1) dm_X6_putNumber_121 (pc' := 122) rfl ?_
                    refine me3 (pc' := 125) (S' := []) (h1 := (((((h).set g (cB 20 E)).set b (cB n f1)).set o (cO 6 [.ref b, .ref g, ii ((m1 : Nat) : Int)])).set b (cB n (va_up f1 m1 (E (t - 1))))).set o (cO 6 [.ref b, .ref g, ii (((m1 : Nat) : Int) + 1)])) dm_X6_putNumber_122 (g_put (fs' := [.ref b, .ref g, ii (((m1 : Nat) : Int) + 1)]) (hl_ne hne.1 (hl_set (hl_lt (hl_ne hne.1 (hl_ne hne.2.1 ho))))) rfl rfl rfl (by simp) rfl (by decide) (fun z => by cases z) (by omega)) rfl rfl rfl ?_
                    rw [show ((t : Nat) : Int) + (-1) = ((t - 1 : Nat) : Int) by omega]
                    refine me2 (pc' := 79) (S' := []) dm_X6_putNumber_125 rfl rfl rfl ?_
                    refine pg_cast (h2 := (((h).set g (cB 20 E)).set b (cB n (va_up f1 m1 (E (t - 1))))).set o (cO 6 [.ref b, .ref g, ii (((m1 + 1) : Nat) : Int)])) (hl_sw hne.1) ?_
                    exact pg_sub (L := [(0, .ref o), (5, ii (((t - 1) : Nat) : Int))]) rfl rfl rfl (ih79 (t - 1) (by omega) (t - 1) (m1 + 1) (va_up f1 m1 (E (t - 1))) E rfl (by omega) (by omega) (fun j hj => hEr j (by omega)) (by rw [bl_up, List.append_assoc]; rw [show t = (t - 1) + 1 by omega, rl_s] at hBL; exact hBL))
            refine pg_cast (h2 := (((h).set g (cB 20 (va_up D k (48 + ((a % 10 : Nat) : Int))))).set b (cB n f)).set o (cO 6 [.ref b, .ref g, ii ((m : Nat) : Int)])) (((hl_self (hl_ne hne.2.2 hb_)).symm ▸ (hl_self (hl_ne hne.2.1 ho)).symm)) ?_
            exact pg_sub (L := [(0, .ref o), (5, ii (((k + 1) : Nat) : Int))]) rfl rfl rfl (lp79 _ (k + 1) m f (va_up D k (48 + ((a % 10 : Nat) : Int))) rfl (by omega) hm (fun j hj => by have z := hD1 j hj; rw [z]; unfold dgt; omega) (by rw [show numL x = rl (dgt x.toInt.natAbs) (k + 1) by unfold numL; rw [if_neg (by omega), hnd]; rfl, rl_congr hD1]))
          · rw [h0] at hb10
            refine me1 (pc' := 68) (L' := [(3, .long (lf / (Int64.ofInt 10))), (5, ii ((k : Int) + 1)), (0, .ref o), (1, .long x)]) (S' := [.ref o]) dm_X6_putNumber_67 rfl rfl rfl rfl ?_
            refine me3 (pc' := 71) (S' := [.ref g]) dm_X6_putNumber_68 (g_get (v := .ref g) (hl_ne hne.2.1 ho) rfl rfl (by omega)) rfl rfl rfl ?_
            refine me1 (pc' := 73) (L' := [(3, .long (lf / (Int64.ofInt 10))), (5, ii ((k : Int) + 1)), (0, .ref o), (1, .long x)]) (S' := [ii ((k : Int) + 1), .ref g]) dm_X6_putNumber_71 rfl rfl rfl rfl ?_
            refine me0 (pc' := 75) (S' := [ii 95, ii ((k : Int) + 1), .ref g]) dm_X6_putNumber_73 rfl rfl rfl rfl ?_
            refine me3 (pc' := 76) (S' := []) (h1 := (h).set g (cB 20 (va_up (va_up D k (48 + ((a % 10 : Nat) : Int))) (k + 1) 95))) dm_X6_putNumber_75 (y_hs (yh_bast (j := (k : Int) + 1) (hl_set (hl_lt hg_)) (by omega) (by omega) (by omega) (by omega) (by omega) (by omega)) (by rw [show ((k : Int) + 1).toNat = k + 1 from rfl]; rw [List.set_set])) rfl rfl rfl ?_
            refine y_iinc (pc' := 79) (L' := [(5, ii ((k : Int) + 1 + 1)), (3, .long (lf / (Int64.ofInt 10))), (0, .ref o), (1, .long x)]) dm_X6_putNumber_76 (y_incp (a := ((k : Int) + 1)) (c := 1) rfl rfl (by decide)) rfl ?_
            have lp79 : ∀ (n79 : Nat) (t : Nat) (m1 : Nat) (f1 : Nat → Int) (E : Nat → Int), t = n79 → (t ≤ 20) → (m1 ≤ n) → (∀ j, j < t → 0 ≤ E j ∧ E j ≤ 127) → ((bl f1 m1 ++ rl E t).take n = (bl f m ++ numL x).take n) → pgE xt (d - 1) 6 6 false (Option.none : Option Jvm.ClassFile.FieldType) (mj_dec prog_8_method_7_code) 79 [(0, .ref o), (5, ii ((t : Nat) : Int))] [] ((((h).set g (cB 20 E)).set b (cB n f1)).set o (cO 6 [.ref b, .ref g, ii ((m1 : Nat) : Int)])) (fun r h' => r = none ∧ prS o b g h h' ∧ prt h' o b g n ((bl f m ++ numL x).take n)) := by
              intro n79
              induction n79 using Nat.strongRecOn with
              | ind n79 ih79 =>
                intro t m1 f1 E hm79 ht20 hm1 hEr hBL
                refine me1 (pc' := 81) (L' := [(0, .ref o), (5, ii ((t : Nat) : Int))]) (S' := [ii ((t : Nat) : Int)]) dm_X6_putNumber_79 rfl rfl rfl rfl ?_
                refine y_1le (a := ((t : Nat) : Int)) (t := 128) (pc' := 84) dm_X6_putNumber_81 rfl rfl (by omega) (fun hb13 => ?_) (fun hb13 => ?_)
                · refine y_ret (r := none) dm_X6_putNumber_128 rfl rfl rfl ?_
                  refine ⟨rfl, ?_, f1, m1, E, hl_set (by simp; exact hl_lt ho), hl_ne (Ne.symm hne.1) (hl_set (by simp; exact hl_lt hb_)), hl_ne (Ne.symm hne.2.1) (hl_ne (Ne.symm hne.2.2) (hl_set (hl_lt hg_))), hm1, ?_⟩
                  · exact prS_3 hne.1 hne.2.1 hne.2.2 ho hb_ hg_ E f1 m1
                  · rw [← hBL]
                    first | (rw [show t = 0 by omega]; exact ((congrArg (List.take n) (List.append_nil _)).trans (take_bl hm1))) | (rw [show m1 = n by omega]; exact take_blA)
                · refine me1 (pc' := 85) (L' := [(0, .ref o), (5, ii ((t : Nat) : Int))]) (S' := [.ref o]) dm_X6_putNumber_84 rfl rfl rfl rfl ?_
                  refine me3 (pc' := 88) (S' := [ii ((m1 : Nat) : Int)]) dm_X6_putNumber_85 (g_get (v := ii ((m1 : Nat) : Int)) (hl_set (hl_lt (hl_ne hne.1 (hl_ne hne.2.1 ho)))) rfl rfl (by omega)) rfl rfl rfl ?_
                  refine me1 (pc' := 89) (L' := [(0, .ref o), (5, ii ((t : Nat) : Int))]) (S' := [.ref o, ii ((m1 : Nat) : Int)]) dm_X6_putNumber_88 rfl rfl rfl rfl ?_
                  refine me3 (pc' := 92) (S' := [.ref b, ii ((m1 : Nat) : Int)]) dm_X6_putNumber_89 (g_get (v := .ref b) (hl_set (hl_lt (hl_ne hne.1 (hl_ne hne.2.1 ho)))) rfl rfl (by omega)) rfl rfl rfl ?_
                  refine me3 (pc' := 93) (S' := [ii n, ii ((m1 : Nat) : Int)]) dm_X6_putNumber_92 (yh_len (n := n) rfl (hl_ne (Ne.symm hne.1) (hl_set (hl_lt (hl_ne hne.2.2 hb_)))) (by omega)) rfl rfl rfl ?_
                  refine y_2ge (a := ((m1 : Nat) : Int)) (b := n) (t := 128) (pc' := 96) dm_X6_putNumber_93 rfl rfl (by omega) (fun hb14 => ?_) (fun hb14 => ?_)
                  · refine y_ret (r := none) dm_X6_putNumber_128 rfl rfl rfl ?_
                    refine ⟨rfl, ?_, f1, m1, E, hl_set (by simp; exact hl_lt ho), hl_ne (Ne.symm hne.1) (hl_set (by simp; exact hl_lt hb_)), hl_ne (Ne.symm hne.2.1) (hl_ne (Ne.symm hne.2.2) (hl_set (hl_lt hg_))), hm1, ?_⟩
                    · exact prS_3 hne.1 hne.2.1 hne.2.2 ho hb_ hg_ E f1 m1
                    · rw [← hBL]
                      first | (rw [show t = 0 by omega]; exact ((congrArg (List.take n) (List.append_nil _)).trans (take_bl hm1))) | (rw [show m1 = n by omega]; exact take_blA)
                  · refine y_iinc (pc' := 99) (L' := [(5, ii (((t : Nat) : Int) + (-1))), (0, .ref o)]) dm_X6_putNumber_96 (y_incp (a := ((t : Nat) : Int)) (c := (-1)) rfl rfl (by decide)) rfl ?_
                    refine me1 (pc' := 100) (L' := [(5, ii (((t : Nat) : Int) + (-1))), (0, .ref o)]) (S' := [.ref o]) dm_X6_putNumber_99 rfl rfl rfl rfl ?_
                    refine me3 (pc' := 103) (S' := [.ref b]) dm_X6_putNumber_100 (g_get (v := .ref b) (hl_set (hl_lt (hl_ne hne.1 (hl_ne hne.2.1 ho)))) rfl rfl (by omega)) rfl rfl rfl ?_
                    refine me1 (pc' := 104) (L' := [(5, ii (((t : Nat) : Int) + (-1))), (0, .ref o)]) (S' := [.ref o, .ref b]) dm_X6_putNumber_103 rfl rfl rfl rfl ?_
                    refine me3 (pc' := 107) (S' := [ii ((m1 : Nat) : Int), .ref b]) dm_X6_putNumber_104 (g_get (v := ii ((m1 : Nat) : Int)) (hl_set (hl_lt (hl_ne hne.1 (hl_ne hne.2.1 ho)))) rfl rfl (by omega)) rfl rfl rfl ?_
                    refine me1 (pc' := 108) (L' := [(5, ii (((t : Nat) : Int) + (-1))), (0, .ref o)]) (S' := [.ref o, ii ((m1 : Nat) : Int), .ref b]) dm_X6_putNumber_107 rfl rfl rfl rfl ?_
                    refine me3 (pc' := 111) (S' := [.ref g, ii ((m1 : Nat) : Int), .ref b]) dm_X6_putNumber_108 (g_get (v := .ref g) (hl_set (hl_lt (hl_ne hne.1 (hl_ne hne.2.1 ho)))) rfl rfl (by omega)) rfl rfl rfl ?_
                    refine me1 (pc' := 113) (L' := [(5, ii (((t : Nat) : Int) + (-1))), (0, .ref o)]) (S' := [ii (((t : Nat) : Int) + (-1)), .ref g, ii ((m1 : Nat) : Int), .ref b]) dm_X6_putNumber_111 rfl rfl rfl rfl ?_
                    have hEt := hEr (t - 1) (by omega)
                    refine me3 (pc' := 114) (S' := [ii (E ((((t : Nat) : Int) + (-1)).toNat)), ii ((m1 : Nat) : Int), .ref b]) dm_X6_putNumber_113 (yh_bald (v := E ((((t : Nat) : Int) + (-1)).toNat)) (hl_ne (Ne.symm hne.2.1) (hl_ne (Ne.symm hne.2.2) (hl_set (hl_lt hg_)))) (by omega) (by omega) (by omega) (by omega) rfl) rfl rfl rfl ?_
                    refine pg_st0 (S' := [ii (E (t - 1)), ii ((m1 : Nat) : Int), .ref b]) (congrArg (fun z => ii z :: [ii ((m1 : Nat) : Int), .ref b]) (congrArg E (by omega))) ?_
                    refine me3 (pc' := 115) (S' := []) (h1 := ((((h).set g (cB 20 E)).set b (cB n f1)).set o (cO 6 [.ref b, .ref g, ii ((m1 : Nat) : Int)])).set b (cB n (va_up f1 m1 (E (t - 1))))) dm_X6_putNumber_114 (yh_bast (j := ((m1 : Nat) : Int)) (hl_ne (Ne.symm hne.1) (hl_set (hl_lt (hl_ne hne.2.2 hb_)))) (by omega) (by omega) (by omega) (by omega) (by omega) (by omega)) rfl rfl rfl ?_
                    refine me1 (pc' := 116) (L' := [(5, ii (((t : Nat) : Int) + (-1))), (0, .ref o)]) (S' := [.ref o]) dm_X6_putNumber_115 rfl rfl rfl rfl ?_
                    refine me0 (pc' := 117) (S' := [.ref o, .ref o]) dm_X6_putNumber_116 rfl rfl rfl rfl ?_
                    refine me3 (pc' := 120) (S' := [ii ((m1 : Nat) : Int), .ref o]) dm_X6_putNumber_117 (g_get (v := ii ((m1 : Nat) : Int)) (hl_ne hne.1 (hl_set (hl_lt (hl_ne hne.1 (hl_ne hne.2.1 ho))))) rfl rfl (by omega)) rfl rfl rfl ?_
                    refine me0 (pc' := 121) (S' := [ii 1, ii ((m1 : Nat) : Int), .ref o]) dm_X6_putNumber_120 rfl rfl rfl rfl ?_
                    refine y_iadd (a := ((m1 : Nat) : Int)) (b := 1) dm_X6_putNumber_121 (pc' := 122) rfl ?_
                    refine me3 (pc' := 125) (S' := []) (h1 := (((((h).set g (cB 20 E)).set b (cB n f1)).set o (cO 6 [.ref b, .ref g, ii ((m1 : Nat) : Int)])).set b (cB n (va_up f1 m1 (E (t - 1))))).set o (cO 6 [.ref b, .ref g, ii (((m1 : Nat) : Int) + 1)])) dm_X6_putNumber_122 (g_put (fs' := [.ref b, .ref g, ii (((m1 : Nat) : Int) + 1)]) (hl_ne hne.1 (hl_set (hl_lt (hl_ne hne.1 (hl_ne hne.2.1 ho))))) rfl rfl rfl (by simp) rfl (by decide) (fun z => by cases z) (by omega)) rfl rfl rfl ?_
                    rw [show ((t : Nat) : Int) + (-1) = ((t - 1 : Nat) : Int) by omega]
                    refine me2 (pc' := 79) (S' := []) dm_X6_putNumber_125 rfl rfl rfl ?_
                    refine pg_cast (h2 := (((h).set g (cB 20 E)).set b (cB n (va_up f1 m1 (E (t - 1))))).set o (cO 6 [.ref b, .ref g, ii (((m1 + 1) : Nat) : Int)])) (hl_sw hne.1) ?_
                    exact pg_sub (L := [(0, .ref o), (5, ii (((t - 1) : Nat) : Int))]) rfl rfl rfl (ih79 (t - 1) (by omega) (t - 1) (m1 + 1) (va_up f1 m1 (E (t - 1))) E rfl (by omega) (by omega) (fun j hj => hEr j (by omega)) (by rw [bl_up, List.append_assoc]; rw [show t = (t - 1) + 1 by omega, rl_s] at hBL; exact hBL))
            refine pg_cast (h2 := (((h).set g (cB 20 (va_up (va_up D k (48 + ((a % 10 : Nat) : Int))) (k + 1) 95))).set b (cB n f)).set o (cO 6 [.ref b, .ref g, ii ((m : Nat) : Int)])) (((hl_self (hl_ne hne.2.2 hb_)).symm ▸ (hl_self (hl_ne hne.2.1 ho)).symm)) ?_
            exact pg_sub (L := [(0, .ref o), (5, ii (((k + 1 + 1) : Nat) : Int))]) rfl rfl rfl (lp79 _ (k + 1 + 1) m f (va_up (va_up D k (48 + ((a % 10 : Nat) : Int))) (k + 1) 95) rfl (by omega) hm (fun j hj => by rw [up_at]; by_cases z : j = k + 1; (rw [if_pos z]; omega); (rw [if_neg z, hD1 j (by omega)]; unfold dgt; omega)) (by rw [show numL x = 95 :: rl (dgt x.toInt.natAbs) (k + 1) by unfold numL; rw [if_pos (by omega), hnd]; rfl, rl_s, up_eq, rl_congr (fun j hj => (up_ne _ _ (show j ≠ k + 1 by omega)).trans (hD1 j hj))]))
        · have ha1 : a / 10 = x.toInt.natAbs / 10 ^ (k + 1) := by rw [ha, Nat.div_div_eq_div_mul, Nat.pow_succ]
          have hD1 : ∀ j, j < k + 1 → va_up D k (48 + ((a % 10 : Nat) : Int)) j = dgt x.toInt.natAbs j := fun j hj => by rw [up_at]; by_cases z : j = k; (rw [if_pos z, z]; unfold dgt; rw [← ha]); (rw [if_neg z]; exact hD j (by omega))
          have hn0 : a / 10 ≠ 0 := fun z => hb9 (Int64.toInt_inj.mp (by rw [l_div10 hlf, z]; decide))
          have hz1 : ∀ j, 1 ≤ j → j ≤ k + 1 → x.toInt.natAbs / 10 ^ j ≠ 0 := fun j j1 j2 => by by_cases z : j = k + 1; (rw [z, ← ha1]; exact hn0); exact hz j j1 (by omega)
          have hk18 : k + 1 ≤ 18 := by (by_cases z : k = 18; (exfalso; rw [z] at ha1; have r9 := l_rng x; have e9 : (10 : Nat) ^ (18 + 1) = 10000000000000000000 := (by decide); rw [e9] at ha1; omega); omega)
          refine me1 (pc' := 51) (L' := [(3, .long (lf / (Int64.ofInt 10))), (5, ii ((k : Int) + 1)), (0, .ref o), (1, .long x)]) (S' := [ii ((k : Int) + 1)]) dm_X6_putNumber_49 rfl rfl rfl rfl ?_
          refine me1 (pc' := 52) (L' := [(3, .long (lf / (Int64.ofInt 10))), (5, ii ((k : Int) + 1)), (0, .ref o), (1, .long x)]) (S' := [.ref o, ii ((k : Int) + 1)]) dm_X6_putNumber_51 rfl rfl rfl rfl ?_
          refine me3 (pc' := 55) (S' := [.ref g, ii ((k : Int) + 1)]) dm_X6_putNumber_52 (g_get (v := .ref g) (hl_ne hne.2.1 ho) rfl rfl (by omega)) rfl rfl rfl ?_
          refine me3 (pc' := 56) (S' := [ii 20, ii ((k : Int) + 1)]) dm_X6_putNumber_55 (yh_len (n := 20) rfl (hl_set (hl_lt hg_)) (by omega)) rfl rfl rfl ?_
          refine me0 (pc' := 57) (S' := [ii 1, ii 20, ii ((k : Int) + 1)]) dm_X6_putNumber_56 rfl rfl rfl rfl ?_
          refine me0 (pc' := 58) (S' := [ii 19, ii ((k : Int) + 1)]) dm_X6_putNumber_57 rfl rfl rfl rfl ?_
          refine y_2lt (a := (k : Int) + 1) (b := 19) (t := 16) (pc' := 61) dm_X6_putNumber_58 rfl rfl (by omega) (fun hb15 => ?_) (fun hb15 => ?_)
          · exact pg_sub (L := [(0, .ref o), (1, .long x), (3, .long (lf / Int64.ofInt 10)), (5, ii ((k + 1) : Int))]) rfl rfl rfl (ih16 (18 - (k + 1)) (by omega) (k + 1) (a / 10) (lf / Int64.ofInt 10) (va_up D k (48 + ((a % 10 : Nat) : Int))) rfl hk18 (l_div10 hlf) ha1 hz1 hD1)
          · exfalso; omega
    refine pg_cast (h2 := (h).set g (cB 20 dg0)) (hl_self hg_).symm ?_
    exact pg_sub (L := [(0, .ref o), (1, .long x), (3, .long x), (5, ii (0 : Int))]) rfl rfl rfl (lp16 _ 0 x.toInt.natAbs x dg0 rfl (by omega) (by first | omega | (rw [l_neg (by omega)]; omega)) (by rw [Nat.pow_zero, Nat.div_one]) (fun j h1 h2 => absurd h1 (by omega)) (fun j hj => absurd hj (Nat.not_lt_zero j)))
