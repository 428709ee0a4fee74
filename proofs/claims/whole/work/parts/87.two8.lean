/-- which of the places told last is j -/
def lastP (pl : Nat → Nat) : Nat → Nat → Option Nat
  | 0, _ => none
  | i + 1, j => if j = pl i then some i else lastP pl i j
def amJ (pl : Nat → Nat) (gv : Nat → VV) (i : Nat) : Nat → Option VV := fun j => (lastP pl i j).map gv
theorem amJ_s {pl : Nat → Nat} {gv : Nat → VV} {i j : Nat} : amJ pl gv (i + 1) j = if j = pl i then some (gv i) else amJ pl gv i j := by
  show Option.map gv (if j = pl i then some i else lastP pl i j) = _
  by_cases h : j = pl i
  · rw [if_pos h, if_pos h]; rfl
  · rw [if_neg h, if_neg h]; rfl
theorem amJ_some {pl : Nat → Nat} {gv : Nat → VV} {n j : Nat} {g : VV} (h : amJ pl gv n j = some g) : ∃ k, k < n ∧ g = gv k := by
  induction n with
  | zero => cases h
  | succ n ih =>
    rw [amJ_s] at h
    by_cases z : j = pl n
    · rw [if_pos z] at h; exact ⟨n, by omega, (Option.some.inj h).symm⟩
    · rw [if_neg z] at h
      obtain ⟨k, h1, h2⟩ := ih h
      exact ⟨k, by omega, h2⟩
def plw (w : VV) (k : Nat) : Nat := (vn w k).toInt.toNat
def gvF (w u : VV) (k : Nat) : VV := if vk w ≤ 1 ∨ vk u ≤ 1 then u else vit u k
def amL (v w u : VV) (k : Nat) : Int := (lnA (gvF w u k) (vc v) : Int)
def amS (v w u : VV) (n : Nat) : Bool := decide (2 ≤ vk v ∧ vk v ≤ 5) && allN n (fun k => decide (vk (gvF w u k) = if vk v = 3 then 1 else 0))
def amB (v w u : VV) (n : Nat) : Bool := decide (vk v = 2) && allN n (fun k => decide (cnum (gvF w u k) = 0 ∨ cnum (gvF w u k) = 1))
theorem amS_s {v w u : VV} {n : Nat} : amS v w u (n + 1) = (amS v w u n && decide (vk (gvF w u n) = if vk v = 3 then 1 else 0)) := by
  unfold amS
  show (_ && (allN n _ && _)) = _
  rw [Bool.and_assoc]
theorem amB_s {v w u : VV} {n : Nat} : amB v w u (n + 1) = (amB v w u n && decide (cnum (gvF w u n) = 0 ∨ cnum (gvF w u n) = 1)) := by
  unfold amB
  show (_ && (allN n _ && _)) = _
  rw [Bool.and_assoc]
abbrev amP (w u : VV) : Nat → Option VV := amJ (plw w) (gvF w u) (vm w)
def d_amend (v w u : VV) : Nat ⊕ VV := if askP v w ≠ 0 then .inl (askP v w) else if ¬ (vk w ≤ 1 ∨ vk u ≤ 1) ∧ vm w ≠ vm u then .inl 4 else if allP v w = false then .inl 7 else if vk v = 6 then (if errs (amL v w u) (vm w) ≠ 0 then .inl (errs (amL v w u) (vm w)).toNat else .inr (vtab (vm v) (vc v) (tbn v (amP w u)))) else if amS v w u (vm w) = true then .inr (vrow (rwK v (amP w u) (amB v w u (vm w))) (vm v) (rwn v (amP w u))) else if 24 < vm v then .inl 8 else .inr (vnest (vm v) (nsn v (amP w u)))
/-- the heap while things are put -/
def ufl (h1 hh : mj_H) (U : Nat → Option Nat) (a b : Nat) : Prop := ∃ X, hh = (h1.set 31 (cA 4 120 U)) ++ X ∧ X.length ≤ a ∧ mj_sl X ≤ b
theorem ufl_get {h1 hh : mj_H} {U : Nat → Option Nat} {a b x : Nat} {c : mj_E} (hX : ufl h1 hh U a b) (hx : x ≠ 31) (hg : h1[x]? = some c) : hh[x]? = some c := by
  obtain ⟨X, rfl, -⟩ := hX
  exact hl_app (hl_ne hx hg)
theorem ufl_31 {h1 hh : mj_H} {U : Nat → Option Nat} {a b : Nat} (hX : ufl h1 hh U a b) (hl : 31 < h1.length) : hh[31]? = some (cA 4 120 U) := by
  obtain ⟨X, rfl, -⟩ := hX
  exact hl_app (hl_set hl)
theorem ufl_len {h1 hh : mj_H} {U : Nat → Option Nat} {a b : Nat} (hX : ufl h1 hh U a b) : h1.length ≤ hh.length := by
  obtain ⟨X, rfl, -⟩ := hX
  rw [List.length_append, List.length_set]
  omega
theorem ufl_cv {A : Nat → Prop} {h1 hh : mj_H} {U : Nat → Option Nat} {a b d p : Nat} {v : VV} (hX : ufl h1 hh U a b) (hA : ¬ A 31) (hc : cv A h1 d p v) : cv (newA A h1 hh) hh d p v :=
  cv_keep (fun x c hx hg => ⟨Or.inl hx, ufl_get hX (fun z => hA (z ▸ hx)) hg⟩) hc
theorem puts_s {A : Nat → Prop} {h1 hh h3 : mj_H} {U : Nat → Option Nat} {a b a' b' e n q pl : Nat} {g : VV} {pj : Nat → Option VV} (hX : ufl h1 hh U a b) (hA : ¬ A 31) (hl : 31 < h1.length) (hU : putsOK (newA A h1 hh) hh e U n pj) (hr : vres (newA A h1 hh) hh e g a' b' (.ref q) h3) : ufl h1 (h3.set 31 (cA 4 120 (va_up U pl (some q)))) (va_up U pl (some q)) (a + a') (b + b') ∧ putsOK (newA A h1 (h3.set 31 (cA 4 120 (va_up U pl (some q))))) (h3.set 31 (cA 4 120 (va_up U pl (some q)))) e (va_up U pl (some q)) n (fun j => if j = pl then some g else pj j) := by
  have hlh := ufl_len hX
  obtain ⟨X, hX1, hX2, hX3⟩ := hX
  obtain ⟨q', X', hq, rfl, h5, h6, h7⟩ := hr
  cases hq
  have hn31 : ∀ x, newA A h1 hh x → x ≠ 31 := by
    rintro x (hx | hx) rfl
    · exact hA hx
    · omega
  refine ⟨⟨X ++ X', ?_, by rw [List.length_append]; omega, by rw [sl_app]; omega⟩, fun j hj => ?_⟩
  · rw [hX1, List.append_assoc, List.set_append_left _ _ (by rw [List.length_set]; exact hl), List.set_set]
  · by_cases z : j = pl
    · refine Or.inr ⟨g, q, if_pos z, by rw [z]; exact up_eq _ _ _, cv_keep (fun x c hx hg => ⟨?_, hl_ne ?_ hg⟩) h7⟩
      · rcases hx with (hx | hx) | hx
        · exact Or.inl hx
        · refine Or.inr ⟨hx.1, ?_⟩
          rw [List.length_set, List.length_append]
          omega
        · refine Or.inr ⟨by omega, ?_⟩
          rw [List.length_set]
          exact hx.2
      · rcases hx with hx | hx
        · exact hn31 x hx
        · omega
    · rcases hU j hj with ⟨z1, z2⟩ | ⟨g1, q1, z1, z2, z3⟩
      · exact Or.inl ⟨(if_neg z).trans z1, by rw [up_ne _ _ z]; exact z2⟩
      · refine Or.inr ⟨g1, q1, (if_neg z).trans z1, by rw [up_ne _ _ z]; exact z2, cv_keep (fun x c hx hg => ⟨?_, hl_ne (hn31 x hx) (hl_app hg)⟩) z3⟩
        rcases hx with hx | hx
        · exact Or.inl hx
        · refine Or.inr ⟨hx.1, ?_⟩
          rw [List.length_set, List.length_append]
          omega
theorem puts_congr {A : Nat → Prop} {h : mj_H} {e n : Nat} {U : Nat → Option Nat} {pj pj' : Nat → Option VV} (hp : putsOK A h e U n pj) (he : ∀ j, j < n → pj j = pj' j) : putsOK A h e U n pj' := by
  intro j hj
  rw [← he j hj]
  exact hp j hj
/-- one making behind another -/
theorem ares_tr {A : Nat → Prop} {h1 hh h4 : mj_H} {U : Nat → Option Nat} {e a b a' b' a2 b2 : Nat} {o : Nat ⊕ VV} {r : Value} (hX : ufl h1 hh U a b) (hr : ares (newA A h1 hh) hh e o a' b' r h4) (ha : a + a' ≤ a2) (hb : b + b' ≤ b2) : ares A (h1.set 31 (cA 4 120 U)) e o a2 b2 r h4 := by
  have hlh := ufl_len hX
  obtain ⟨X, hX1, hX2, hX3⟩ := hX
  cases o with
  | inl n =>
    obtain ⟨q, Y, g1, rfl, g2, g3, g4, g5⟩ := hr
    exact ⟨q, X ++ Y, g1, by rw [hX1, List.append_assoc], by rw [List.length_append]; omega, by rw [sl_app]; omega, g4, g5⟩
  | inr w =>
    obtain ⟨q, Y, g1, rfl, g2, g3, g4⟩ := hr
    refine ⟨q, X ++ Y, g1, by rw [hX1, List.append_assoc], by rw [List.length_append]; omega, by rw [sl_app]; omega, cv_mono (fun x hx => ?_) g4⟩
    rcases hx with (hx | hx) | hx
    · exact Or.inl hx
    · refine Or.inr ⟨by rw [List.length_set]; exact hx.1, ?_⟩
      rw [List.length_append]
      omega
    · exact Or.inr ⟨by rw [List.length_set]; omega, hx.2⟩
theorem zz_t {b : Bool} (h : b = true) : ii 1 = zz b := by rw [h]; rfl
theorem zz_f {b : Bool} (h : b = false) : ii 0 = zz b := by rw [h]; rfl
theorem ares_inl_tr {A B : Nat → Prop} {hh h3 h4 : mj_H} {e e2 a b a' b' n : Nat} {g : VV} {r r' : Value} (hv : vres A hh e g a' b' r h3) (hr : ares B h3 e2 (.inl n) a b r' h4) : ares A hh e2 (.inl n) (a' + a) (b' + b) r' h4 := by
  obtain ⟨q, X, -, rfl, h1, h2, -⟩ := hv
  obtain ⟨q', Y, g1, rfl, g2, g3, g4, g5⟩ := hr
  exact ⟨q', X ++ Y, g1, List.append_assoc _ _ _, by rw [List.length_append]; omega, by rw [sl_app]; omega, g4, g5⟩
theorem gvF_1 {w u : VV} {k : Nat} (h : vk w ≤ 1 ∨ vk u ≤ 1) : gvF w u k = u := if_pos h
theorem gvF_2 {w u : VV} {k : Nat} (h : ¬ (vk w ≤ 1 ∨ vk u ≤ 1)) : gvF w u k = vit u k := if_neg h
theorem vres_len {A : Nat → Prop} {h h' : mj_H} {e a b : Nat} {w : VV} {r : Value} (hr : vres A h e w a b r h') : h.length ≤ h'.length := by
  obtain ⟨q, X, -, rfl, -⟩ := hr
  rw [List.length_append]
  omega
set_option maxRecDepth 20000 in
theorem pm_X9_amended : mj_mmof pg_ms 170 = some ((⟨"ArrayCalculator$TwoAct", "amended", "(LArrayCalculator$Value;LArrayCalculator$Value;LArrayCalculator$Value;)LArrayCalculator$Value;"⟩, prog_11_method_16_code, 11, (Option.some (Jvm.ClassFile.FieldType.object "ArrayCalculator$Value"))), 9, false, mj_dec prog_11_method_16_code) := rfl
theorem dm_X9_amended_0 : mj_dec prog_11_method_16_code 0 = some (.aload_n 1, 1) := by decide +kernel
theorem dm_X9_amended_1 : mj_dec prog_11_method_16_code 1 = some (.aload_n 2, 1) := by decide +kernel
theorem dm_X9_amended_2 : mj_dec prog_11_method_16_code 2 = some (.invokestatic 188, 3) := by decide +kernel
theorem dm_X9_amended_5 : mj_dec prog_11_method_16_code 5 = some (.istore 4, 2) := by decide +kernel
theorem dm_X9_amended_7 : mj_dec prog_11_method_16_code 7 = some (.iload 4, 2) := by decide +kernel
theorem dm_X9_amended_9 : mj_dec prog_11_method_16_code 9 = some (.ifCond .eq 9, 3) := by decide +kernel
theorem dm_X9_amended_12 : mj_dec prog_11_method_16_code 12 = some (.iload 4, 2) := by decide +kernel
theorem dm_X9_amended_14 : mj_dec prog_11_method_16_code 14 = some (.invokestatic 81, 3) := by decide +kernel
theorem dm_X9_amended_17 : mj_dec prog_11_method_16_code 17 = some (.areturn, 1) := by decide +kernel
theorem dm_X9_amended_18 : mj_dec prog_11_method_16_code 18 = some (.aload_n 2, 1) := by decide +kernel
theorem dm_X9_amended_19 : mj_dec prog_11_method_16_code 19 = some (.invokevirtual 140, 3) := by decide +kernel
theorem dm_X9_amended_22 : mj_dec prog_11_method_16_code 22 = some (.ifCond .ne 10, 3) := by decide +kernel
theorem dm_X9_amended_25 : mj_dec prog_11_method_16_code 25 = some (.aload_n 3, 1) := by decide +kernel
theorem dm_X9_amended_26 : mj_dec prog_11_method_16_code 26 = some (.invokevirtual 140, 3) := by decide +kernel
theorem dm_X9_amended_29 : mj_dec prog_11_method_16_code 29 = some (.ifCond .eq 7, 3) := by decide +kernel
theorem dm_X9_amended_32 : mj_dec prog_11_method_16_code 32 = some (.iconst 1, 1) := by decide +kernel
theorem dm_X9_amended_33 : mj_dec prog_11_method_16_code 33 = some (.goto 4, 3) := by decide +kernel
theorem dm_X9_amended_36 : mj_dec prog_11_method_16_code 36 = some (.iconst 0, 1) := by decide +kernel
theorem dm_X9_amended_37 : mj_dec prog_11_method_16_code 37 = some (.istore 5, 2) := by decide +kernel
theorem dm_X9_amended_39 : mj_dec prog_11_method_16_code 39 = some (.iload 5, 2) := by decide +kernel
theorem dm_X9_amended_41 : mj_dec prog_11_method_16_code 41 = some (.ifCond .ne 19, 3) := by decide +kernel
theorem dm_X9_amended_44 : mj_dec prog_11_method_16_code 44 = some (.aload_n 2, 1) := by decide +kernel
theorem dm_X9_amended_45 : mj_dec prog_11_method_16_code 45 = some (.getfield 94, 3) := by decide +kernel
theorem dm_X9_amended_48 : mj_dec prog_11_method_16_code 48 = some (.aload_n 3, 1) := by decide +kernel
theorem dm_X9_amended_49 : mj_dec prog_11_method_16_code 49 = some (.getfield 94, 3) := by decide +kernel
theorem dm_X9_amended_52 : mj_dec prog_11_method_16_code 52 = some (.if_icmp .eq 8, 3) := by decide +kernel
theorem dm_X9_amended_55 : mj_dec prog_11_method_16_code 55 = some (.iconst 4, 1) := by decide +kernel
theorem dm_X9_amended_56 : mj_dec prog_11_method_16_code 56 = some (.invokestatic 81, 3) := by decide +kernel
theorem dm_X9_amended_59 : mj_dec prog_11_method_16_code 59 = some (.areturn, 1) := by decide +kernel
theorem dm_X9_amended_60 : mj_dec prog_11_method_16_code 60 = some (.aload_n 0, 1) := by decide +kernel
theorem dm_X9_amended_61 : mj_dec prog_11_method_16_code 61 = some (.aload_n 1, 1) := by decide +kernel
theorem dm_X9_amended_62 : mj_dec prog_11_method_16_code 62 = some (.aload_n 2, 1) := by decide +kernel
theorem dm_X9_amended_63 : mj_dec prog_11_method_16_code 63 = some (.invokevirtual 192, 3) := by decide +kernel
theorem dm_X9_amended_66 : mj_dec prog_11_method_16_code 66 = some (.ifCond .ne 9, 3) := by decide +kernel
theorem dm_X9_amended_69 : mj_dec prog_11_method_16_code 69 = some (.bipush 7, 2) := by decide +kernel
theorem dm_X9_amended_71 : mj_dec prog_11_method_16_code 71 = some (.invokestatic 81, 3) := by decide +kernel
theorem dm_X9_amended_74 : mj_dec prog_11_method_16_code 74 = some (.areturn, 1) := by decide +kernel
theorem dm_X9_amended_75 : mj_dec prog_11_method_16_code 75 = some (.iconst 0, 1) := by decide +kernel
theorem dm_X9_amended_76 : mj_dec prog_11_method_16_code 76 = some (.istore 6, 2) := by decide +kernel
theorem dm_X9_amended_78 : mj_dec prog_11_method_16_code 78 = some (.iload 6, 2) := by decide +kernel
theorem dm_X9_amended_80 : mj_dec prog_11_method_16_code 80 = some (.aload_n 1, 1) := by decide +kernel
theorem dm_X9_amended_81 : mj_dec prog_11_method_16_code 81 = some (.getfield 94, 3) := by decide +kernel
theorem dm_X9_amended_84 : mj_dec prog_11_method_16_code 84 = some (.if_icmp .ge 17, 3) := by decide +kernel
theorem dm_X9_amended_87 : mj_dec prog_11_method_16_code 87 = some (.aload_n 0, 1) := by decide +kernel
theorem dm_X9_amended_88 : mj_dec prog_11_method_16_code 88 = some (.getfield 28, 3) := by decide +kernel
theorem dm_X9_amended_91 : mj_dec prog_11_method_16_code 91 = some (.iload 6, 2) := by decide +kernel
theorem dm_X9_amended_93 : mj_dec prog_11_method_16_code 93 = some (.aconst_null, 1) := by decide +kernel
theorem dm_X9_amended_94 : mj_dec prog_11_method_16_code 94 = some (.aastore, 1) := by decide +kernel
theorem dm_X9_amended_95 : mj_dec prog_11_method_16_code 95 = some (.iinc 6 1, 3) := by decide +kernel
theorem dm_X9_amended_98 : mj_dec prog_11_method_16_code 98 = some (.goto (-20), 3) := by decide +kernel
theorem dm_X9_amended_101 : mj_dec prog_11_method_16_code 101 = some (.aload_n 1, 1) := by decide +kernel
theorem dm_X9_amended_102 : mj_dec prog_11_method_16_code 102 = some (.invokevirtual 133, 3) := by decide +kernel
theorem dm_X9_amended_105 : mj_dec prog_11_method_16_code 105 = some (.istore 6, 2) := by decide +kernel
theorem dm_X9_amended_107 : mj_dec prog_11_method_16_code 107 = some (.aload_n 1, 1) := by decide +kernel
theorem dm_X9_amended_108 : mj_dec prog_11_method_16_code 108 = some (.getfield 102, 3) := by decide +kernel
theorem dm_X9_amended_111 : mj_dec prog_11_method_16_code 111 = some (.iconst 2, 1) := by decide +kernel
theorem dm_X9_amended_112 : mj_dec prog_11_method_16_code 112 = some (.if_icmp .ne 7, 3) := by decide +kernel
theorem dm_X9_amended_115 : mj_dec prog_11_method_16_code 115 = some (.iconst 1, 1) := by decide +kernel
theorem dm_X9_amended_116 : mj_dec prog_11_method_16_code 116 = some (.goto 4, 3) := by decide +kernel
theorem dm_X9_amended_119 : mj_dec prog_11_method_16_code 119 = some (.iconst 0, 1) := by decide +kernel
theorem dm_X9_amended_120 : mj_dec prog_11_method_16_code 120 = some (.istore 7, 2) := by decide +kernel
theorem dm_X9_amended_122 : mj_dec prog_11_method_16_code 122 = some (.iconst 0, 1) := by decide +kernel
theorem dm_X9_amended_123 : mj_dec prog_11_method_16_code 123 = some (.istore 8, 2) := by decide +kernel
theorem dm_X9_amended_125 : mj_dec prog_11_method_16_code 125 = some (.iload 8, 2) := by decide +kernel
theorem dm_X9_amended_127 : mj_dec prog_11_method_16_code 127 = some (.aload_n 2, 1) := by decide +kernel
theorem dm_X9_amended_128 : mj_dec prog_11_method_16_code 128 = some (.getfield 94, 3) := by decide +kernel
theorem dm_X9_amended_131 : mj_dec prog_11_method_16_code 131 = some (.if_icmp .ge 140, 3) := by decide +kernel
theorem dm_X9_amended_134 : mj_dec prog_11_method_16_code 134 = some (.iload 5, 2) := by decide +kernel
theorem dm_X9_amended_136 : mj_dec prog_11_method_16_code 136 = some (.ifCond .eq 7, 3) := by decide +kernel
theorem dm_X9_amended_139 : mj_dec prog_11_method_16_code 139 = some (.aload_n 3, 1) := by decide +kernel
theorem dm_X9_amended_140 : mj_dec prog_11_method_16_code 140 = some (.goto 9, 3) := by decide +kernel
theorem dm_X9_amended_143 : mj_dec prog_11_method_16_code 143 = some (.aload_n 3, 1) := by decide +kernel
theorem dm_X9_amended_144 : mj_dec prog_11_method_16_code 144 = some (.iload 8, 2) := by decide +kernel
theorem dm_X9_amended_146 : mj_dec prog_11_method_16_code 146 = some (.invokevirtual 120, 3) := by decide +kernel
theorem dm_X9_amended_149 : mj_dec prog_11_method_16_code 149 = some (.astore 9, 2) := by decide +kernel
theorem dm_X9_amended_151 : mj_dec prog_11_method_16_code 151 = some (.aload_n 1, 1) := by decide +kernel
theorem dm_X9_amended_152 : mj_dec prog_11_method_16_code 152 = some (.getfield 102, 3) := by decide +kernel
theorem dm_X9_amended_155 : mj_dec prog_11_method_16_code 155 = some (.bipush 6, 2) := by decide +kernel
theorem dm_X9_amended_157 : mj_dec prog_11_method_16_code 157 = some (.if_icmp .ne 15, 3) := by decide +kernel
theorem dm_X9_amended_160 : mj_dec prog_11_method_16_code 160 = some (.aload 9, 2) := by decide +kernel
theorem dm_X9_amended_162 : mj_dec prog_11_method_16_code 162 = some (.aload_n 1, 1) := by decide +kernel
theorem dm_X9_amended_163 : mj_dec prog_11_method_16_code 163 = some (.getfield 113, 3) := by decide +kernel
theorem dm_X9_amended_166 : mj_dec prog_11_method_16_code 166 = some (.invokestatic 216, 3) := by decide +kernel
theorem dm_X9_amended_169 : mj_dec prog_11_method_16_code 169 = some (.goto 4, 3) := by decide +kernel
theorem dm_X9_amended_172 : mj_dec prog_11_method_16_code 172 = some (.iconst 0, 1) := by decide +kernel
theorem dm_X9_amended_173 : mj_dec prog_11_method_16_code 173 = some (.istore 10, 2) := by decide +kernel
theorem dm_X9_amended_175 : mj_dec prog_11_method_16_code 175 = some (.iload 10, 2) := by decide +kernel
theorem dm_X9_amended_177 : mj_dec prog_11_method_16_code 177 = some (.ifCond .eq 9, 3) := by decide +kernel
theorem dm_X9_amended_180 : mj_dec prog_11_method_16_code 180 = some (.iload 10, 2) := by decide +kernel
theorem dm_X9_amended_182 : mj_dec prog_11_method_16_code 182 = some (.invokestatic 81, 3) := by decide +kernel
theorem dm_X9_amended_185 : mj_dec prog_11_method_16_code 185 = some (.areturn, 1) := by decide +kernel
theorem dm_X9_amended_186 : mj_dec prog_11_method_16_code 186 = some (.aload_n 0, 1) := by decide +kernel
theorem dm_X9_amended_187 : mj_dec prog_11_method_16_code 187 = some (.getfield 28, 3) := by decide +kernel
theorem dm_X9_amended_190 : mj_dec prog_11_method_16_code 190 = some (.aload_n 0, 1) := by decide +kernel
theorem dm_X9_amended_191 : mj_dec prog_11_method_16_code 191 = some (.getfield 18, 3) := by decide +kernel
theorem dm_X9_amended_194 : mj_dec prog_11_method_16_code 194 = some (.iload 8, 2) := by decide +kernel
theorem dm_X9_amended_196 : mj_dec prog_11_method_16_code 196 = some (.iaload, 1) := by decide +kernel
theorem dm_X9_amended_197 : mj_dec prog_11_method_16_code 197 = some (.aload 9, 2) := by decide +kernel
theorem dm_X9_amended_199 : mj_dec prog_11_method_16_code 199 = some (.aastore, 1) := by decide +kernel
theorem dm_X9_amended_200 : mj_dec prog_11_method_16_code 200 = some (.iload 6, 2) := by decide +kernel
theorem dm_X9_amended_202 : mj_dec prog_11_method_16_code 202 = some (.ifCond .eq 28, 3) := by decide +kernel
theorem dm_X9_amended_205 : mj_dec prog_11_method_16_code 205 = some (.aload 9, 2) := by decide +kernel
theorem dm_X9_amended_207 : mj_dec prog_11_method_16_code 207 = some (.getfield 102, 3) := by decide +kernel
theorem dm_X9_amended_210 : mj_dec prog_11_method_16_code 210 = some (.aload_n 1, 1) := by decide +kernel
theorem dm_X9_amended_211 : mj_dec prog_11_method_16_code 211 = some (.getfield 102, 3) := by decide +kernel
theorem dm_X9_amended_214 : mj_dec prog_11_method_16_code 214 = some (.iconst 3, 1) := by decide +kernel
theorem dm_X9_amended_215 : mj_dec prog_11_method_16_code 215 = some (.if_icmp .ne 7, 3) := by decide +kernel
theorem dm_X9_amended_218 : mj_dec prog_11_method_16_code 218 = some (.iconst 1, 1) := by decide +kernel
theorem dm_X9_amended_219 : mj_dec prog_11_method_16_code 219 = some (.goto 4, 3) := by decide +kernel
theorem dm_X9_amended_222 : mj_dec prog_11_method_16_code 222 = some (.iconst 0, 1) := by decide +kernel
theorem dm_X9_amended_223 : mj_dec prog_11_method_16_code 223 = some (.if_icmp .ne 7, 3) := by decide +kernel
theorem dm_X9_amended_226 : mj_dec prog_11_method_16_code 226 = some (.iconst 1, 1) := by decide +kernel
theorem dm_X9_amended_227 : mj_dec prog_11_method_16_code 227 = some (.goto 4, 3) := by decide +kernel
theorem dm_X9_amended_230 : mj_dec prog_11_method_16_code 230 = some (.iconst 0, 1) := by decide +kernel
theorem dm_X9_amended_231 : mj_dec prog_11_method_16_code 231 = some (.istore 6, 2) := by decide +kernel
theorem dm_X9_amended_233 : mj_dec prog_11_method_16_code 233 = some (.iload 7, 2) := by decide +kernel
theorem dm_X9_amended_235 : mj_dec prog_11_method_16_code 235 = some (.ifCond .eq 27, 3) := by decide +kernel
theorem dm_X9_amended_238 : mj_dec prog_11_method_16_code 238 = some (.aload 9, 2) := by decide +kernel
theorem dm_X9_amended_240 : mj_dec prog_11_method_16_code 240 = some (.getfield 143, 3) := by decide +kernel
theorem dm_X9_amended_243 : mj_dec prog_11_method_16_code 243 = some (.lconst 0, 1) := by decide +kernel
theorem dm_X9_amended_244 : mj_dec prog_11_method_16_code 244 = some (.lcmp, 1) := by decide +kernel
theorem dm_X9_amended_245 : mj_dec prog_11_method_16_code 245 = some (.ifCond .eq 13, 3) := by decide +kernel
theorem dm_X9_amended_248 : mj_dec prog_11_method_16_code 248 = some (.aload 9, 2) := by decide +kernel
theorem dm_X9_amended_250 : mj_dec prog_11_method_16_code 250 = some (.getfield 143, 3) := by decide +kernel
theorem dm_X9_amended_253 : mj_dec prog_11_method_16_code 253 = some (.lconst 1, 1) := by decide +kernel
theorem dm_X9_amended_254 : mj_dec prog_11_method_16_code 254 = some (.lcmp, 1) := by decide +kernel
theorem dm_X9_amended_255 : mj_dec prog_11_method_16_code 255 = some (.ifCond .ne 7, 3) := by decide +kernel
theorem dm_X9_amended_258 : mj_dec prog_11_method_16_code 258 = some (.iconst 1, 1) := by decide +kernel
theorem dm_X9_amended_259 : mj_dec prog_11_method_16_code 259 = some (.goto 4, 3) := by decide +kernel
theorem dm_X9_amended_262 : mj_dec prog_11_method_16_code 262 = some (.iconst 0, 1) := by decide +kernel
theorem dm_X9_amended_263 : mj_dec prog_11_method_16_code 263 = some (.istore 7, 2) := by decide +kernel
theorem dm_X9_amended_265 : mj_dec prog_11_method_16_code 265 = some (.iinc 8 1, 3) := by decide +kernel
theorem dm_X9_amended_268 : mj_dec prog_11_method_16_code 268 = some (.goto (-143), 3) := by decide +kernel
theorem dm_X9_amended_271 : mj_dec prog_11_method_16_code 271 = some (.aload_n 1, 1) := by decide +kernel
theorem dm_X9_amended_272 : mj_dec prog_11_method_16_code 272 = some (.getfield 102, 3) := by decide +kernel
theorem dm_X9_amended_275 : mj_dec prog_11_method_16_code 275 = some (.bipush 6, 2) := by decide +kernel
theorem dm_X9_amended_277 : mj_dec prog_11_method_16_code 277 = some (.if_icmp .ne 9, 3) := by decide +kernel
theorem dm_X9_amended_280 : mj_dec prog_11_method_16_code 280 = some (.aload_n 0, 1) := by decide +kernel
theorem dm_X9_amended_281 : mj_dec prog_11_method_16_code 281 = some (.aload_n 1, 1) := by decide +kernel
theorem dm_X9_amended_282 : mj_dec prog_11_method_16_code 282 = some (.invokevirtual 220, 3) := by decide +kernel
theorem dm_X9_amended_285 : mj_dec prog_11_method_16_code 285 = some (.areturn, 1) := by decide +kernel
theorem dm_X9_amended_286 : mj_dec prog_11_method_16_code 286 = some (.iload 6, 2) := by decide +kernel
theorem dm_X9_amended_288 : mj_dec prog_11_method_16_code 288 = some (.ifCond .eq 13, 3) := by decide +kernel
theorem dm_X9_amended_291 : mj_dec prog_11_method_16_code 291 = some (.aload_n 0, 1) := by decide +kernel
theorem dm_X9_amended_292 : mj_dec prog_11_method_16_code 292 = some (.aload_n 1, 1) := by decide +kernel
theorem dm_X9_amended_293 : mj_dec prog_11_method_16_code 293 = some (.iload 7, 2) := by decide +kernel
theorem dm_X9_amended_295 : mj_dec prog_11_method_16_code 295 = some (.invokevirtual 224, 3) := by decide +kernel
theorem dm_X9_amended_298 : mj_dec prog_11_method_16_code 298 = some (.goto 8, 3) := by decide +kernel
theorem dm_X9_amended_301 : mj_dec prog_11_method_16_code 301 = some (.aload_n 0, 1) := by decide +kernel
theorem dm_X9_amended_302 : mj_dec prog_11_method_16_code 302 = some (.aload_n 1, 1) := by decide +kernel
theorem dm_X9_amended_303 : mj_dec prog_11_method_16_code 303 = some (.invokevirtual 228, 3) := by decide +kernel
theorem dm_X9_amended_306 : mj_dec prog_11_method_16_code 306 = some (.areturn, 1) := by decide +kernel
theorem t_amended {xt : mj_X} {d e p q r : Nat} {A : Nat → Prop} {h : mj_H} {v w u : VV} {f1 : Nat → Value} (hx1 : xt 1 = some (.long, 0, f1)) (hd : 12 ≤ d) (hl : 127 ≤ h.length) (hA : okA A h) (hH : actH h) (hv : cv A h (e + 1) p v) (hw : cv A h (e + 1) q w) (hu : cv A h (e + 1) r u) (he : e ≤ 19) (hset : vsz (e + 1) v ≤ 1000) (hset2 : vsz (e + 1) w ≤ 1000) (hset3 : vsz (e + 1) u ≤ 1000) : pgV xt d 170 [.ref 26, .ref p, .ref q, .ref r] h (aact A h (e + 2) (d_amend v w u) (vm w + vm v + 2) (9 * vm w + 10 * vm v + vq v + 9)) := by
  obtain ⟨-, -, -, -, -, -, -, -, ⟨ft0, h26⟩, -, -, ⟨pf0, h29⟩, ⟨nf0, h30⟩, ⟨uf0, h31⟩⟩ := id hH
  have hcv := vw1_c hv.1
  have hcw := vw1_c hw.1
  obtain ⟨row, fr, vals, hp, hp2, hpA, hvk, hvm, hvc, hvs, hvl⟩ := cv_val hv
  obtain ⟨row2, fr2, vals2, hq, hq2, hqA, hwk, hwm, hwc, hws, hwl⟩ := cv_val hw
  have hpb := hA p hpA
  have hqb := hA q hqA
  obtain ⟨row3, fr3, vals3, hr, hr2, hrA, huk, hum, huc, hus_, hul⟩ := cv_val hu
  have hrb := hA r hrA
  have hvq9 := vq_le hv.1
  have he1 : e ≤ 20 := by omega
  have e0 : Int64.ofInt 0 = 0 := by decide
  have e1 : Int64.ofInt 1 = 1 := by decide
  have haskr : askP v w ≤ 5 := by unfold askP; split; omega; split <;> omega
  refine x_enter pm_X9_amended (L0 := [(0, .ref 26), (1, .ref p), (2, .ref q), (3, .ref r)]) rfl (Nat.le_of_ble_eq_true rfl) (by omega) ?_
  have cut60 : (askP v w = 0) → ((vk w ≤ 1 ∨ vk u ≤ 1) ∨ vm w = vm u) → pgE xt (d - 1) 9 11 false (Option.some (Jvm.ClassFile.FieldType.object "ArrayCalculator$Value")) (mj_dec prog_11_method_16_code) 60 [(0, .ref 26), (1, .ref p), (2, .ref q), (3, .ref r), (5, zz (decide (vk w ≤ 1 ∨ vk u ≤ 1)))] [] h (fun r h' => ∃ x, r = some x ∧ aact A h (e + 2) (d_amend v w u) (vm w + vm v + 2) (9 * vm w + 10 * vm v + vq v + 9) x h') := by
    intro hask hwm
    refine me1 (pc' := 61) (L' := [(0, .ref 26), (1, .ref p), (2, .ref q), (3, .ref r), (5, zz (decide (vk w ≤ 1 ∨ vk u ≤ 1)))]) (S' := [.ref 26]) dm_X9_amended_60 rfl rfl rfl rfl ?_
    refine me1 (pc' := 62) (L' := [(0, .ref 26), (1, .ref p), (2, .ref q), (3, .ref r), (5, zz (decide (vk w ≤ 1 ∨ vk u ≤ 1)))]) (S' := [.ref p, .ref 26]) dm_X9_amended_61 rfl rfl rfl rfl ?_
    refine me1 (pc' := 63) (L' := [(0, .ref 26), (1, .ref p), (2, .ref q), (3, .ref r), (5, zz (decide (vk w ≤ 1 ∨ vk u ≤ 1)))]) (S' := [.ref q, .ref p, .ref 26]) dm_X9_amended_62 rfl rfl rfl rfl ?_
    refine x_cv (pc' := 66) (rest := []) dm_X9_amended_63 rfl (g_inv (As := [.ref p, .ref q]) (S := []) h26 rfl rfl rfl (by decide)) rfl rfl rfl (t_placesThere hx1 (by omega) hl hA hH hv hw he1 hset hset2 (by unfold askP at hask; by_cases z : vk v ≤ 1 ∨ 6 ≤ vk w; (rw [if_pos z] at hask; omega); omega)) ?_
    rintro _ _ ⟨P, rfl, rfl, hP⟩
    have hs1 : scrS h (h.set 29 (cI 144 P)) := scrS_set (by unfold scr; decide) h29 rfl
    have hA1 := okA_scr hA hs1
    refine y_zne (c := allP v w) (t := 75) (pc' := 69) dm_X9_amended_66 rfl rfl (fun hb1 => ?_) (fun hb1 => ?_)
    · have hPl : ∀ k, k < vm w → P k = ((plw w k : Nat) : Int) ∧ plw w k < vm v := fun k hk => by have y1 := hP hb1 k hk; have y2 := of_decide_eq_true (allN_iff.mp hb1 k hk); unfold plw; omega
      refine me0 (pc' := 76) (S' := [ii 0]) dm_X9_amended_75 rfl rfl rfl rfl ?_
      refine me1 (pc' := 78) (L' := [(6, ii 0), (0, .ref 26), (1, .ref p), (2, .ref q), (3, .ref r), (5, zz (decide (vk w ≤ 1 ∨ vk u ≤ 1)))]) (S' := []) dm_X9_amended_76 rfl rfl rfl rfl ?_
      have lp78 : ∀ (n78 : Nat) (k : Nat) (U : Nat → Option Nat), vm v - k = n78 → (k ≤ vm v) → (∀ j, j < k → U j = none) → pgE xt (d - 1) 9 11 false (Option.some (Jvm.ClassFile.FieldType.object "ArrayCalculator$Value")) (mj_dec prog_11_method_16_code) 78 [(0, .ref 26), (1, .ref p), (2, .ref q), (3, .ref r), (5, zz (decide (vk w ≤ 1 ∨ vk u ≤ 1))), (6, ii ((k : Nat) : Int))] [] (((h).set 29 (cI 144 P)).set 31 (cA 4 120 U)) (fun r h' => ∃ x, r = some x ∧ aact A h (e + 2) (d_amend v w u) (vm w + vm v + 2) (9 * vm w + 10 * vm v + vq v + 9) x h') := by
        intro n78
        induction n78 using Nat.strongRecOn with
        | ind n78 ih78 =>
          intro k U hm78 hk hU0
          refine me1 (pc' := 80) (L' := [(0, .ref 26), (1, .ref p), (2, .ref q), (3, .ref r), (5, zz (decide (vk w ≤ 1 ∨ vk u ≤ 1))), (6, ii ((k : Nat) : Int))]) (S' := [ii ((k : Nat) : Int)]) dm_X9_amended_78 rfl rfl rfl rfl ?_
          refine me1 (pc' := 81) (L' := [(0, .ref 26), (1, .ref p), (2, .ref q), (3, .ref r), (5, zz (decide (vk w ≤ 1 ∨ vk u ≤ 1))), (6, ii ((k : Nat) : Int))]) (S' := [.ref p, ii ((k : Nat) : Int)]) dm_X9_amended_80 rfl rfl rfl rfl ?_
          refine me3 (pc' := 84) (S' := [ii (vm v : Int), ii ((k : Nat) : Int)]) dm_X9_amended_81 (g_get (v := ii (vm v : Int)) (hl_ne (by omega) (hl_ne (by omega) hp)) rfl rfl (by omega)) rfl rfl rfl ?_
          refine y_2ge (a := ((k : Nat) : Int)) (b := (vm v : Int)) (t := 101) (pc' := 87) dm_X9_amended_84 rfl rfl (by omega) (fun hb2 => ?_) (fun hb2 => ?_)
          · refine me1 (pc' := 102) (L' := [(0, .ref 26), (1, .ref p), (2, .ref q), (3, .ref r), (5, zz (decide (vk w ≤ 1 ∨ vk u ≤ 1))), (6, ii ((k : Nat) : Int))]) (S' := [.ref p]) dm_X9_amended_101 rfl rfl rfl rfl ?_
            refine x_cp (pc' := 105) (v := zz (decide (2 ≤ vk v ∧ vk v ≤ 5))) (rest := []) dm_X9_amended_102 rfl (g_inv (As := []) (S := []) (hl_ne (by omega) (hl_ne (by omega) hp)) rfl rfl rfl (by omega)) rfl rfl rfl (c_isRow (by omega) (cv_set (nA hA (Or.inl (by decide))) (cv_set (nA hA (Or.inl (by decide))) hv))) ?_
            refine me1 (pc' := 107) (L' := [(6, zz (decide (2 ≤ vk v ∧ vk v ≤ 5))), (0, .ref 26), (1, .ref p), (2, .ref q), (3, .ref r), (5, zz (decide (vk w ≤ 1 ∨ vk u ≤ 1)))]) (S' := []) dm_X9_amended_105 rfl rfl rfl rfl ?_
            refine me1 (pc' := 108) (L' := [(6, zz (decide (2 ≤ vk v ∧ vk v ≤ 5))), (0, .ref 26), (1, .ref p), (2, .ref q), (3, .ref r), (5, zz (decide (vk w ≤ 1 ∨ vk u ≤ 1)))]) (S' := [.ref p]) dm_X9_amended_107 rfl rfl rfl rfl ?_
            refine me3 (pc' := 111) (S' := [ii (vk v : Int)]) dm_X9_amended_108 (g_get (v := ii (vk v : Int)) (hl_ne (by omega) (hl_ne (by omega) hp)) rfl rfl (by omega)) rfl rfl rfl ?_
            refine me0 (pc' := 112) (S' := [ii 2, ii (vk v : Int)]) dm_X9_amended_111 rfl rfl rfl rfl ?_
            refine y_2ne (a := (vk v : Int)) (b := 2) (t := 119) (pc' := 115) dm_X9_amended_112 rfl rfl (by omega) (fun hb3 => ?_) (fun hb3 => ?_)
            · refine me0 (pc' := 120) (S' := [ii 0]) dm_X9_amended_119 rfl rfl rfl rfl ?_
              refine pg_st0 (S' := [zz (decide (vk v = 2))]) (congrArg (fun z => z :: []) (zf (by omega))) ?_
              refine me1 (pc' := 122) (L' := [(7, zz (decide (vk v = 2))), (6, zz (decide (2 ≤ vk v ∧ vk v ≤ 5))), (0, .ref 26), (1, .ref p), (2, .ref q), (3, .ref r), (5, zz (decide (vk w ≤ 1 ∨ vk u ≤ 1)))]) (S' := []) dm_X9_amended_120 rfl rfl rfl rfl ?_
              refine me0 (pc' := 123) (S' := [ii 0]) dm_X9_amended_122 rfl rfl rfl rfl ?_
              refine me1 (pc' := 125) (L' := [(8, ii 0), (7, zz (decide (vk v = 2))), (6, zz (decide (2 ≤ vk v ∧ vk v ≤ 5))), (0, .ref 26), (1, .ref p), (2, .ref q), (3, .ref r), (5, zz (decide (vk w ≤ 1 ∨ vk u ≤ 1)))]) (S' := []) dm_X9_amended_123 rfl rfl rfl rfl ?_
              have lp125 : ∀ (n125 : Nat) (i : Nat) (hh : mj_H) (U2 : Nat → Option Nat) (s6 : Bool) (b7 : Bool), vm w - i = n125 → (i ≤ vm w) → (ufl (h.set 29 (cI 144 P)) hh U2 i (9 * i)) → (putsOK (newA A (h.set 29 (cI 144 P)) hh) hh (e + 1) U2 (vm v) (amJ (plw w) (gvF w u) i)) → (s6 = amS v w u i) → (b7 = amB v w u i) → (vk v = 6 → errs (amL v w u) i = 0) → pgE xt (d - 1) 9 11 false (Option.some (Jvm.ClassFile.FieldType.object "ArrayCalculator$Value")) (mj_dec prog_11_method_16_code) 125 [(0, .ref 26), (1, .ref p), (2, .ref q), (3, .ref r), (5, zz (decide (vk w ≤ 1 ∨ vk u ≤ 1))), (6, zz s6), (7, zz b7), (8, ii ((i : Nat) : Int))] [] hh (fun r h' => ∃ x, r = some x ∧ aact A h (e + 2) (d_amend v w u) (vm w + vm v + 2) (9 * vm w + 10 * vm v + vq v + 9) x h') := by
                intro n125
                induction n125 using Nat.strongRecOn with
                | ind n125 ih125 =>
                  intro i hh U2 s6 b7 hm125 hi hX hU hfs hfb hle
                  have hlh := ufl_len hX
                  rw [List.length_set] at hlh
                  have hA31 : ¬ A 31 := nA hA (Or.inl (by decide))
                  have hAh : okA (newA A (h.set 29 (cI 144 P)) hh) hh := okA_new (h := (h.set 29 (cI 144 P))) hA1 (by rw [List.length_set]; exact hl) (by rw [List.length_set]; exact hlh)
                  refine me1 (pc' := 127) (L' := [(0, .ref 26), (1, .ref p), (2, .ref q), (3, .ref r), (5, zz (decide (vk w ≤ 1 ∨ vk u ≤ 1))), (6, zz s6), (7, zz b7), (8, ii ((i : Nat) : Int))]) (S' := [ii ((i : Nat) : Int)]) dm_X9_amended_125 rfl rfl rfl rfl ?_
                  refine me1 (pc' := 128) (L' := [(0, .ref 26), (1, .ref p), (2, .ref q), (3, .ref r), (5, zz (decide (vk w ≤ 1 ∨ vk u ≤ 1))), (6, zz s6), (7, zz b7), (8, ii ((i : Nat) : Int))]) (S' := [.ref q, ii ((i : Nat) : Int)]) dm_X9_amended_127 rfl rfl rfl rfl ?_
                  refine me3 (pc' := 131) (S' := [ii (vm w : Int), ii ((i : Nat) : Int)]) dm_X9_amended_128 (g_get (v := ii (vm w : Int)) (ufl_get hX (by omega) (hl_ne (by omega) hq)) rfl rfl (by omega)) rfl rfl rfl ?_
                  refine y_2ge (a := ((i : Nat) : Int)) (b := (vm w : Int)) (t := 271) (pc' := 134) dm_X9_amended_131 rfl rfl (by omega) (fun hb4 => ?_) (fun hb4 => ?_)
                  · refine me1 (pc' := 272) (L' := [(0, .ref 26), (1, .ref p), (2, .ref q), (3, .ref r), (5, zz (decide (vk w ≤ 1 ∨ vk u ≤ 1))), (6, zz s6), (7, zz b7), (8, ii ((i : Nat) : Int))]) (S' := [.ref p]) dm_X9_amended_271 rfl rfl rfl rfl ?_
                    refine me3 (pc' := 275) (S' := [ii (vk v : Int)]) dm_X9_amended_272 (g_get (v := ii (vk v : Int)) (ufl_get hX (by omega) (hl_ne (by omega) hp)) rfl rfl (by omega)) rfl rfl rfl ?_
                    refine me0 (pc' := 277) (S' := [ii 6, ii (vk v : Int)]) dm_X9_amended_275 rfl rfl rfl rfl ?_
                    refine y_2ne (a := (vk v : Int)) (b := 6) (t := 286) (pc' := 280) dm_X9_amended_277 rfl rfl (by omega) (fun hb5 => ?_) (fun hb5 => ?_)
                    · refine me1 (pc' := 288) (L' := [(0, .ref 26), (1, .ref p), (2, .ref q), (3, .ref r), (5, zz (decide (vk w ≤ 1 ∨ vk u ≤ 1))), (6, zz s6), (7, zz b7), (8, ii ((i : Nat) : Int))]) (S' := [zz s6]) dm_X9_amended_286 rfl rfl rfl rfl ?_
                      refine y_zeq (c := s6) (t := 301) (pc' := 291) dm_X9_amended_288 rfl rfl (fun hb6 => ?_) (fun hb6 => ?_)
                      · refine me1 (pc' := 302) (L' := [(0, .ref 26), (1, .ref p), (2, .ref q), (3, .ref r), (5, zz (decide (vk w ≤ 1 ∨ vk u ≤ 1))), (6, zz s6), (7, zz b7), (8, ii ((i : Nat) : Int))]) (S' := [.ref 26]) dm_X9_amended_301 rfl rfl rfl rfl ?_
                        refine me1 (pc' := 303) (L' := [(0, .ref 26), (1, .ref p), (2, .ref q), (3, .ref r), (5, zz (decide (vk w ≤ 1 ∨ vk u ≤ 1))), (6, zz s6), (7, zz b7), (8, ii ((i : Nat) : Int))]) (S' := [.ref p, .ref 26]) dm_X9_amended_302 rfl rfl rfl rfl ?_
                        have hin : i = vm w := by omega
                        have hU9 : putsOK (newA A (h.set 29 (cI 144 P)) hh) hh (e + 1) U2 (vm v) (amP w u) := by have y := hU; rw [hin] at y; exact y
                        have hv9 : cv (newA A (h.set 29 (cI 144 P)) hh) hh (e + 1) p v := ufl_cv hX hA31 (cv_set (nA hA (Or.inl (by decide))) hv)
                        have hs9 : amS v w u (vm w) = false := by rw [← hin, ← hfs]; assumption
                        refine x_cv (pc' := 306) (rest := []) dm_X9_amended_303 rfl (g_inv (As := [.ref p]) (S := []) (ufl_get hX (by decide) (hl_ne (by decide) h26)) rfl rfl rfl (by decide)) rfl rfl rfl (t_amendedNest hx1 (by omega) (by omega) hAh (ufl_get hX (by decide) (hl_ne (by decide) h26)) (ufl_31 hX (by rw [List.length_set]; omega)) hv9 hU9 he hset (fun j g hj hg => by obtain ⟨k, hk, rfl⟩ := amJ_some hg; unfold gvF; by_cases z : vk w ≤ 1 ∨ vk u ≤ 1; (rw [if_pos z]; exact hset3); (rw [if_neg z]; exact vsz_vit (cv_wf hu) hset3 (Or.inr (by omega))))) ?_
                        rintro x h4 hres4
                        obtain ⟨q8, rfl⟩ := ares_ref hres4
                        refine y_ret (r := some (.ref q8)) dm_X9_amended_306 rfl rfl rfl ?_
                        have hbP : allP v w = true := by assumption
                        refine ⟨_, rfl, (h.set 29 (cI 144 P)).set 31 (cA 4 120 U2), scrS_tr hs1 (scrS_set (e' := cA 4 120 U2) (by unfold scr; decide) (hl_ne (by decide) h31) rfl), actH_31 (actH_29 hH _) _, ?_⟩
                        first | (rw [show d_amend v w u = .inr (vrow (rwK v (amP w u) (amB v w u (vm w))) (vm v) (rwn v (amP w u))) by unfold d_amend; rw [if_neg (by omega), if_neg (by omega), if_neg (by rw [hbP]; decide), if_neg (by omega), if_pos hs9]]; exact ares_dup (ares_tr hX (show ares (newA A (h.set 29 (cI 144 P)) hh) hh (e + 1) (.inr _) _ _ _ _ from hres4) (by omega) (by omega))) | (rw [show d_amend v w u = (if 24 < vm v then .inl 8 else .inr (vnest (vm v) (nsn v (amP w u)))) by unfold d_amend; rw [if_neg (by omega), if_neg (by omega), if_neg (by rw [hbP]; decide), if_neg (by omega), if_neg (by rw [hs9]; decide)]]; exact ares_tr hX hres4 (by omega) (by omega))
                      · refine me1 (pc' := 292) (L' := [(0, .ref 26), (1, .ref p), (2, .ref q), (3, .ref r), (5, zz (decide (vk w ≤ 1 ∨ vk u ≤ 1))), (6, zz s6), (7, zz b7), (8, ii ((i : Nat) : Int))]) (S' := [.ref 26]) dm_X9_amended_291 rfl rfl rfl rfl ?_
                        refine me1 (pc' := 293) (L' := [(0, .ref 26), (1, .ref p), (2, .ref q), (3, .ref r), (5, zz (decide (vk w ≤ 1 ∨ vk u ≤ 1))), (6, zz s6), (7, zz b7), (8, ii ((i : Nat) : Int))]) (S' := [.ref p, .ref 26]) dm_X9_amended_292 rfl rfl rfl rfl ?_
                        refine me1 (pc' := 295) (L' := [(0, .ref 26), (1, .ref p), (2, .ref q), (3, .ref r), (5, zz (decide (vk w ≤ 1 ∨ vk u ≤ 1))), (6, zz s6), (7, zz b7), (8, ii ((i : Nat) : Int))]) (S' := [zz b7, .ref p, .ref 26]) dm_X9_amended_293 rfl rfl rfl rfl ?_
                        have hin : i = vm w := by omega
                        have hU9 : putsOK (newA A (h.set 29 (cI 144 P)) hh) hh (e + 1) U2 (vm v) (amP w u) := by have y := hU; rw [hin] at y; exact y
                        have hv9 : cv (newA A (h.set 29 (cI 144 P)) hh) hh (e + 1) p v := ufl_cv hX hA31 (cv_set (nA hA (Or.inl (by decide))) hv)
                        have hs9 : amS v w u (vm w) = true := by rw [← hin, ← hfs]; assumption
                        have hsp := hs9
                        unfold amS at hsp
                        rw [Bool.and_eq_true] at hsp
                        have hsr := of_decide_eq_true hsp.1
                        have hsa := allN_iff.mp hsp.2
                        have hb9 : b7 = amB v w u (vm w) := by rw [← hin]; exact hfb
                        refine x_cv (pc' := 298) (rest := []) dm_X9_amended_295 rfl (g_inv (As := [.ref p, zz b7]) (S := []) (ufl_get hX (by decide) (hl_ne (by decide) h26)) rfl rfl rfl (by decide)) rfl rfl rfl (t_amendedRow (bt := b7) hx1 (by omega) (by omega) hAh (ufl_get hX (by decide) (hl_ne (by decide) h26)) (ufl_31 hX (by rw [List.length_set]; omega)) hv9 hU9 (by omega) (by omega) (fun j g hj hg => by obtain ⟨k, hk, rfl⟩ := amJ_some hg; exact of_decide_eq_true (hsa k hk)) (fun hbt => by rw [hb9] at hbt; unfold amB at hbt; rw [Bool.and_eq_true] at hbt; refine ⟨of_decide_eq_true hbt.1, fun j g hj hg => ?_⟩; obtain ⟨k, hk, rfl⟩ := amJ_some hg; have y := of_decide_eq_true (allN_iff.mp hbt.2 k hk); have x := of_decide_eq_true (hsa k hk); unfold cnum at y; rw [if_pos (by split at x <;> omega)] at y; exact y)) ?_
                        rintro x h4 hres4
                        obtain ⟨q8, rfl⟩ := vres_ref hres4
                        rw [hb9] at hres4
                        refine me2 (pc' := 306) (S' := [.ref q8]) dm_X9_amended_298 rfl rfl rfl ?_
                        refine y_ret (r := some (.ref q8)) dm_X9_amended_306 rfl rfl rfl ?_
                        have hbP : allP v w = true := by assumption
                        refine ⟨_, rfl, (h.set 29 (cI 144 P)).set 31 (cA 4 120 U2), scrS_tr hs1 (scrS_set (e' := cA 4 120 U2) (by unfold scr; decide) (hl_ne (by decide) h31) rfl), actH_31 (actH_29 hH _) _, ?_⟩
                        first | (rw [show d_amend v w u = .inr (vrow (rwK v (amP w u) (amB v w u (vm w))) (vm v) (rwn v (amP w u))) by unfold d_amend; rw [if_neg (by omega), if_neg (by omega), if_neg (by rw [hbP]; decide), if_neg (by omega), if_pos hs9]]; exact ares_dup (ares_tr hX (show ares (newA A (h.set 29 (cI 144 P)) hh) hh (e + 1) (.inr _) _ _ _ _ from hres4) (by omega) (by omega))) | (rw [show d_amend v w u = (if 24 < vm v then .inl 8 else .inr (vnest (vm v) (nsn v (amP w u)))) by unfold d_amend; rw [if_neg (by omega), if_neg (by omega), if_neg (by rw [hbP]; decide), if_neg (by omega), if_neg (by rw [hs9]; decide)]]; exact ares_tr hX hres4 (by omega) (by omega))
                    · refine me1 (pc' := 281) (L' := [(0, .ref 26), (1, .ref p), (2, .ref q), (3, .ref r), (5, zz (decide (vk w ≤ 1 ∨ vk u ≤ 1))), (6, zz s6), (7, zz b7), (8, ii ((i : Nat) : Int))]) (S' := [.ref 26]) dm_X9_amended_280 rfl rfl rfl rfl ?_
                      refine me1 (pc' := 282) (L' := [(0, .ref 26), (1, .ref p), (2, .ref q), (3, .ref r), (5, zz (decide (vk w ≤ 1 ∨ vk u ≤ 1))), (6, zz s6), (7, zz b7), (8, ii ((i : Nat) : Int))]) (S' := [.ref p, .ref 26]) dm_X9_amended_281 rfl rfl rfl rfl ?_
                      have hin : i = vm w := by omega
                      have hU9 : putsOK (newA A (h.set 29 (cI 144 P)) hh) hh (e + 1) U2 (vm v) (amP w u) := by have y := hU; rw [hin] at y; exact y
                      have hv9 : cv (newA A (h.set 29 (cI 144 P)) hh) hh (e + 1) p v := ufl_cv hX hA31 (cv_set (nA hA (Or.inl (by decide))) hv)
                      have hle9 : vk v = 6 → errs (amL v w u) (vm w) = 0 := fun z => by have y := hle z; rw [hin] at y; exact y
                      refine x_cv (pc' := 285) (rest := []) dm_X9_amended_282 rfl (g_inv (As := [.ref p]) (S := []) (ufl_get hX (by decide) (hl_ne (by decide) h26)) rfl rfl rfl (by decide)) rfl rfl rfl (t_amendedTable hx1 (by omega) (by omega) hAh (ufl_get hX (by decide) (hl_ne (by decide) h26)) (ufl_31 hX (by rw [List.length_set]; omega)) hv9 hU9 (by omega) (fun j g hj hg => by obtain ⟨k, hk, rfl⟩ := amJ_some hg; have y := errs_all (hle9 (by omega)) k hk; unfold amL at y; omega)) ?_
                      rintro x h4 hres4
                      obtain ⟨q8, rfl⟩ := vres_ref hres4
                      refine y_ret (r := some (.ref q8)) dm_X9_amended_285 rfl rfl rfl ?_
                      have hbP : allP v w = true := by assumption
                      refine ⟨_, rfl, (h.set 29 (cI 144 P)).set 31 (cA 4 120 U2), scrS_tr hs1 (scrS_set (e' := cA 4 120 U2) (by unfold scr; decide) (hl_ne (by decide) h31) rfl), actH_31 (actH_29 hH _) _, ?_⟩
                      rw [show d_amend v w u = .inr (vtab (vm v) (vc v) (tbn v (amP w u))) by unfold d_amend; rw [if_neg (by omega), if_neg (by omega), if_neg (by rw [hbP]; decide), if_pos (by omega), if_neg (by rw [hle9 (by omega)]; decide)]]
                      exact ares_dup (ares_tr hX (show ares (newA A (h.set 29 (cI 144 P)) hh) hh (e + 1) (.inr _) _ _ _ _ from hres4) (by omega) (by omega))
                  · have jn149 : ∀ (h3 : mj_H) (q3 : Nat), vres (newA A (h.set 29 (cI 144 P)) hh) hh (e + 1) (gvF w u i) 1 9 (.ref q3) h3 → pgE xt (d - 1) 9 11 false (Option.some (Jvm.ClassFile.FieldType.object "ArrayCalculator$Value")) (mj_dec prog_11_method_16_code) 149 [(0, .ref 26), (1, .ref p), (2, .ref q), (3, .ref r), (5, zz (decide (vk w ≤ 1 ∨ vk u ≤ 1))), (6, zz s6), (7, zz b7), (8, ii ((i : Nat) : Int))] [.ref q3] h3 (fun r h' => ∃ x, r = some x ∧ aact A h (e + 2) (d_amend v w u) (vm w + vm v + 2) (9 * vm w + 10 * vm v + vq v + 9) x h') := by
                      intro h3 q3 hres
                      obtain ⟨row4, fr4, vals4, hq3, hq32, hq3A, hgk, hgm, hgc, hgs, hgl⟩ := cv_valE (vres_cv hres)
                      have hps := puts_s (pl := plw w i) hX hA31 (by rw [List.length_set]; omega) hU hres
                      have hpi := hPl i (by omega)
                      have hl39 := vres_len hres
                      have hq3n : q3 ≠ 31 := by have y := okA_new hAh (by omega) (vres_len hres) q3 hq3A; omega
                      refine me1 (pc' := 151) (L' := [(9, .ref q3), (0, .ref 26), (1, .ref p), (2, .ref q), (3, .ref r), (5, zz (decide (vk w ≤ 1 ∨ vk u ≤ 1))), (6, zz s6), (7, zz b7), (8, ii ((i : Nat) : Int))]) (S' := []) dm_X9_amended_149 rfl rfl rfl rfl ?_
                      obtain ⟨lnq, hlnq⟩ : ∃ z : Int, z = (if vk v = 6 then amL v w u i else 0) := ⟨_, rfl⟩
                      have hlr : 0 ≤ lnq ∧ lnq ≤ 6 := by rw [hlnq]; split; (unfold amL lnA; split; omega; split; omega; split; omega; split <;> omega); omega
                      have jn173 : pgE xt (d - 1) 9 11 false (Option.some (Jvm.ClassFile.FieldType.object "ArrayCalculator$Value")) (mj_dec prog_11_method_16_code) 173 [(9, .ref q3), (0, .ref 26), (1, .ref p), (2, .ref q), (3, .ref r), (5, zz (decide (vk w ≤ 1 ∨ vk u ≤ 1))), (6, zz s6), (7, zz b7), (8, ii ((i : Nat) : Int))] [ii lnq] h3 (fun r h' => ∃ x, r = some x ∧ aact A h (e + 2) (d_amend v w u) (vm w + vm v + 2) (9 * vm w + 10 * vm v + vq v + 9) x h') := by
                        refine me1 (pc' := 175) (L' := [(10, ii lnq), (9, .ref q3), (0, .ref 26), (1, .ref p), (2, .ref q), (3, .ref r), (5, zz (decide (vk w ≤ 1 ∨ vk u ≤ 1))), (6, zz s6), (7, zz b7), (8, ii ((i : Nat) : Int))]) (S' := []) dm_X9_amended_173 rfl rfl rfl rfl ?_
                        refine me1 (pc' := 177) (L' := [(10, ii lnq), (9, .ref q3), (0, .ref 26), (1, .ref p), (2, .ref q), (3, .ref r), (5, zz (decide (vk w ≤ 1 ∨ vk u ≤ 1))), (6, zz s6), (7, zz b7), (8, ii ((i : Nat) : Int))]) (S' := [ii lnq]) dm_X9_amended_175 rfl rfl rfl rfl ?_
                        refine y_1eq (a := lnq) (t := 186) (pc' := 180) dm_X9_amended_177 rfl rfl (by omega) (fun hb7 => ?_) (fun hb7 => ?_)
                        · have hb_ := hb7
                          refine me1 (pc' := 187) (L' := [(10, ii lnq), (9, .ref q3), (0, .ref 26), (1, .ref p), (2, .ref q), (3, .ref r), (5, zz (decide (vk w ≤ 1 ∨ vk u ≤ 1))), (6, zz s6), (7, zz b7), (8, ii ((i : Nat) : Int))]) (S' := [.ref 26]) dm_X9_amended_186 rfl rfl rfl rfl ?_
                          refine me3 (pc' := 190) (S' := [.ref 31]) dm_X9_amended_187 (g_get (v := .ref 31) (vres_get hres (ufl_get hX (by decide) (hl_ne (by decide) h26))) rfl rfl (by decide)) rfl rfl rfl ?_
                          refine me1 (pc' := 191) (L' := [(10, ii lnq), (9, .ref q3), (0, .ref 26), (1, .ref p), (2, .ref q), (3, .ref r), (5, zz (decide (vk w ≤ 1 ∨ vk u ≤ 1))), (6, zz s6), (7, zz b7), (8, ii ((i : Nat) : Int))]) (S' := [.ref 26, .ref 31]) dm_X9_amended_190 rfl rfl rfl rfl ?_
                          refine me3 (pc' := 194) (S' := [.ref 29, .ref 31]) dm_X9_amended_191 (g_get (v := .ref 29) (vres_get hres (ufl_get hX (by decide) (hl_ne (by decide) h26))) rfl rfl (by decide)) rfl rfl rfl ?_
                          refine me1 (pc' := 196) (L' := [(10, ii lnq), (9, .ref q3), (0, .ref 26), (1, .ref p), (2, .ref q), (3, .ref r), (5, zz (decide (vk w ≤ 1 ∨ vk u ≤ 1))), (6, zz s6), (7, zz b7), (8, ii ((i : Nat) : Int))]) (S' := [ii ((i : Nat) : Int), .ref 29, .ref 31]) dm_X9_amended_194 rfl rfl rfl rfl ?_
                          refine me3 (pc' := 197) (S' := [ii (P i), .ref 31]) dm_X9_amended_196 (yh_iald (v := P i) (vres_get hres (ufl_get hX (by decide) (hl_set (hl_lt h29)))) (by omega) (by omega) (by omega) (by decide) rfl) rfl rfl rfl ?_
                          refine pg_st0 (S' := [ii ((plw w i : Nat) : Int), .ref 31]) (congrArg (fun z => ii z :: [.ref 31]) (hpi.1)) ?_
                          refine me1 (pc' := 199) (L' := [(10, ii lnq), (9, .ref q3), (0, .ref 26), (1, .ref p), (2, .ref q), (3, .ref r), (5, zz (decide (vk w ≤ 1 ∨ vk u ≤ 1))), (6, zz s6), (7, zz b7), (8, ii ((i : Nat) : Int))]) (S' := [.ref q3, ii ((plw w i : Nat) : Int), .ref 31]) dm_X9_amended_197 rfl rfl rfl rfl ?_
                          refine me3 (pc' := 200) (S' := []) (h1 := (h3).set 31 (cA 4 120 (va_up U2 (plw w i) (some q3)))) dm_X9_amended_199 (yh_aasr (j := ((plw w i : Nat) : Int)) rfl (vres_get hres (ufl_31 hX (by rw [List.length_set]; omega))) hq3 (by omega) (by omega) (by omega) (by omega) (by decide)) rfl rfl rfl ?_
                          have jn231 : pgE xt (d - 1) 9 11 false (Option.some (Jvm.ClassFile.FieldType.object "ArrayCalculator$Value")) (mj_dec prog_11_method_16_code) 231 [(10, ii lnq), (9, .ref q3), (0, .ref 26), (1, .ref p), (2, .ref q), (3, .ref r), (5, zz (decide (vk w ≤ 1 ∨ vk u ≤ 1))), (6, zz s6), (7, zz b7), (8, ii ((i : Nat) : Int))] [zz (s6 && decide (vk (gvF w u i) = if vk v = 3 then 1 else 0))] ((h3).set 31 (cA 4 120 (va_up U2 (plw w i) (some q3)))) (fun r h' => ∃ x, r = some x ∧ aact A h (e + 2) (d_amend v w u) (vm w + vm v + 2) (9 * vm w + 10 * vm v + vq v + 9) x h') := by
                            refine me1 (pc' := 233) (L' := [(6, zz (s6 && decide (vk (gvF w u i) = if vk v = 3 then 1 else 0))), (10, ii lnq), (9, .ref q3), (0, .ref 26), (1, .ref p), (2, .ref q), (3, .ref r), (5, zz (decide (vk w ≤ 1 ∨ vk u ≤ 1))), (7, zz b7), (8, ii ((i : Nat) : Int))]) (S' := []) dm_X9_amended_231 rfl rfl rfl rfl ?_
                            have jn263 : pgE xt (d - 1) 9 11 false (Option.some (Jvm.ClassFile.FieldType.object "ArrayCalculator$Value")) (mj_dec prog_11_method_16_code) 263 [(6, zz (s6 && decide (vk (gvF w u i) = if vk v = 3 then 1 else 0))), (10, ii lnq), (9, .ref q3), (0, .ref 26), (1, .ref p), (2, .ref q), (3, .ref r), (5, zz (decide (vk w ≤ 1 ∨ vk u ≤ 1))), (7, zz b7), (8, ii ((i : Nat) : Int))] [zz (b7 && decide (cnum (gvF w u i) = 0 ∨ cnum (gvF w u i) = 1))] ((h3).set 31 (cA 4 120 (va_up U2 (plw w i) (some q3)))) (fun r h' => ∃ x, r = some x ∧ aact A h (e + 2) (d_amend v w u) (vm w + vm v + 2) (9 * vm w + 10 * vm v + vq v + 9) x h') := by
                              refine me1 (pc' := 265) (L' := [(7, zz (b7 && decide (cnum (gvF w u i) = 0 ∨ cnum (gvF w u i) = 1))), (6, zz (s6 && decide (vk (gvF w u i) = if vk v = 3 then 1 else 0))), (10, ii lnq), (9, .ref q3), (0, .ref 26), (1, .ref p), (2, .ref q), (3, .ref r), (5, zz (decide (vk w ≤ 1 ∨ vk u ≤ 1))), (8, ii ((i : Nat) : Int))]) (S' := []) dm_X9_amended_263 rfl rfl rfl rfl ?_
                              refine y_iinc (pc' := 268) (L' := [(8, ii (((i : Nat) : Int) + 1)), (7, zz (b7 && decide (cnum (gvF w u i) = 0 ∨ cnum (gvF w u i) = 1))), (6, zz (s6 && decide (vk (gvF w u i) = if vk v = 3 then 1 else 0))), (10, ii lnq), (9, .ref q3), (0, .ref 26), (1, .ref p), (2, .ref q), (3, .ref r), (5, zz (decide (vk w ≤ 1 ∨ vk u ≤ 1)))]) dm_X9_amended_265 (y_incp (a := ((i : Nat) : Int)) (c := 1) rfl rfl (by decide)) rfl ?_
                              refine me2 (pc' := 125) (S' := []) dm_X9_amended_268 rfl rfl rfl ?_
                              exact pg_sub (L := [(0, .ref 26), (1, .ref p), (2, .ref q), (3, .ref r), (5, zz (decide (vk w ≤ 1 ∨ vk u ≤ 1))), (6, zz (s6 && decide (vk (gvF w u i) = if vk v = 3 then 1 else 0))), (7, zz (b7 && decide (cnum (gvF w u i) = 0 ∨ cnum (gvF w u i) = 1))), (8, ii (((i + 1) : Nat) : Int))]) rfl rfl rfl (ih125 (vm w - (i + 1)) (by omega) (i + 1) ((h3).set 31 (cA 4 120 (va_up U2 (plw w i) (some q3)))) (va_up U2 (plw w i) (some q3)) (s6 && decide (vk (gvF w u i) = if vk v = 3 then 1 else 0)) (b7 && decide (cnum (gvF w u i) = 0 ∨ cnum (gvF w u i) = 1)) rfl (by omega) hps.1 (puts_congr hps.2 (fun j hj => amJ_s.symm)) (by rw [amS_s, ← hfs]) (by rw [amB_s, ← hfb]) (fun z => by rw [errs_s0 (hle z)]; rw [hlnq, if_pos z] at hb_; exact hb_))
                            refine me1 (pc' := 235) (L' := [(6, zz (s6 && decide (vk (gvF w u i) = if vk v = 3 then 1 else 0))), (10, ii lnq), (9, .ref q3), (0, .ref 26), (1, .ref p), (2, .ref q), (3, .ref r), (5, zz (decide (vk w ≤ 1 ∨ vk u ≤ 1))), (7, zz b7), (8, ii ((i : Nat) : Int))]) (S' := [zz b7]) dm_X9_amended_233 rfl rfl rfl rfl ?_
                            refine y_zeq (c := b7) (t := 262) (pc' := 238) dm_X9_amended_235 rfl rfl (fun hb8 => ?_) (fun hb8 => ?_)
                            · refine me0 (pc' := 263) (S' := [ii 0]) dm_X9_amended_262 rfl rfl rfl rfl ?_
                              exact pg_st0 (S' := [zz (b7 && decide (cnum (gvF w u i) = 0 ∨ cnum (gvF w u i) = 1))]) (congrArg (fun z => z :: []) (zz_f (by first | (rw [show b7 = false by assumption]; rfl) | (rw [decide_eq_false (show ¬ (cnum (gvF w u i) = 0 ∨ cnum (gvF w u i) = 1) from fun z => z.elim (by assumption) (by assumption)), Bool.and_false])))) jn263
                            · refine me1 (pc' := 240) (L' := [(6, zz (s6 && decide (vk (gvF w u i) = if vk v = 3 then 1 else 0))), (10, ii lnq), (9, .ref q3), (0, .ref 26), (1, .ref p), (2, .ref q), (3, .ref r), (5, zz (decide (vk w ≤ 1 ∨ vk u ≤ 1))), (7, zz b7), (8, ii ((i : Nat) : Int))]) (S' := [.ref q3]) dm_X9_amended_238 rfl rfl rfl rfl ?_
                              refine me3 (pc' := 243) (S' := [.long (cnum (gvF w u i))]) dm_X9_amended_240 (g_get (v := .long (cnum (gvF w u i))) (hl_ne (by omega) hq3) rfl rfl (by omega)) rfl rfl rfl ?_
                              refine me0 (pc' := 244) (S' := [.long (Int64.ofInt 0), .long (cnum (gvF w u i))]) dm_X9_amended_243 rfl rfl rfl rfl ?_
                              refine y_leq (x := cnum (gvF w u i)) (y := Int64.ofInt 0) (t := 258) (pc1 := 245) (pc' := 248) dm_X9_amended_244 rfl dm_X9_amended_245 rfl rfl (fun hb9 => ?_) (fun hb9 => ?_)
                              · rw [e0] at hb9
                                refine me0 (pc' := 259) (S' := [ii 1]) dm_X9_amended_258 rfl rfl rfl rfl ?_
                                refine me2 (pc' := 263) (S' := [ii 1]) dm_X9_amended_259 rfl rfl rfl ?_
                                exact pg_st0 (S' := [zz (b7 && decide (cnum (gvF w u i) = 0 ∨ cnum (gvF w u i) = 1))]) (congrArg (fun z => z :: []) (zz_t (by rw [hb8, decide_eq_true (show cnum (gvF w u i) = 0 ∨ cnum (gvF w u i) = 1 by first | exact Or.inl (by assumption) | exact Or.inr (by assumption))]; rfl))) jn263
                              · rw [e0] at hb9
                                refine me1 (pc' := 250) (L' := [(6, zz (s6 && decide (vk (gvF w u i) = if vk v = 3 then 1 else 0))), (10, ii lnq), (9, .ref q3), (0, .ref 26), (1, .ref p), (2, .ref q), (3, .ref r), (5, zz (decide (vk w ≤ 1 ∨ vk u ≤ 1))), (7, zz b7), (8, ii ((i : Nat) : Int))]) (S' := [.ref q3]) dm_X9_amended_248 rfl rfl rfl rfl ?_
                                refine me3 (pc' := 253) (S' := [.long (cnum (gvF w u i))]) dm_X9_amended_250 (g_get (v := .long (cnum (gvF w u i))) (hl_ne (by omega) hq3) rfl rfl (by omega)) rfl rfl rfl ?_
                                refine me0 (pc' := 254) (S' := [.long (Int64.ofInt 1), .long (cnum (gvF w u i))]) dm_X9_amended_253 rfl rfl rfl rfl ?_
                                refine y_lne (x := cnum (gvF w u i)) (y := Int64.ofInt 1) (t := 262) (pc1 := 255) (pc' := 258) dm_X9_amended_254 rfl dm_X9_amended_255 rfl rfl (fun hb10 => ?_) (fun hb10 => ?_)
                                · rw [e1] at hb10
                                  refine me0 (pc' := 263) (S' := [ii 0]) dm_X9_amended_262 rfl rfl rfl rfl ?_
                                  exact pg_st0 (S' := [zz (b7 && decide (cnum (gvF w u i) = 0 ∨ cnum (gvF w u i) = 1))]) (congrArg (fun z => z :: []) (zz_f (by first | (rw [show b7 = false by assumption]; rfl) | (rw [decide_eq_false (show ¬ (cnum (gvF w u i) = 0 ∨ cnum (gvF w u i) = 1) from fun z => z.elim (by assumption) (by assumption)), Bool.and_false])))) jn263
                                · rw [e1] at hb10
                                  refine me0 (pc' := 259) (S' := [ii 1]) dm_X9_amended_258 rfl rfl rfl rfl ?_
                                  refine me2 (pc' := 263) (S' := [ii 1]) dm_X9_amended_259 rfl rfl rfl ?_
                                  exact pg_st0 (S' := [zz (b7 && decide (cnum (gvF w u i) = 0 ∨ cnum (gvF w u i) = 1))]) (congrArg (fun z => z :: []) (zz_t (by rw [hb8, decide_eq_true (show cnum (gvF w u i) = 0 ∨ cnum (gvF w u i) = 1 by first | exact Or.inl (by assumption) | exact Or.inr (by assumption))]; rfl))) jn263
                          refine me1 (pc' := 202) (L' := [(10, ii lnq), (9, .ref q3), (0, .ref 26), (1, .ref p), (2, .ref q), (3, .ref r), (5, zz (decide (vk w ≤ 1 ∨ vk u ≤ 1))), (6, zz s6), (7, zz b7), (8, ii ((i : Nat) : Int))]) (S' := [zz s6]) dm_X9_amended_200 rfl rfl rfl rfl ?_
                          refine y_zeq (c := s6) (t := 230) (pc' := 205) dm_X9_amended_202 rfl rfl (fun hb11 => ?_) (fun hb11 => ?_)
                          · refine me0 (pc' := 231) (S' := [ii 0]) dm_X9_amended_230 rfl rfl rfl rfl ?_
                            exact pg_st0 (S' := [zz (s6 && decide (vk (gvF w u i) = if vk v = 3 then 1 else 0))]) (congrArg (fun z => z :: []) (zz_f (by first | (rw [show s6 = false by assumption]; rfl) | (rw [decide_eq_false (show ¬ vk (gvF w u i) = if vk v = 3 then 1 else 0 by first | (rw [if_pos (by omega)]; omega) | (rw [if_neg (by omega)]; omega)), Bool.and_false])))) jn231
                          · refine me1 (pc' := 207) (L' := [(10, ii lnq), (9, .ref q3), (0, .ref 26), (1, .ref p), (2, .ref q), (3, .ref r), (5, zz (decide (vk w ≤ 1 ∨ vk u ≤ 1))), (6, zz s6), (7, zz b7), (8, ii ((i : Nat) : Int))]) (S' := [.ref q3]) dm_X9_amended_205 rfl rfl rfl rfl ?_
                            refine me3 (pc' := 210) (S' := [ii (vk (gvF w u i) : Int)]) dm_X9_amended_207 (g_get (v := ii (vk (gvF w u i) : Int)) (hl_ne (by omega) hq3) rfl rfl (by omega)) rfl rfl rfl ?_
                            refine me1 (pc' := 211) (L' := [(10, ii lnq), (9, .ref q3), (0, .ref 26), (1, .ref p), (2, .ref q), (3, .ref r), (5, zz (decide (vk w ≤ 1 ∨ vk u ≤ 1))), (6, zz s6), (7, zz b7), (8, ii ((i : Nat) : Int))]) (S' := [.ref p, ii (vk (gvF w u i) : Int)]) dm_X9_amended_210 rfl rfl rfl rfl ?_
                            refine me3 (pc' := 214) (S' := [ii (vk v : Int), ii (vk (gvF w u i) : Int)]) dm_X9_amended_211 (g_get (v := ii (vk v : Int)) (hl_ne (by omega) (vres_get hres (ufl_get hX (by omega) (hl_ne (by omega) hp)))) rfl rfl (by omega)) rfl rfl rfl ?_
                            refine me0 (pc' := 215) (S' := [ii 3, ii (vk v : Int), ii (vk (gvF w u i) : Int)]) dm_X9_amended_214 rfl rfl rfl rfl ?_
                            refine y_2ne (a := (vk v : Int)) (b := 3) (t := 222) (pc' := 218) dm_X9_amended_215 rfl rfl (by omega) (fun hb12 => ?_) (fun hb12 => ?_)
                            · refine me0 (pc' := 223) (S' := [ii 0, ii (vk (gvF w u i) : Int)]) dm_X9_amended_222 rfl rfl rfl rfl ?_
                              refine y_2ne (a := (vk (gvF w u i) : Int)) (b := 0) (t := 230) (pc' := 226) dm_X9_amended_223 rfl rfl (by omega) (fun hb13 => ?_) (fun hb13 => ?_)
                              · refine me0 (pc' := 231) (S' := [ii 0]) dm_X9_amended_230 rfl rfl rfl rfl ?_
                                exact pg_st0 (S' := [zz (s6 && decide (vk (gvF w u i) = if vk v = 3 then 1 else 0))]) (congrArg (fun z => z :: []) (zz_f (by first | (rw [show s6 = false by assumption]; rfl) | (rw [decide_eq_false (show ¬ vk (gvF w u i) = if vk v = 3 then 1 else 0 by first | (rw [if_pos (by omega)]; omega) | (rw [if_neg (by omega)]; omega)), Bool.and_false])))) jn231
                              · refine me0 (pc' := 227) (S' := [ii 1]) dm_X9_amended_226 rfl rfl rfl rfl ?_
                                refine me2 (pc' := 231) (S' := [ii 1]) dm_X9_amended_227 rfl rfl rfl ?_
                                exact pg_st0 (S' := [zz (s6 && decide (vk (gvF w u i) = if vk v = 3 then 1 else 0))]) (congrArg (fun z => z :: []) (zz_t (by rw [hb11, decide_eq_true (show vk (gvF w u i) = if vk v = 3 then 1 else 0 by first | (rw [if_pos (by omega)]; omega) | (rw [if_neg (by omega)]; omega))]; rfl))) jn231
                            · refine me0 (pc' := 219) (S' := [ii 1, ii (vk (gvF w u i) : Int)]) dm_X9_amended_218 rfl rfl rfl rfl ?_
                              refine me2 (pc' := 223) (S' := [ii 1, ii (vk (gvF w u i) : Int)]) dm_X9_amended_219 rfl rfl rfl ?_
                              refine y_2ne (a := (vk (gvF w u i) : Int)) (b := 1) (t := 230) (pc' := 226) dm_X9_amended_223 rfl rfl (by omega) (fun hb14 => ?_) (fun hb14 => ?_)
                              · refine me0 (pc' := 231) (S' := [ii 0]) dm_X9_amended_230 rfl rfl rfl rfl ?_
                                exact pg_st0 (S' := [zz (s6 && decide (vk (gvF w u i) = if vk v = 3 then 1 else 0))]) (congrArg (fun z => z :: []) (zz_f (by first | (rw [show s6 = false by assumption]; rfl) | (rw [decide_eq_false (show ¬ vk (gvF w u i) = if vk v = 3 then 1 else 0 by first | (rw [if_pos (by omega)]; omega) | (rw [if_neg (by omega)]; omega)), Bool.and_false])))) jn231
                              · refine me0 (pc' := 227) (S' := [ii 1]) dm_X9_amended_226 rfl rfl rfl rfl ?_
                                refine me2 (pc' := 231) (S' := [ii 1]) dm_X9_amended_227 rfl rfl rfl ?_
                                exact pg_st0 (S' := [zz (s6 && decide (vk (gvF w u i) = if vk v = 3 then 1 else 0))]) (congrArg (fun z => z :: []) (zz_t (by rw [hb11, decide_eq_true (show vk (gvF w u i) = if vk v = 3 then 1 else 0 by first | (rw [if_pos (by omega)]; omega) | (rw [if_neg (by omega)]; omega))]; rfl))) jn231
                        · refine me1 (pc' := 182) (L' := [(10, ii lnq), (9, .ref q3), (0, .ref 26), (1, .ref p), (2, .ref q), (3, .ref r), (5, zz (decide (vk w ≤ 1 ∨ vk u ≤ 1))), (6, zz s6), (7, zz b7), (8, ii ((i : Nat) : Int))]) (S' := [ii lnq]) dm_X9_amended_180 rfl rfl rfl rfl ?_
                          refine x_cv (pc' := 185) (rest := []) dm_X9_amended_182 rfl (g_invs (As := [ii lnq]) (S := []) rfl rfl rfl) rfl rfl rfl (c_fault (q := h3.length) (by omega) (by omega) rfl (by omega)) ?_
                          rintro _ _ ⟨rfl, rfl⟩
                          refine y_ret (r := some (.ref h3.length)) dm_X9_amended_185 rfl rfl rfl ?_
                          have hv6 : vk v = 6 := by by_cases z : vk v = 6; exact z; (rw [if_neg z] at hlnq; omega)
                          have hbP : allP v w = true := by assumption
                          refine ⟨_, rfl, (h.set 29 (cI 144 P)).set 31 (cA 4 120 U2), scrS_tr hs1 (scrS_set (e' := cA 4 120 U2) (by unfold scr; decide) (hl_ne (by decide) h31) rfl), actH_31 (actH_29 hH _) _, ?_⟩
                          rw [if_pos hv6] at hlnq
                          have hee : errs (amL v w u) (vm w) = lnq := by have y := errs_s0 (hle hv6); rw [← hlnq] at y; have x := errs_mono (g := amL v w u) (k := i + 1) (by omega) (vm w - (i + 1)); rw [show i + 1 + (vm w - (i + 1)) = vm w by omega] at x; omega
                          rw [show d_amend v w u = .inl lnq.toNat by unfold d_amend; rw [if_neg (by omega), if_neg (by omega), if_neg (by rw [hbP]; decide), if_pos hv6, if_pos (by omega), hee]]
                          refine ares_tr hX (ares_inl_tr hres (B := A) (a := 1) (b := 9) ?_) (by omega) (by omega)
                          have hl3 : hh.length ≤ h3.length := vres_len hres
                          have hfz := ares_f (A := A) (h := h3) (e := e + 2) (a := 1) (b := 9) lnq.toNat (by omega) (by omega) (by omega)
                          rw [show ((lnq.toNat : Nat) : Int) = lnq by omega] at hfz
                          exact hfz
                      refine me1 (pc' := 152) (L' := [(9, .ref q3), (0, .ref 26), (1, .ref p), (2, .ref q), (3, .ref r), (5, zz (decide (vk w ≤ 1 ∨ vk u ≤ 1))), (6, zz s6), (7, zz b7), (8, ii ((i : Nat) : Int))]) (S' := [.ref p]) dm_X9_amended_151 rfl rfl rfl rfl ?_
                      refine me3 (pc' := 155) (S' := [ii (vk v : Int)]) dm_X9_amended_152 (g_get (v := ii (vk v : Int)) (vres_get hres (ufl_get hX (by omega) (hl_ne (by omega) hp))) rfl rfl (by omega)) rfl rfl rfl ?_
                      refine me0 (pc' := 157) (S' := [ii 6, ii (vk v : Int)]) dm_X9_amended_155 rfl rfl rfl rfl ?_
                      refine y_2ne (a := (vk v : Int)) (b := 6) (t := 172) (pc' := 160) dm_X9_amended_157 rfl rfl (by omega) (fun hb15 => ?_) (fun hb15 => ?_)
                      · refine me0 (pc' := 173) (S' := [ii 0]) dm_X9_amended_172 rfl rfl rfl rfl ?_
                        exact pg_st0 (S' := [ii lnq]) (congrArg (fun z => ii z :: []) (by rw [hlnq]; first | (rw [if_pos (by omega)]; rfl) | rw [if_neg (by omega)])) jn173
                      · refine me1 (pc' := 162) (L' := [(9, .ref q3), (0, .ref 26), (1, .ref p), (2, .ref q), (3, .ref r), (5, zz (decide (vk w ≤ 1 ∨ vk u ≤ 1))), (6, zz s6), (7, zz b7), (8, ii ((i : Nat) : Int))]) (S' := [.ref q3]) dm_X9_amended_160 rfl rfl rfl rfl ?_
                        refine me1 (pc' := 163) (L' := [(9, .ref q3), (0, .ref 26), (1, .ref p), (2, .ref q), (3, .ref r), (5, zz (decide (vk w ≤ 1 ∨ vk u ≤ 1))), (6, zz s6), (7, zz b7), (8, ii ((i : Nat) : Int))]) (S' := [.ref p, .ref q3]) dm_X9_amended_162 rfl rfl rfl rfl ?_
                        refine me3 (pc' := 166) (S' := [ii (vc v : Int), .ref q3]) dm_X9_amended_163 (g_get (v := ii (vc v : Int)) (vres_get hres (ufl_get hX (by omega) (hl_ne (by omega) hp))) rfl rfl (by omega)) rfl rfl rfl ?_
                        refine x_cp (pc' := 169) (v := ii (lnA (gvF w u i) (vc v) : Int)) (rest := []) dm_X9_amended_166 rfl (g_invs (As := [.ref q3, ii (vc v : Int)]) (S := []) rfl rfl rfl) rfl rfl rfl (t_lineAsked hx1 (by omega) (vres_cv hres) (by omega)) ?_
                        refine me2 (pc' := 173) (S' := [ii (lnA (gvF w u i) (vc v) : Int)]) dm_X9_amended_169 rfl rfl rfl ?_
                        exact pg_st0 (S' := [ii lnq]) (congrArg (fun z => ii z :: []) (by rw [hlnq]; first | (rw [if_pos (by omega)]; rfl) | rw [if_neg (by omega)])) jn173
                    refine me1 (pc' := 136) (L' := [(0, .ref 26), (1, .ref p), (2, .ref q), (3, .ref r), (5, zz (decide (vk w ≤ 1 ∨ vk u ≤ 1))), (6, zz s6), (7, zz b7), (8, ii ((i : Nat) : Int))]) (S' := [zz (decide (vk w ≤ 1 ∨ vk u ≤ 1))]) dm_X9_amended_134 rfl rfl rfl rfl ?_
                    refine y_zeq (c := decide (vk w ≤ 1 ∨ vk u ≤ 1)) (t := 143) (pc' := 139) dm_X9_amended_136 rfl rfl (fun hb16 => ?_) (fun hb16 => ?_)
                    · replace hb16 := dF hb16
                      refine me1 (pc' := 144) (L' := [(0, .ref 26), (1, .ref p), (2, .ref q), (3, .ref r), (5, zz (decide (vk w ≤ 1 ∨ vk u ≤ 1))), (6, zz s6), (7, zz b7), (8, ii ((i : Nat) : Int))]) (S' := [.ref r]) dm_X9_amended_143 rfl rfl rfl rfl ?_
                      refine me1 (pc' := 146) (L' := [(0, .ref 26), (1, .ref p), (2, .ref q), (3, .ref r), (5, zz (decide (vk w ≤ 1 ∨ vk u ≤ 1))), (6, zz s6), (7, zz b7), (8, ii ((i : Nat) : Int))]) (S' := [ii ((i : Nat) : Int), .ref r]) dm_X9_amended_144 rfl rfl rfl rfl ?_
                      refine x_cv (pc' := 149) (rest := []) dm_X9_amended_146 rfl (g_inv (As := [ii ((i : Nat) : Int)]) (S := []) (ufl_get hX (by omega) (hl_ne (by omega) hr)) rfl rfl rfl (by omega)) rfl rfl rfl ((show pgV xt (d - 1) _ _ _ (vres (newA A (h.set 29 (cI 144 P)) hh) hh (e + 1) (gvF w u i) 1 9) from gvF_2 (w := w) (u := u) (k := i) (by assumption) ▸ c_itemAt hx1 (by omega) (by omega) (ufl_cv hX hA31 (cv_set (nA hA (Or.inl (by decide))) hu)) (Or.inr (by omega)) (by omega))) ?_
                      rintro x h3 hres
                      obtain ⟨q3, rfl⟩ := vres_ref hres
                      exact jn149 _ _ hres
                    · replace hb16 := dT hb16
                      refine me1 (pc' := 140) (L' := [(0, .ref 26), (1, .ref p), (2, .ref q), (3, .ref r), (5, zz (decide (vk w ≤ 1 ∨ vk u ≤ 1))), (6, zz s6), (7, zz b7), (8, ii ((i : Nat) : Int))]) (S' := [.ref r]) dm_X9_amended_139 rfl rfl rfl rfl ?_
                      refine me2 (pc' := 149) (S' := [.ref r]) dm_X9_amended_140 rfl rfl rfl ?_
                      exact jn149 hh r (by rw [gvF_1 (w := w) (u := u) (k := i) (by assumption)]; exact vres_same (ufl_cv hX hA31 (cv_set (nA hA (Or.inl (by decide))) hu)))
              exact pg_sub (L := [(0, .ref 26), (1, .ref p), (2, .ref q), (3, .ref r), (5, zz (decide (vk w ≤ 1 ∨ vk u ≤ 1))), (6, zz (decide (2 ≤ vk v ∧ vk v ≤ 5))), (7, zz (decide (vk v = 2))), (8, ii ((0 : Nat) : Int))]) rfl rfl rfl (lp125 _ 0 (((h).set 29 (cI 144 P)).set 31 (cA 4 120 U)) U (decide (2 ≤ vk v ∧ vk v ≤ 5)) (decide (vk v = 2)) rfl (Nat.zero_le _) ⟨[], (List.append_nil _).symm, Nat.le_refl _, Nat.le_refl _⟩ (fun j hj => Or.inl ⟨rfl, hU0 j (by omega)⟩) (by unfold amS; show _ = (_ && true); rw [Bool.and_true]) (by unfold amB; show _ = (_ && true); rw [Bool.and_true]) (fun _ => rfl))
            · refine me0 (pc' := 116) (S' := [ii 1]) dm_X9_amended_115 rfl rfl rfl rfl ?_
              refine me2 (pc' := 120) (S' := [ii 1]) dm_X9_amended_116 rfl rfl rfl ?_
              refine pg_st0 (S' := [zz (decide (vk v = 2))]) (congrArg (fun z => z :: []) (zt (by omega))) ?_
              refine me1 (pc' := 122) (L' := [(7, zz (decide (vk v = 2))), (6, zz (decide (2 ≤ vk v ∧ vk v ≤ 5))), (0, .ref 26), (1, .ref p), (2, .ref q), (3, .ref r), (5, zz (decide (vk w ≤ 1 ∨ vk u ≤ 1)))]) (S' := []) dm_X9_amended_120 rfl rfl rfl rfl ?_
              refine me0 (pc' := 123) (S' := [ii 0]) dm_X9_amended_122 rfl rfl rfl rfl ?_
              refine me1 (pc' := 125) (L' := [(8, ii 0), (7, zz (decide (vk v = 2))), (6, zz (decide (2 ≤ vk v ∧ vk v ≤ 5))), (0, .ref 26), (1, .ref p), (2, .ref q), (3, .ref r), (5, zz (decide (vk w ≤ 1 ∨ vk u ≤ 1)))]) (S' := []) dm_X9_amended_123 rfl rfl rfl rfl ?_
              have lp125 : ∀ (n125 : Nat) (i : Nat) (hh : mj_H) (U2 : Nat → Option Nat) (s6 : Bool) (b7 : Bool), vm w - i = n125 → (i ≤ vm w) → (ufl (h.set 29 (cI 144 P)) hh U2 i (9 * i)) → (putsOK (newA A (h.set 29 (cI 144 P)) hh) hh (e + 1) U2 (vm v) (amJ (plw w) (gvF w u) i)) → (s6 = amS v w u i) → (b7 = amB v w u i) → (vk v = 6 → errs (amL v w u) i = 0) → pgE xt (d - 1) 9 11 false (Option.some (Jvm.ClassFile.FieldType.object "ArrayCalculator$Value")) (mj_dec prog_11_method_16_code) 125 [(0, .ref 26), (1, .ref p), (2, .ref q), (3, .ref r), (5, zz (decide (vk w ≤ 1 ∨ vk u ≤ 1))), (6, zz s6), (7, zz b7), (8, ii ((i : Nat) : Int))] [] hh (fun r h' => ∃ x, r = some x ∧ aact A h (e + 2) (d_amend v w u) (vm w + vm v + 2) (9 * vm w + 10 * vm v + vq v + 9) x h') := by
                intro n125
                induction n125 using Nat.strongRecOn with
                | ind n125 ih125 =>
                  intro i hh U2 s6 b7 hm125 hi hX hU hfs hfb hle
                  have hlh := ufl_len hX
                  rw [List.length_set] at hlh
                  have hA31 : ¬ A 31 := nA hA (Or.inl (by decide))
                  have hAh : okA (newA A (h.set 29 (cI 144 P)) hh) hh := okA_new (h := (h.set 29 (cI 144 P))) hA1 (by rw [List.length_set]; exact hl) (by rw [List.length_set]; exact hlh)
                  refine me1 (pc' := 127) (L' := [(0, .ref 26), (1, .ref p), (2, .ref q), (3, .ref r), (5, zz (decide (vk w ≤ 1 ∨ vk u ≤ 1))), (6, zz s6), (7, zz b7), (8, ii ((i : Nat) : Int))]) (S' := [ii ((i : Nat) : Int)]) dm_X9_amended_125 rfl rfl rfl rfl ?_
                  refine me1 (pc' := 128) (L' := [(0, .ref 26), (1, .ref p), (2, .ref q), (3, .ref r), (5, zz (decide (vk w ≤ 1 ∨ vk u ≤ 1))), (6, zz s6), (7, zz b7), (8, ii ((i : Nat) : Int))]) (S' := [.ref q, ii ((i : Nat) : Int)]) dm_X9_amended_127 rfl rfl rfl rfl ?_
                  refine me3 (pc' := 131) (S' := [ii (vm w : Int), ii ((i : Nat) : Int)]) dm_X9_amended_128 (g_get (v := ii (vm w : Int)) (ufl_get hX (by omega) (hl_ne (by omega) hq)) rfl rfl (by omega)) rfl rfl rfl ?_
                  refine y_2ge (a := ((i : Nat) : Int)) (b := (vm w : Int)) (t := 271) (pc' := 134) dm_X9_amended_131 rfl rfl (by omega) (fun hb17 => ?_) (fun hb17 => ?_)
                  · refine me1 (pc' := 272) (L' := [(0, .ref 26), (1, .ref p), (2, .ref q), (3, .ref r), (5, zz (decide (vk w ≤ 1 ∨ vk u ≤ 1))), (6, zz s6), (7, zz b7), (8, ii ((i : Nat) : Int))]) (S' := [.ref p]) dm_X9_amended_271 rfl rfl rfl rfl ?_
                    refine me3 (pc' := 275) (S' := [ii (vk v : Int)]) dm_X9_amended_272 (g_get (v := ii (vk v : Int)) (ufl_get hX (by omega) (hl_ne (by omega) hp)) rfl rfl (by omega)) rfl rfl rfl ?_
                    refine me0 (pc' := 277) (S' := [ii 6, ii (vk v : Int)]) dm_X9_amended_275 rfl rfl rfl rfl ?_
                    refine y_2ne (a := (vk v : Int)) (b := 6) (t := 286) (pc' := 280) dm_X9_amended_277 rfl rfl (by omega) (fun hb18 => ?_) (fun hb18 => ?_)
                    · refine me1 (pc' := 288) (L' := [(0, .ref 26), (1, .ref p), (2, .ref q), (3, .ref r), (5, zz (decide (vk w ≤ 1 ∨ vk u ≤ 1))), (6, zz s6), (7, zz b7), (8, ii ((i : Nat) : Int))]) (S' := [zz s6]) dm_X9_amended_286 rfl rfl rfl rfl ?_
                      refine y_zeq (c := s6) (t := 301) (pc' := 291) dm_X9_amended_288 rfl rfl (fun hb19 => ?_) (fun hb19 => ?_)
                      · refine me1 (pc' := 302) (L' := [(0, .ref 26), (1, .ref p), (2, .ref q), (3, .ref r), (5, zz (decide (vk w ≤ 1 ∨ vk u ≤ 1))), (6, zz s6), (7, zz b7), (8, ii ((i : Nat) : Int))]) (S' := [.ref 26]) dm_X9_amended_301 rfl rfl rfl rfl ?_
                        refine me1 (pc' := 303) (L' := [(0, .ref 26), (1, .ref p), (2, .ref q), (3, .ref r), (5, zz (decide (vk w ≤ 1 ∨ vk u ≤ 1))), (6, zz s6), (7, zz b7), (8, ii ((i : Nat) : Int))]) (S' := [.ref p, .ref 26]) dm_X9_amended_302 rfl rfl rfl rfl ?_
                        have hin : i = vm w := by omega
                        have hU9 : putsOK (newA A (h.set 29 (cI 144 P)) hh) hh (e + 1) U2 (vm v) (amP w u) := by have y := hU; rw [hin] at y; exact y
                        have hv9 : cv (newA A (h.set 29 (cI 144 P)) hh) hh (e + 1) p v := ufl_cv hX hA31 (cv_set (nA hA (Or.inl (by decide))) hv)
                        have hs9 : amS v w u (vm w) = false := by rw [← hin, ← hfs]; assumption
                        refine x_cv (pc' := 306) (rest := []) dm_X9_amended_303 rfl (g_inv (As := [.ref p]) (S := []) (ufl_get hX (by decide) (hl_ne (by decide) h26)) rfl rfl rfl (by decide)) rfl rfl rfl (t_amendedNest hx1 (by omega) (by omega) hAh (ufl_get hX (by decide) (hl_ne (by decide) h26)) (ufl_31 hX (by rw [List.length_set]; omega)) hv9 hU9 he hset (fun j g hj hg => by obtain ⟨k, hk, rfl⟩ := amJ_some hg; unfold gvF; by_cases z : vk w ≤ 1 ∨ vk u ≤ 1; (rw [if_pos z]; exact hset3); (rw [if_neg z]; exact vsz_vit (cv_wf hu) hset3 (Or.inr (by omega))))) ?_
                        rintro x h4 hres4
                        obtain ⟨q8, rfl⟩ := ares_ref hres4
                        refine y_ret (r := some (.ref q8)) dm_X9_amended_306 rfl rfl rfl ?_
                        have hbP : allP v w = true := by assumption
                        refine ⟨_, rfl, (h.set 29 (cI 144 P)).set 31 (cA 4 120 U2), scrS_tr hs1 (scrS_set (e' := cA 4 120 U2) (by unfold scr; decide) (hl_ne (by decide) h31) rfl), actH_31 (actH_29 hH _) _, ?_⟩
                        first | (rw [show d_amend v w u = .inr (vrow (rwK v (amP w u) (amB v w u (vm w))) (vm v) (rwn v (amP w u))) by unfold d_amend; rw [if_neg (by omega), if_neg (by omega), if_neg (by rw [hbP]; decide), if_neg (by omega), if_pos hs9]]; exact ares_dup (ares_tr hX (show ares (newA A (h.set 29 (cI 144 P)) hh) hh (e + 1) (.inr _) _ _ _ _ from hres4) (by omega) (by omega))) | (rw [show d_amend v w u = (if 24 < vm v then .inl 8 else .inr (vnest (vm v) (nsn v (amP w u)))) by unfold d_amend; rw [if_neg (by omega), if_neg (by omega), if_neg (by rw [hbP]; decide), if_neg (by omega), if_neg (by rw [hs9]; decide)]]; exact ares_tr hX hres4 (by omega) (by omega))
                      · refine me1 (pc' := 292) (L' := [(0, .ref 26), (1, .ref p), (2, .ref q), (3, .ref r), (5, zz (decide (vk w ≤ 1 ∨ vk u ≤ 1))), (6, zz s6), (7, zz b7), (8, ii ((i : Nat) : Int))]) (S' := [.ref 26]) dm_X9_amended_291 rfl rfl rfl rfl ?_
                        refine me1 (pc' := 293) (L' := [(0, .ref 26), (1, .ref p), (2, .ref q), (3, .ref r), (5, zz (decide (vk w ≤ 1 ∨ vk u ≤ 1))), (6, zz s6), (7, zz b7), (8, ii ((i : Nat) : Int))]) (S' := [.ref p, .ref 26]) dm_X9_amended_292 rfl rfl rfl rfl ?_
                        refine me1 (pc' := 295) (L' := [(0, .ref 26), (1, .ref p), (2, .ref q), (3, .ref r), (5, zz (decide (vk w ≤ 1 ∨ vk u ≤ 1))), (6, zz s6), (7, zz b7), (8, ii ((i : Nat) : Int))]) (S' := [zz b7, .ref p, .ref 26]) dm_X9_amended_293 rfl rfl rfl rfl ?_
                        have hin : i = vm w := by omega
                        have hU9 : putsOK (newA A (h.set 29 (cI 144 P)) hh) hh (e + 1) U2 (vm v) (amP w u) := by have y := hU; rw [hin] at y; exact y
                        have hv9 : cv (newA A (h.set 29 (cI 144 P)) hh) hh (e + 1) p v := ufl_cv hX hA31 (cv_set (nA hA (Or.inl (by decide))) hv)
                        have hs9 : amS v w u (vm w) = true := by rw [← hin, ← hfs]; assumption
                        have hsp := hs9
                        unfold amS at hsp
                        rw [Bool.and_eq_true] at hsp
                        have hsr := of_decide_eq_true hsp.1
                        have hsa := allN_iff.mp hsp.2
                        have hb9 : b7 = amB v w u (vm w) := by rw [← hin]; exact hfb
                        refine x_cv (pc' := 298) (rest := []) dm_X9_amended_295 rfl (g_inv (As := [.ref p, zz b7]) (S := []) (ufl_get hX (by decide) (hl_ne (by decide) h26)) rfl rfl rfl (by decide)) rfl rfl rfl (t_amendedRow (bt := b7) hx1 (by omega) (by omega) hAh (ufl_get hX (by decide) (hl_ne (by decide) h26)) (ufl_31 hX (by rw [List.length_set]; omega)) hv9 hU9 (by omega) (by omega) (fun j g hj hg => by obtain ⟨k, hk, rfl⟩ := amJ_some hg; exact of_decide_eq_true (hsa k hk)) (fun hbt => by rw [hb9] at hbt; unfold amB at hbt; rw [Bool.and_eq_true] at hbt; refine ⟨of_decide_eq_true hbt.1, fun j g hj hg => ?_⟩; obtain ⟨k, hk, rfl⟩ := amJ_some hg; have y := of_decide_eq_true (allN_iff.mp hbt.2 k hk); have x := of_decide_eq_true (hsa k hk); unfold cnum at y; rw [if_pos (by split at x <;> omega)] at y; exact y)) ?_
                        rintro x h4 hres4
                        obtain ⟨q8, rfl⟩ := vres_ref hres4
                        rw [hb9] at hres4
                        refine me2 (pc' := 306) (S' := [.ref q8]) dm_X9_amended_298 rfl rfl rfl ?_
                        refine y_ret (r := some (.ref q8)) dm_X9_amended_306 rfl rfl rfl ?_
                        have hbP : allP v w = true := by assumption
                        refine ⟨_, rfl, (h.set 29 (cI 144 P)).set 31 (cA 4 120 U2), scrS_tr hs1 (scrS_set (e' := cA 4 120 U2) (by unfold scr; decide) (hl_ne (by decide) h31) rfl), actH_31 (actH_29 hH _) _, ?_⟩
                        first | (rw [show d_amend v w u = .inr (vrow (rwK v (amP w u) (amB v w u (vm w))) (vm v) (rwn v (amP w u))) by unfold d_amend; rw [if_neg (by omega), if_neg (by omega), if_neg (by rw [hbP]; decide), if_neg (by omega), if_pos hs9]]; exact ares_dup (ares_tr hX (show ares (newA A (h.set 29 (cI 144 P)) hh) hh (e + 1) (.inr _) _ _ _ _ from hres4) (by omega) (by omega))) | (rw [show d_amend v w u = (if 24 < vm v then .inl 8 else .inr (vnest (vm v) (nsn v (amP w u)))) by unfold d_amend; rw [if_neg (by omega), if_neg (by omega), if_neg (by rw [hbP]; decide), if_neg (by omega), if_neg (by rw [hs9]; decide)]]; exact ares_tr hX hres4 (by omega) (by omega))
                    · refine me1 (pc' := 281) (L' := [(0, .ref 26), (1, .ref p), (2, .ref q), (3, .ref r), (5, zz (decide (vk w ≤ 1 ∨ vk u ≤ 1))), (6, zz s6), (7, zz b7), (8, ii ((i : Nat) : Int))]) (S' := [.ref 26]) dm_X9_amended_280 rfl rfl rfl rfl ?_
                      refine me1 (pc' := 282) (L' := [(0, .ref 26), (1, .ref p), (2, .ref q), (3, .ref r), (5, zz (decide (vk w ≤ 1 ∨ vk u ≤ 1))), (6, zz s6), (7, zz b7), (8, ii ((i : Nat) : Int))]) (S' := [.ref p, .ref 26]) dm_X9_amended_281 rfl rfl rfl rfl ?_
                      have hin : i = vm w := by omega
                      have hU9 : putsOK (newA A (h.set 29 (cI 144 P)) hh) hh (e + 1) U2 (vm v) (amP w u) := by have y := hU; rw [hin] at y; exact y
                      have hv9 : cv (newA A (h.set 29 (cI 144 P)) hh) hh (e + 1) p v := ufl_cv hX hA31 (cv_set (nA hA (Or.inl (by decide))) hv)
                      have hle9 : vk v = 6 → errs (amL v w u) (vm w) = 0 := fun z => by have y := hle z; rw [hin] at y; exact y
                      refine x_cv (pc' := 285) (rest := []) dm_X9_amended_282 rfl (g_inv (As := [.ref p]) (S := []) (ufl_get hX (by decide) (hl_ne (by decide) h26)) rfl rfl rfl (by decide)) rfl rfl rfl (t_amendedTable hx1 (by omega) (by omega) hAh (ufl_get hX (by decide) (hl_ne (by decide) h26)) (ufl_31 hX (by rw [List.length_set]; omega)) hv9 hU9 (by omega) (fun j g hj hg => by obtain ⟨k, hk, rfl⟩ := amJ_some hg; have y := errs_all (hle9 (by omega)) k hk; unfold amL at y; omega)) ?_
                      rintro x h4 hres4
                      obtain ⟨q8, rfl⟩ := vres_ref hres4
                      refine y_ret (r := some (.ref q8)) dm_X9_amended_285 rfl rfl rfl ?_
                      have hbP : allP v w = true := by assumption
                      refine ⟨_, rfl, (h.set 29 (cI 144 P)).set 31 (cA 4 120 U2), scrS_tr hs1 (scrS_set (e' := cA 4 120 U2) (by unfold scr; decide) (hl_ne (by decide) h31) rfl), actH_31 (actH_29 hH _) _, ?_⟩
                      rw [show d_amend v w u = .inr (vtab (vm v) (vc v) (tbn v (amP w u))) by unfold d_amend; rw [if_neg (by omega), if_neg (by omega), if_neg (by rw [hbP]; decide), if_pos (by omega), if_neg (by rw [hle9 (by omega)]; decide)]]
                      exact ares_dup (ares_tr hX (show ares (newA A (h.set 29 (cI 144 P)) hh) hh (e + 1) (.inr _) _ _ _ _ from hres4) (by omega) (by omega))
                  · have jn149 : ∀ (h3 : mj_H) (q3 : Nat), vres (newA A (h.set 29 (cI 144 P)) hh) hh (e + 1) (gvF w u i) 1 9 (.ref q3) h3 → pgE xt (d - 1) 9 11 false (Option.some (Jvm.ClassFile.FieldType.object "ArrayCalculator$Value")) (mj_dec prog_11_method_16_code) 149 [(0, .ref 26), (1, .ref p), (2, .ref q), (3, .ref r), (5, zz (decide (vk w ≤ 1 ∨ vk u ≤ 1))), (6, zz s6), (7, zz b7), (8, ii ((i : Nat) : Int))] [.ref q3] h3 (fun r h' => ∃ x, r = some x ∧ aact A h (e + 2) (d_amend v w u) (vm w + vm v + 2) (9 * vm w + 10 * vm v + vq v + 9) x h') := by
                      intro h3 q3 hres
                      obtain ⟨row4, fr4, vals4, hq3, hq32, hq3A, hgk, hgm, hgc, hgs, hgl⟩ := cv_valE (vres_cv hres)
                      have hps := puts_s (pl := plw w i) hX hA31 (by rw [List.length_set]; omega) hU hres
                      have hpi := hPl i (by omega)
                      have hl39 := vres_len hres
                      have hq3n : q3 ≠ 31 := by have y := okA_new hAh (by omega) (vres_len hres) q3 hq3A; omega
                      refine me1 (pc' := 151) (L' := [(9, .ref q3), (0, .ref 26), (1, .ref p), (2, .ref q), (3, .ref r), (5, zz (decide (vk w ≤ 1 ∨ vk u ≤ 1))), (6, zz s6), (7, zz b7), (8, ii ((i : Nat) : Int))]) (S' := []) dm_X9_amended_149 rfl rfl rfl rfl ?_
                      obtain ⟨lnq, hlnq⟩ : ∃ z : Int, z = (if vk v = 6 then amL v w u i else 0) := ⟨_, rfl⟩
                      have hlr : 0 ≤ lnq ∧ lnq ≤ 6 := by rw [hlnq]; split; (unfold amL lnA; split; omega; split; omega; split; omega; split <;> omega); omega
                      have jn173 : pgE xt (d - 1) 9 11 false (Option.some (Jvm.ClassFile.FieldType.object "ArrayCalculator$Value")) (mj_dec prog_11_method_16_code) 173 [(9, .ref q3), (0, .ref 26), (1, .ref p), (2, .ref q), (3, .ref r), (5, zz (decide (vk w ≤ 1 ∨ vk u ≤ 1))), (6, zz s6), (7, zz b7), (8, ii ((i : Nat) : Int))] [ii lnq] h3 (fun r h' => ∃ x, r = some x ∧ aact A h (e + 2) (d_amend v w u) (vm w + vm v + 2) (9 * vm w + 10 * vm v + vq v + 9) x h') := by
                        refine me1 (pc' := 175) (L' := [(10, ii lnq), (9, .ref q3), (0, .ref 26), (1, .ref p), (2, .ref q), (3, .ref r), (5, zz (decide (vk w ≤ 1 ∨ vk u ≤ 1))), (6, zz s6), (7, zz b7), (8, ii ((i : Nat) : Int))]) (S' := []) dm_X9_amended_173 rfl rfl rfl rfl ?_
                        refine me1 (pc' := 177) (L' := [(10, ii lnq), (9, .ref q3), (0, .ref 26), (1, .ref p), (2, .ref q), (3, .ref r), (5, zz (decide (vk w ≤ 1 ∨ vk u ≤ 1))), (6, zz s6), (7, zz b7), (8, ii ((i : Nat) : Int))]) (S' := [ii lnq]) dm_X9_amended_175 rfl rfl rfl rfl ?_
                        refine y_1eq (a := lnq) (t := 186) (pc' := 180) dm_X9_amended_177 rfl rfl (by omega) (fun hb20 => ?_) (fun hb20 => ?_)
                        · have hb_ := hb20
                          refine me1 (pc' := 187) (L' := [(10, ii lnq), (9, .ref q3), (0, .ref 26), (1, .ref p), (2, .ref q), (3, .ref r), (5, zz (decide (vk w ≤ 1 ∨ vk u ≤ 1))), (6, zz s6), (7, zz b7), (8, ii ((i : Nat) : Int))]) (S' := [.ref 26]) dm_X9_amended_186 rfl rfl rfl rfl ?_
                          refine me3 (pc' := 190) (S' := [.ref 31]) dm_X9_amended_187 (g_get (v := .ref 31) (vres_get hres (ufl_get hX (by decide) (hl_ne (by decide) h26))) rfl rfl (by decide)) rfl rfl rfl ?_
                          refine me1 (pc' := 191) (L' := [(10, ii lnq), (9, .ref q3), (0, .ref 26), (1, .ref p), (2, .ref q), (3, .ref r), (5, zz (decide (vk w ≤ 1 ∨ vk u ≤ 1))), (6, zz s6), (7, zz b7), (8, ii ((i : Nat) : Int))]) (S' := [.ref 26, .ref 31]) dm_X9_amended_190 rfl rfl rfl rfl ?_
                          refine me3 (pc' := 194) (S' := [.ref 29, .ref 31]) dm_X9_amended_191 (g_get (v := .ref 29) (vres_get hres (ufl_get hX (by decide) (hl_ne (by decide) h26))) rfl rfl (by decide)) rfl rfl rfl ?_
                          refine me1 (pc' := 196) (L' := [(10, ii lnq), (9, .ref q3), (0, .ref 26), (1, .ref p), (2, .ref q), (3, .ref r), (5, zz (decide (vk w ≤ 1 ∨ vk u ≤ 1))), (6, zz s6), (7, zz b7), (8, ii ((i : Nat) : Int))]) (S' := [ii ((i : Nat) : Int), .ref 29, .ref 31]) dm_X9_amended_194 rfl rfl rfl rfl ?_
                          refine me3 (pc' := 197) (S' := [ii (P i), .ref 31]) dm_X9_amended_196 (yh_iald (v := P i) (vres_get hres (ufl_get hX (by decide) (hl_set (hl_lt h29)))) (by omega) (by omega) (by omega) (by decide) rfl) rfl rfl rfl ?_
                          refine pg_st0 (S' := [ii ((plw w i : Nat) : Int), .ref 31]) (congrArg (fun z => ii z :: [.ref 31]) (hpi.1)) ?_
                          refine me1 (pc' := 199) (L' := [(10, ii lnq), (9, .ref q3), (0, .ref 26), (1, .ref p), (2, .ref q), (3, .ref r), (5, zz (decide (vk w ≤ 1 ∨ vk u ≤ 1))), (6, zz s6), (7, zz b7), (8, ii ((i : Nat) : Int))]) (S' := [.ref q3, ii ((plw w i : Nat) : Int), .ref 31]) dm_X9_amended_197 rfl rfl rfl rfl ?_
                          refine me3 (pc' := 200) (S' := []) (h1 := (h3).set 31 (cA 4 120 (va_up U2 (plw w i) (some q3)))) dm_X9_amended_199 (yh_aasr (j := ((plw w i : Nat) : Int)) rfl (vres_get hres (ufl_31 hX (by rw [List.length_set]; omega))) hq3 (by omega) (by omega) (by omega) (by omega) (by decide)) rfl rfl rfl ?_
                          have jn231 : pgE xt (d - 1) 9 11 false (Option.some (Jvm.ClassFile.FieldType.object "ArrayCalculator$Value")) (mj_dec prog_11_method_16_code) 231 [(10, ii lnq), (9, .ref q3), (0, .ref 26), (1, .ref p), (2, .ref q), (3, .ref r), (5, zz (decide (vk w ≤ 1 ∨ vk u ≤ 1))), (6, zz s6), (7, zz b7), (8, ii ((i : Nat) : Int))] [zz (s6 && decide (vk (gvF w u i) = if vk v = 3 then 1 else 0))] ((h3).set 31 (cA 4 120 (va_up U2 (plw w i) (some q3)))) (fun r h' => ∃ x, r = some x ∧ aact A h (e + 2) (d_amend v w u) (vm w + vm v + 2) (9 * vm w + 10 * vm v + vq v + 9) x h') := by
                            refine me1 (pc' := 233) (L' := [(6, zz (s6 && decide (vk (gvF w u i) = if vk v = 3 then 1 else 0))), (10, ii lnq), (9, .ref q3), (0, .ref 26), (1, .ref p), (2, .ref q), (3, .ref r), (5, zz (decide (vk w ≤ 1 ∨ vk u ≤ 1))), (7, zz b7), (8, ii ((i : Nat) : Int))]) (S' := []) dm_X9_amended_231 rfl rfl rfl rfl ?_
                            have jn263 : pgE xt (d - 1) 9 11 false (Option.some (Jvm.ClassFile.FieldType.object "ArrayCalculator$Value")) (mj_dec prog_11_method_16_code) 263 [(6, zz (s6 && decide (vk (gvF w u i) = if vk v = 3 then 1 else 0))), (10, ii lnq), (9, .ref q3), (0, .ref 26), (1, .ref p), (2, .ref q), (3, .ref r), (5, zz (decide (vk w ≤ 1 ∨ vk u ≤ 1))), (7, zz b7), (8, ii ((i : Nat) : Int))] [zz (b7 && decide (cnum (gvF w u i) = 0 ∨ cnum (gvF w u i) = 1))] ((h3).set 31 (cA 4 120 (va_up U2 (plw w i) (some q3)))) (fun r h' => ∃ x, r = some x ∧ aact A h (e + 2) (d_amend v w u) (vm w + vm v + 2) (9 * vm w + 10 * vm v + vq v + 9) x h') := by
                              refine me1 (pc' := 265) (L' := [(7, zz (b7 && decide (cnum (gvF w u i) = 0 ∨ cnum (gvF w u i) = 1))), (6, zz (s6 && decide (vk (gvF w u i) = if vk v = 3 then 1 else 0))), (10, ii lnq), (9, .ref q3), (0, .ref 26), (1, .ref p), (2, .ref q), (3, .ref r), (5, zz (decide (vk w ≤ 1 ∨ vk u ≤ 1))), (8, ii ((i : Nat) : Int))]) (S' := []) dm_X9_amended_263 rfl rfl rfl rfl ?_
                              refine y_iinc (pc' := 268) (L' := [(8, ii (((i : Nat) : Int) + 1)), (7, zz (b7 && decide (cnum (gvF w u i) = 0 ∨ cnum (gvF w u i) = 1))), (6, zz (s6 && decide (vk (gvF w u i) = if vk v = 3 then 1 else 0))), (10, ii lnq), (9, .ref q3), (0, .ref 26), (1, .ref p), (2, .ref q), (3, .ref r), (5, zz (decide (vk w ≤ 1 ∨ vk u ≤ 1)))]) dm_X9_amended_265 (y_incp (a := ((i : Nat) : Int)) (c := 1) rfl rfl (by decide)) rfl ?_
                              refine me2 (pc' := 125) (S' := []) dm_X9_amended_268 rfl rfl rfl ?_
                              exact pg_sub (L := [(0, .ref 26), (1, .ref p), (2, .ref q), (3, .ref r), (5, zz (decide (vk w ≤ 1 ∨ vk u ≤ 1))), (6, zz (s6 && decide (vk (gvF w u i) = if vk v = 3 then 1 else 0))), (7, zz (b7 && decide (cnum (gvF w u i) = 0 ∨ cnum (gvF w u i) = 1))), (8, ii (((i + 1) : Nat) : Int))]) rfl rfl rfl (ih125 (vm w - (i + 1)) (by omega) (i + 1) ((h3).set 31 (cA 4 120 (va_up U2 (plw w i) (some q3)))) (va_up U2 (plw w i) (some q3)) (s6 && decide (vk (gvF w u i) = if vk v = 3 then 1 else 0)) (b7 && decide (cnum (gvF w u i) = 0 ∨ cnum (gvF w u i) = 1)) rfl (by omega) hps.1 (puts_congr hps.2 (fun j hj => amJ_s.symm)) (by rw [amS_s, ← hfs]) (by rw [amB_s, ← hfb]) (fun z => by rw [errs_s0 (hle z)]; rw [hlnq, if_pos z] at hb_; exact hb_))
                            refine me1 (pc' := 235) (L' := [(6, zz (s6 && decide (vk (gvF w u i) = if vk v = 3 then 1 else 0))), (10, ii lnq), (9, .ref q3), (0, .ref 26), (1, .ref p), (2, .ref q), (3, .ref r), (5, zz (decide (vk w ≤ 1 ∨ vk u ≤ 1))), (7, zz b7), (8, ii ((i : Nat) : Int))]) (S' := [zz b7]) dm_X9_amended_233 rfl rfl rfl rfl ?_
                            refine y_zeq (c := b7) (t := 262) (pc' := 238) dm_X9_amended_235 rfl rfl (fun hb21 => ?_) (fun hb21 => ?_)
                            · refine me0 (pc' := 263) (S' := [ii 0]) dm_X9_amended_262 rfl rfl rfl rfl ?_
                              exact pg_st0 (S' := [zz (b7 && decide (cnum (gvF w u i) = 0 ∨ cnum (gvF w u i) = 1))]) (congrArg (fun z => z :: []) (zz_f (by first | (rw [show b7 = false by assumption]; rfl) | (rw [decide_eq_false (show ¬ (cnum (gvF w u i) = 0 ∨ cnum (gvF w u i) = 1) from fun z => z.elim (by assumption) (by assumption)), Bool.and_false])))) jn263
                            · refine me1 (pc' := 240) (L' := [(6, zz (s6 && decide (vk (gvF w u i) = if vk v = 3 then 1 else 0))), (10, ii lnq), (9, .ref q3), (0, .ref 26), (1, .ref p), (2, .ref q), (3, .ref r), (5, zz (decide (vk w ≤ 1 ∨ vk u ≤ 1))), (7, zz b7), (8, ii ((i : Nat) : Int))]) (S' := [.ref q3]) dm_X9_amended_238 rfl rfl rfl rfl ?_
                              refine me3 (pc' := 243) (S' := [.long (cnum (gvF w u i))]) dm_X9_amended_240 (g_get (v := .long (cnum (gvF w u i))) (hl_ne (by omega) hq3) rfl rfl (by omega)) rfl rfl rfl ?_
                              refine me0 (pc' := 244) (S' := [.long (Int64.ofInt 0), .long (cnum (gvF w u i))]) dm_X9_amended_243 rfl rfl rfl rfl ?_
                              refine y_leq (x := cnum (gvF w u i)) (y := Int64.ofInt 0) (t := 258) (pc1 := 245) (pc' := 248) dm_X9_amended_244 rfl dm_X9_amended_245 rfl rfl (fun hb22 => ?_) (fun hb22 => ?_)
                              · rw [e0] at hb22
                                refine me0 (pc' := 259) (S' := [ii 1]) dm_X9_amended_258 rfl rfl rfl rfl ?_
                                refine me2 (pc' := 263) (S' := [ii 1]) dm_X9_amended_259 rfl rfl rfl ?_
                                exact pg_st0 (S' := [zz (b7 && decide (cnum (gvF w u i) = 0 ∨ cnum (gvF w u i) = 1))]) (congrArg (fun z => z :: []) (zz_t (by rw [hb21, decide_eq_true (show cnum (gvF w u i) = 0 ∨ cnum (gvF w u i) = 1 by first | exact Or.inl (by assumption) | exact Or.inr (by assumption))]; rfl))) jn263
                              · rw [e0] at hb22
                                refine me1 (pc' := 250) (L' := [(6, zz (s6 && decide (vk (gvF w u i) = if vk v = 3 then 1 else 0))), (10, ii lnq), (9, .ref q3), (0, .ref 26), (1, .ref p), (2, .ref q), (3, .ref r), (5, zz (decide (vk w ≤ 1 ∨ vk u ≤ 1))), (7, zz b7), (8, ii ((i : Nat) : Int))]) (S' := [.ref q3]) dm_X9_amended_248 rfl rfl rfl rfl ?_
                                refine me3 (pc' := 253) (S' := [.long (cnum (gvF w u i))]) dm_X9_amended_250 (g_get (v := .long (cnum (gvF w u i))) (hl_ne (by omega) hq3) rfl rfl (by omega)) rfl rfl rfl ?_
                                refine me0 (pc' := 254) (S' := [.long (Int64.ofInt 1), .long (cnum (gvF w u i))]) dm_X9_amended_253 rfl rfl rfl rfl ?_
                                refine y_lne (x := cnum (gvF w u i)) (y := Int64.ofInt 1) (t := 262) (pc1 := 255) (pc' := 258) dm_X9_amended_254 rfl dm_X9_amended_255 rfl rfl (fun hb23 => ?_) (fun hb23 => ?_)
                                · rw [e1] at hb23
                                  refine me0 (pc' := 263) (S' := [ii 0]) dm_X9_amended_262 rfl rfl rfl rfl ?_
                                  exact pg_st0 (S' := [zz (b7 && decide (cnum (gvF w u i) = 0 ∨ cnum (gvF w u i) = 1))]) (congrArg (fun z => z :: []) (zz_f (by first | (rw [show b7 = false by assumption]; rfl) | (rw [decide_eq_false (show ¬ (cnum (gvF w u i) = 0 ∨ cnum (gvF w u i) = 1) from fun z => z.elim (by assumption) (by assumption)), Bool.and_false])))) jn263
                                · rw [e1] at hb23
                                  refine me0 (pc' := 259) (S' := [ii 1]) dm_X9_amended_258 rfl rfl rfl rfl ?_
                                  refine me2 (pc' := 263) (S' := [ii 1]) dm_X9_amended_259 rfl rfl rfl ?_
                                  exact pg_st0 (S' := [zz (b7 && decide (cnum (gvF w u i) = 0 ∨ cnum (gvF w u i) = 1))]) (congrArg (fun z => z :: []) (zz_t (by rw [hb21, decide_eq_true (show cnum (gvF w u i) = 0 ∨ cnum (gvF w u i) = 1 by first | exact Or.inl (by assumption) | exact Or.inr (by assumption))]; rfl))) jn263
                          refine me1 (pc' := 202) (L' := [(10, ii lnq), (9, .ref q3), (0, .ref 26), (1, .ref p), (2, .ref q), (3, .ref r), (5, zz (decide (vk w ≤ 1 ∨ vk u ≤ 1))), (6, zz s6), (7, zz b7), (8, ii ((i : Nat) : Int))]) (S' := [zz s6]) dm_X9_amended_200 rfl rfl rfl rfl ?_
                          refine y_zeq (c := s6) (t := 230) (pc' := 205) dm_X9_amended_202 rfl rfl (fun hb24 => ?_) (fun hb24 => ?_)
                          · refine me0 (pc' := 231) (S' := [ii 0]) dm_X9_amended_230 rfl rfl rfl rfl ?_
                            exact pg_st0 (S' := [zz (s6 && decide (vk (gvF w u i) = if vk v = 3 then 1 else 0))]) (congrArg (fun z => z :: []) (zz_f (by first | (rw [show s6 = false by assumption]; rfl) | (rw [decide_eq_false (show ¬ vk (gvF w u i) = if vk v = 3 then 1 else 0 by first | (rw [if_pos (by omega)]; omega) | (rw [if_neg (by omega)]; omega)), Bool.and_false])))) jn231
                          · refine me1 (pc' := 207) (L' := [(10, ii lnq), (9, .ref q3), (0, .ref 26), (1, .ref p), (2, .ref q), (3, .ref r), (5, zz (decide (vk w ≤ 1 ∨ vk u ≤ 1))), (6, zz s6), (7, zz b7), (8, ii ((i : Nat) : Int))]) (S' := [.ref q3]) dm_X9_amended_205 rfl rfl rfl rfl ?_
                            refine me3 (pc' := 210) (S' := [ii (vk (gvF w u i) : Int)]) dm_X9_amended_207 (g_get (v := ii (vk (gvF w u i) : Int)) (hl_ne (by omega) hq3) rfl rfl (by omega)) rfl rfl rfl ?_
                            refine me1 (pc' := 211) (L' := [(10, ii lnq), (9, .ref q3), (0, .ref 26), (1, .ref p), (2, .ref q), (3, .ref r), (5, zz (decide (vk w ≤ 1 ∨ vk u ≤ 1))), (6, zz s6), (7, zz b7), (8, ii ((i : Nat) : Int))]) (S' := [.ref p, ii (vk (gvF w u i) : Int)]) dm_X9_amended_210 rfl rfl rfl rfl ?_
                            refine me3 (pc' := 214) (S' := [ii (vk v : Int), ii (vk (gvF w u i) : Int)]) dm_X9_amended_211 (g_get (v := ii (vk v : Int)) (hl_ne (by omega) (vres_get hres (ufl_get hX (by omega) (hl_ne (by omega) hp)))) rfl rfl (by omega)) rfl rfl rfl ?_
                            refine me0 (pc' := 215) (S' := [ii 3, ii (vk v : Int), ii (vk (gvF w u i) : Int)]) dm_X9_amended_214 rfl rfl rfl rfl ?_
                            refine y_2ne (a := (vk v : Int)) (b := 3) (t := 222) (pc' := 218) dm_X9_amended_215 rfl rfl (by omega) (fun hb25 => ?_) (fun hb25 => ?_)
                            · refine me0 (pc' := 223) (S' := [ii 0, ii (vk (gvF w u i) : Int)]) dm_X9_amended_222 rfl rfl rfl rfl ?_
                              refine y_2ne (a := (vk (gvF w u i) : Int)) (b := 0) (t := 230) (pc' := 226) dm_X9_amended_223 rfl rfl (by omega) (fun hb26 => ?_) (fun hb26 => ?_)
                              · refine me0 (pc' := 231) (S' := [ii 0]) dm_X9_amended_230 rfl rfl rfl rfl ?_
                                exact pg_st0 (S' := [zz (s6 && decide (vk (gvF w u i) = if vk v = 3 then 1 else 0))]) (congrArg (fun z => z :: []) (zz_f (by first | (rw [show s6 = false by assumption]; rfl) | (rw [decide_eq_false (show ¬ vk (gvF w u i) = if vk v = 3 then 1 else 0 by first | (rw [if_pos (by omega)]; omega) | (rw [if_neg (by omega)]; omega)), Bool.and_false])))) jn231
                              · refine me0 (pc' := 227) (S' := [ii 1]) dm_X9_amended_226 rfl rfl rfl rfl ?_
                                refine me2 (pc' := 231) (S' := [ii 1]) dm_X9_amended_227 rfl rfl rfl ?_
                                exact pg_st0 (S' := [zz (s6 && decide (vk (gvF w u i) = if vk v = 3 then 1 else 0))]) (congrArg (fun z => z :: []) (zz_t (by rw [hb24, decide_eq_true (show vk (gvF w u i) = if vk v = 3 then 1 else 0 by first | (rw [if_pos (by omega)]; omega) | (rw [if_neg (by omega)]; omega))]; rfl))) jn231
                            · refine me0 (pc' := 219) (S' := [ii 1, ii (vk (gvF w u i) : Int)]) dm_X9_amended_218 rfl rfl rfl rfl ?_
                              refine me2 (pc' := 223) (S' := [ii 1, ii (vk (gvF w u i) : Int)]) dm_X9_amended_219 rfl rfl rfl ?_
                              refine y_2ne (a := (vk (gvF w u i) : Int)) (b := 1) (t := 230) (pc' := 226) dm_X9_amended_223 rfl rfl (by omega) (fun hb27 => ?_) (fun hb27 => ?_)
                              · refine me0 (pc' := 231) (S' := [ii 0]) dm_X9_amended_230 rfl rfl rfl rfl ?_
                                exact pg_st0 (S' := [zz (s6 && decide (vk (gvF w u i) = if vk v = 3 then 1 else 0))]) (congrArg (fun z => z :: []) (zz_f (by first | (rw [show s6 = false by assumption]; rfl) | (rw [decide_eq_false (show ¬ vk (gvF w u i) = if vk v = 3 then 1 else 0 by first | (rw [if_pos (by omega)]; omega) | (rw [if_neg (by omega)]; omega)), Bool.and_false])))) jn231
                              · refine me0 (pc' := 227) (S' := [ii 1]) dm_X9_amended_226 rfl rfl rfl rfl ?_
                                refine me2 (pc' := 231) (S' := [ii 1]) dm_X9_amended_227 rfl rfl rfl ?_
                                exact pg_st0 (S' := [zz (s6 && decide (vk (gvF w u i) = if vk v = 3 then 1 else 0))]) (congrArg (fun z => z :: []) (zz_t (by rw [hb24, decide_eq_true (show vk (gvF w u i) = if vk v = 3 then 1 else 0 by first | (rw [if_pos (by omega)]; omega) | (rw [if_neg (by omega)]; omega))]; rfl))) jn231
                        · refine me1 (pc' := 182) (L' := [(10, ii lnq), (9, .ref q3), (0, .ref 26), (1, .ref p), (2, .ref q), (3, .ref r), (5, zz (decide (vk w ≤ 1 ∨ vk u ≤ 1))), (6, zz s6), (7, zz b7), (8, ii ((i : Nat) : Int))]) (S' := [ii lnq]) dm_X9_amended_180 rfl rfl rfl rfl ?_
                          refine x_cv (pc' := 185) (rest := []) dm_X9_amended_182 rfl (g_invs (As := [ii lnq]) (S := []) rfl rfl rfl) rfl rfl rfl (c_fault (q := h3.length) (by omega) (by omega) rfl (by omega)) ?_
                          rintro _ _ ⟨rfl, rfl⟩
                          refine y_ret (r := some (.ref h3.length)) dm_X9_amended_185 rfl rfl rfl ?_
                          have hv6 : vk v = 6 := by by_cases z : vk v = 6; exact z; (rw [if_neg z] at hlnq; omega)
                          have hbP : allP v w = true := by assumption
                          refine ⟨_, rfl, (h.set 29 (cI 144 P)).set 31 (cA 4 120 U2), scrS_tr hs1 (scrS_set (e' := cA 4 120 U2) (by unfold scr; decide) (hl_ne (by decide) h31) rfl), actH_31 (actH_29 hH _) _, ?_⟩
                          rw [if_pos hv6] at hlnq
                          have hee : errs (amL v w u) (vm w) = lnq := by have y := errs_s0 (hle hv6); rw [← hlnq] at y; have x := errs_mono (g := amL v w u) (k := i + 1) (by omega) (vm w - (i + 1)); rw [show i + 1 + (vm w - (i + 1)) = vm w by omega] at x; omega
                          rw [show d_amend v w u = .inl lnq.toNat by unfold d_amend; rw [if_neg (by omega), if_neg (by omega), if_neg (by rw [hbP]; decide), if_pos hv6, if_pos (by omega), hee]]
                          refine ares_tr hX (ares_inl_tr hres (B := A) (a := 1) (b := 9) ?_) (by omega) (by omega)
                          have hl3 : hh.length ≤ h3.length := vres_len hres
                          have hfz := ares_f (A := A) (h := h3) (e := e + 2) (a := 1) (b := 9) lnq.toNat (by omega) (by omega) (by omega)
                          rw [show ((lnq.toNat : Nat) : Int) = lnq by omega] at hfz
                          exact hfz
                      refine me1 (pc' := 152) (L' := [(9, .ref q3), (0, .ref 26), (1, .ref p), (2, .ref q), (3, .ref r), (5, zz (decide (vk w ≤ 1 ∨ vk u ≤ 1))), (6, zz s6), (7, zz b7), (8, ii ((i : Nat) : Int))]) (S' := [.ref p]) dm_X9_amended_151 rfl rfl rfl rfl ?_
                      refine me3 (pc' := 155) (S' := [ii (vk v : Int)]) dm_X9_amended_152 (g_get (v := ii (vk v : Int)) (vres_get hres (ufl_get hX (by omega) (hl_ne (by omega) hp))) rfl rfl (by omega)) rfl rfl rfl ?_
                      refine me0 (pc' := 157) (S' := [ii 6, ii (vk v : Int)]) dm_X9_amended_155 rfl rfl rfl rfl ?_
                      refine y_2ne (a := (vk v : Int)) (b := 6) (t := 172) (pc' := 160) dm_X9_amended_157 rfl rfl (by omega) (fun hb28 => ?_) (fun hb28 => ?_)
                      · refine me0 (pc' := 173) (S' := [ii 0]) dm_X9_amended_172 rfl rfl rfl rfl ?_
                        exact pg_st0 (S' := [ii lnq]) (congrArg (fun z => ii z :: []) (by rw [hlnq]; first | (rw [if_pos (by omega)]; rfl) | rw [if_neg (by omega)])) jn173
                      · refine me1 (pc' := 162) (L' := [(9, .ref q3), (0, .ref 26), (1, .ref p), (2, .ref q), (3, .ref r), (5, zz (decide (vk w ≤ 1 ∨ vk u ≤ 1))), (6, zz s6), (7, zz b7), (8, ii ((i : Nat) : Int))]) (S' := [.ref q3]) dm_X9_amended_160 rfl rfl rfl rfl ?_
                        refine me1 (pc' := 163) (L' := [(9, .ref q3), (0, .ref 26), (1, .ref p), (2, .ref q), (3, .ref r), (5, zz (decide (vk w ≤ 1 ∨ vk u ≤ 1))), (6, zz s6), (7, zz b7), (8, ii ((i : Nat) : Int))]) (S' := [.ref p, .ref q3]) dm_X9_amended_162 rfl rfl rfl rfl ?_
                        refine me3 (pc' := 166) (S' := [ii (vc v : Int), .ref q3]) dm_X9_amended_163 (g_get (v := ii (vc v : Int)) (vres_get hres (ufl_get hX (by omega) (hl_ne (by omega) hp))) rfl rfl (by omega)) rfl rfl rfl ?_
                        refine x_cp (pc' := 169) (v := ii (lnA (gvF w u i) (vc v) : Int)) (rest := []) dm_X9_amended_166 rfl (g_invs (As := [.ref q3, ii (vc v : Int)]) (S := []) rfl rfl rfl) rfl rfl rfl (t_lineAsked hx1 (by omega) (vres_cv hres) (by omega)) ?_
                        refine me2 (pc' := 173) (S' := [ii (lnA (gvF w u i) (vc v) : Int)]) dm_X9_amended_169 rfl rfl rfl ?_
                        exact pg_st0 (S' := [ii lnq]) (congrArg (fun z => ii z :: []) (by rw [hlnq]; first | (rw [if_pos (by omega)]; rfl) | rw [if_neg (by omega)])) jn173
                    refine me1 (pc' := 136) (L' := [(0, .ref 26), (1, .ref p), (2, .ref q), (3, .ref r), (5, zz (decide (vk w ≤ 1 ∨ vk u ≤ 1))), (6, zz s6), (7, zz b7), (8, ii ((i : Nat) : Int))]) (S' := [zz (decide (vk w ≤ 1 ∨ vk u ≤ 1))]) dm_X9_amended_134 rfl rfl rfl rfl ?_
                    refine y_zeq (c := decide (vk w ≤ 1 ∨ vk u ≤ 1)) (t := 143) (pc' := 139) dm_X9_amended_136 rfl rfl (fun hb29 => ?_) (fun hb29 => ?_)
                    · replace hb29 := dF hb29
                      refine me1 (pc' := 144) (L' := [(0, .ref 26), (1, .ref p), (2, .ref q), (3, .ref r), (5, zz (decide (vk w ≤ 1 ∨ vk u ≤ 1))), (6, zz s6), (7, zz b7), (8, ii ((i : Nat) : Int))]) (S' := [.ref r]) dm_X9_amended_143 rfl rfl rfl rfl ?_
                      refine me1 (pc' := 146) (L' := [(0, .ref 26), (1, .ref p), (2, .ref q), (3, .ref r), (5, zz (decide (vk w ≤ 1 ∨ vk u ≤ 1))), (6, zz s6), (7, zz b7), (8, ii ((i : Nat) : Int))]) (S' := [ii ((i : Nat) : Int), .ref r]) dm_X9_amended_144 rfl rfl rfl rfl ?_
                      refine x_cv (pc' := 149) (rest := []) dm_X9_amended_146 rfl (g_inv (As := [ii ((i : Nat) : Int)]) (S := []) (ufl_get hX (by omega) (hl_ne (by omega) hr)) rfl rfl rfl (by omega)) rfl rfl rfl ((show pgV xt (d - 1) _ _ _ (vres (newA A (h.set 29 (cI 144 P)) hh) hh (e + 1) (gvF w u i) 1 9) from gvF_2 (w := w) (u := u) (k := i) (by assumption) ▸ c_itemAt hx1 (by omega) (by omega) (ufl_cv hX hA31 (cv_set (nA hA (Or.inl (by decide))) hu)) (Or.inr (by omega)) (by omega))) ?_
                      rintro x h3 hres
                      obtain ⟨q3, rfl⟩ := vres_ref hres
                      exact jn149 _ _ hres
                    · replace hb29 := dT hb29
                      refine me1 (pc' := 140) (L' := [(0, .ref 26), (1, .ref p), (2, .ref q), (3, .ref r), (5, zz (decide (vk w ≤ 1 ∨ vk u ≤ 1))), (6, zz s6), (7, zz b7), (8, ii ((i : Nat) : Int))]) (S' := [.ref r]) dm_X9_amended_139 rfl rfl rfl rfl ?_
                      refine me2 (pc' := 149) (S' := [.ref r]) dm_X9_amended_140 rfl rfl rfl ?_
                      exact jn149 hh r (by rw [gvF_1 (w := w) (u := u) (k := i) (by assumption)]; exact vres_same (ufl_cv hX hA31 (cv_set (nA hA (Or.inl (by decide))) hu)))
              exact pg_sub (L := [(0, .ref 26), (1, .ref p), (2, .ref q), (3, .ref r), (5, zz (decide (vk w ≤ 1 ∨ vk u ≤ 1))), (6, zz (decide (2 ≤ vk v ∧ vk v ≤ 5))), (7, zz (decide (vk v = 2))), (8, ii ((0 : Nat) : Int))]) rfl rfl rfl (lp125 _ 0 (((h).set 29 (cI 144 P)).set 31 (cA 4 120 U)) U (decide (2 ≤ vk v ∧ vk v ≤ 5)) (decide (vk v = 2)) rfl (Nat.zero_le _) ⟨[], (List.append_nil _).symm, Nat.le_refl _, Nat.le_refl _⟩ (fun j hj => Or.inl ⟨rfl, hU0 j (by omega)⟩) (by unfold amS; show _ = (_ && true); rw [Bool.and_true]) (by unfold amB; show _ = (_ && true); rw [Bool.and_true]) (fun _ => rfl))
          · refine me1 (pc' := 88) (L' := [(0, .ref 26), (1, .ref p), (2, .ref q), (3, .ref r), (5, zz (decide (vk w ≤ 1 ∨ vk u ≤ 1))), (6, ii ((k : Nat) : Int))]) (S' := [.ref 26]) dm_X9_amended_87 rfl rfl rfl rfl ?_
            refine me3 (pc' := 91) (S' := [.ref 31]) dm_X9_amended_88 (g_get (v := .ref 31) (hl_ne (by decide) (hl_ne (by decide) h26)) rfl rfl (by decide)) rfl rfl rfl ?_
            refine me1 (pc' := 93) (L' := [(0, .ref 26), (1, .ref p), (2, .ref q), (3, .ref r), (5, zz (decide (vk w ≤ 1 ∨ vk u ≤ 1))), (6, ii ((k : Nat) : Int))]) (S' := [ii ((k : Nat) : Int), .ref 31]) dm_X9_amended_91 rfl rfl rfl rfl ?_
            refine me0 (pc' := 94) (S' := [.null, ii ((k : Nat) : Int), .ref 31]) dm_X9_amended_93 rfl rfl rfl rfl ?_
            refine me3 (pc' := 95) (S' := []) (h1 := ((h).set 29 (cI 144 P)).set 31 (cA 4 120 (va_up U k none))) dm_X9_amended_94 (y_hs (yh_aasn (j := ((k : Nat) : Int)) rfl (hl_set (hl_lt (hl_ne (by decide) h31))) (by omega) (by omega) (by omega) (by decide)) (by rw [show ((k : Nat) : Int).toNat = k from rfl]; rw [List.set_set])) rfl rfl rfl ?_
            refine y_iinc (pc' := 98) (L' := [(6, ii (((k : Nat) : Int) + 1)), (0, .ref 26), (1, .ref p), (2, .ref q), (3, .ref r), (5, zz (decide (vk w ≤ 1 ∨ vk u ≤ 1)))]) dm_X9_amended_95 (y_incp (a := ((k : Nat) : Int)) (c := 1) rfl rfl (by decide)) rfl ?_
            refine me2 (pc' := 78) (S' := []) dm_X9_amended_98 rfl rfl rfl ?_
            exact pg_sub (L := [(0, .ref 26), (1, .ref p), (2, .ref q), (3, .ref r), (5, zz (decide (vk w ≤ 1 ∨ vk u ≤ 1))), (6, ii (((k + 1) : Nat) : Int))]) rfl rfl rfl (ih78 (vm v - (k + 1)) (by omega) (k + 1) (va_up U k none) rfl (by omega) (fun j hj => by rw [up_at]; by_cases z : j = k; (rw [if_pos z]); (rw [if_neg z]; exact hU0 j (by omega))))
      refine pg_cast (h2 := ((h).set 29 (cI 144 P)).set 31 (cA 4 120 uf0)) (hl_self (hl_ne (by decide) h31)).symm ?_
      exact pg_sub (L := [(0, .ref 26), (1, .ref p), (2, .ref q), (3, .ref r), (5, zz (decide (vk w ≤ 1 ∨ vk u ≤ 1))), (6, ii ((0 : Nat) : Int))]) rfl rfl rfl (lp78 _ 0 uf0 rfl (Nat.zero_le _) (fun j hj => absurd hj (Nat.not_lt_zero j)))
    · refine me0 (pc' := 71) (S' := [ii 7]) dm_X9_amended_69 rfl rfl rfl rfl ?_
      refine x_cv (pc' := 74) (rest := []) dm_X9_amended_71 rfl (g_invs (As := [ii 7]) (S := []) rfl rfl rfl) rfl rfl rfl (c_fault (q := h.length) (by omega) (by simp; omega) (by simp) (by omega)) ?_
      rintro _ _ ⟨rfl, rfl⟩
      refine y_ret (r := some (.ref h.length)) dm_X9_amended_74 rfl rfl rfl ?_
      refine ⟨_, rfl, (h.set 29 (cI 144 P)), hs1, actH_29 hH _, ?_⟩
      rw [show d_amend v w u = .inl 7 by unfold d_amend; rw [if_neg (by omega), if_neg (by omega), if_pos (by assumption)]]
      exact ares_fq 7 hs1.1 (by rw [hs1.1]; omega) (by omega) (by omega)
  have cut39 : (askP v w = 0) → pgE xt (d - 1) 9 11 false (Option.some (Jvm.ClassFile.FieldType.object "ArrayCalculator$Value")) (mj_dec prog_11_method_16_code) 39 [(0, .ref 26), (1, .ref p), (2, .ref q), (3, .ref r), (5, zz (decide (vk w ≤ 1 ∨ vk u ≤ 1)))] [] h (fun r h' => ∃ x, r = some x ∧ aact A h (e + 2) (d_amend v w u) (vm w + vm v + 2) (9 * vm w + 10 * vm v + vq v + 9) x h') := by
    intro hask
    refine me1 (pc' := 41) (L' := [(0, .ref 26), (1, .ref p), (2, .ref q), (3, .ref r), (5, zz (decide (vk w ≤ 1 ∨ vk u ≤ 1)))]) (S' := [zz (decide (vk w ≤ 1 ∨ vk u ≤ 1))]) dm_X9_amended_39 rfl rfl rfl rfl ?_
    refine y_zne (c := decide (vk w ≤ 1 ∨ vk u ≤ 1)) (t := 60) (pc' := 44) dm_X9_amended_41 rfl rfl (fun hb30 => ?_) (fun hb30 => ?_)
    · replace hb30 := dT hb30
      exact pg_sub (L := [(0, .ref 26), (1, .ref p), (2, .ref q), (3, .ref r), (5, zz (decide (vk w ≤ 1 ∨ vk u ≤ 1)))]) rfl rfl rfl (cut60 hask (by omega))
    · replace hb30 := dF hb30
      refine me1 (pc' := 45) (L' := [(0, .ref 26), (1, .ref p), (2, .ref q), (3, .ref r), (5, zz (decide (vk w ≤ 1 ∨ vk u ≤ 1)))]) (S' := [.ref q]) dm_X9_amended_44 rfl rfl rfl rfl ?_
      refine me3 (pc' := 48) (S' := [ii (vm w : Int)]) dm_X9_amended_45 (g_get (v := ii (vm w : Int)) hq rfl rfl (by omega)) rfl rfl rfl ?_
      refine me1 (pc' := 49) (L' := [(0, .ref 26), (1, .ref p), (2, .ref q), (3, .ref r), (5, zz (decide (vk w ≤ 1 ∨ vk u ≤ 1)))]) (S' := [.ref r, ii (vm w : Int)]) dm_X9_amended_48 rfl rfl rfl rfl ?_
      refine me3 (pc' := 52) (S' := [ii (vm u : Int), ii (vm w : Int)]) dm_X9_amended_49 (g_get (v := ii (vm u : Int)) hr rfl rfl (by omega)) rfl rfl rfl ?_
      refine y_2eq (a := (vm w : Int)) (b := (vm u : Int)) (t := 60) (pc' := 55) dm_X9_amended_52 rfl rfl (by omega) (fun hb31 => ?_) (fun hb31 => ?_)
      · exact pg_sub (L := [(0, .ref 26), (1, .ref p), (2, .ref q), (3, .ref r), (5, zz (decide (vk w ≤ 1 ∨ vk u ≤ 1)))]) rfl rfl rfl (cut60 hask (by omega))
      · refine me0 (pc' := 56) (S' := [ii 4]) dm_X9_amended_55 rfl rfl rfl rfl ?_
        refine x_cv (pc' := 59) (rest := []) dm_X9_amended_56 rfl (g_invs (As := [ii 4]) (S := []) rfl rfl rfl) rfl rfl rfl (c_fault (q := h.length) (by omega) (by omega) rfl (by omega)) ?_
        rintro _ _ ⟨rfl, rfl⟩
        refine y_ret (r := some (.ref h.length)) dm_X9_amended_59 rfl rfl rfl ?_
        exact ⟨_, rfl, h, scrS_rf h, hH, by rw [show d_amend v w u = .inl 4 by unfold d_amend; rw [if_neg (by omega), if_pos (by omega)]]; exact ares_f _ (by omega) (by omega) (by omega)⟩
  refine me1 (pc' := 1) (L' := [(0, .ref 26), (1, .ref p), (2, .ref q), (3, .ref r)]) (S' := [.ref p]) dm_X9_amended_0 rfl rfl rfl rfl ?_
  refine me1 (pc' := 2) (L' := [(0, .ref 26), (1, .ref p), (2, .ref q), (3, .ref r)]) (S' := [.ref q, .ref p]) dm_X9_amended_1 rfl rfl rfl rfl ?_
  refine x_cp (pc' := 5) (v := ii (askP v w : Int)) (rest := []) dm_X9_amended_2 rfl (g_invs (As := [.ref p, .ref q]) (S := []) rfl rfl rfl) rfl rfl rfl (t_placesAsked (by omega) hv hw) ?_
  refine me1 (pc' := 7) (L' := [(4, ii (askP v w : Int)), (0, .ref 26), (1, .ref p), (2, .ref q), (3, .ref r)]) (S' := []) dm_X9_amended_5 rfl rfl rfl rfl ?_
  refine me1 (pc' := 9) (L' := [(4, ii (askP v w : Int)), (0, .ref 26), (1, .ref p), (2, .ref q), (3, .ref r)]) (S' := [ii (askP v w : Int)]) dm_X9_amended_7 rfl rfl rfl rfl ?_
  refine y_1eq (a := (askP v w : Int)) (t := 18) (pc' := 12) dm_X9_amended_9 rfl rfl (by omega) (fun hb32 => ?_) (fun hb32 => ?_)
  · refine me1 (pc' := 19) (L' := [(4, ii (askP v w : Int)), (0, .ref 26), (1, .ref p), (2, .ref q), (3, .ref r)]) (S' := [.ref q]) dm_X9_amended_18 rfl rfl rfl rfl ?_
    refine x_cp (pc' := 22) (v := zz (decide (vk w ≤ 1))) (rest := []) dm_X9_amended_19 rfl (g_inv (As := []) (S := []) hq rfl rfl rfl (by omega)) rfl rfl rfl (c_isOne (by omega) hw) ?_
    refine y_zne (c := decide (vk w ≤ 1)) (t := 32) (pc' := 25) dm_X9_amended_22 rfl rfl (fun hb33 => ?_) (fun hb33 => ?_)
    · replace hb33 := dT hb33
      refine me0 (pc' := 33) (S' := [ii 1]) dm_X9_amended_32 rfl rfl rfl rfl ?_
      refine me2 (pc' := 37) (S' := [ii 1]) dm_X9_amended_33 rfl rfl rfl ?_
      refine pg_st0 (S' := [zz (decide (vk w ≤ 1 ∨ vk u ≤ 1))]) (congrArg (fun z => z :: []) (zt (by omega))) ?_
      refine me1 (pc' := 39) (L' := [(5, zz (decide (vk w ≤ 1 ∨ vk u ≤ 1))), (4, ii (askP v w : Int)), (0, .ref 26), (1, .ref p), (2, .ref q), (3, .ref r)]) (S' := []) dm_X9_amended_37 rfl rfl rfl rfl ?_
      exact pg_sub (L := [(0, .ref 26), (1, .ref p), (2, .ref q), (3, .ref r), (5, zz (decide (vk w ≤ 1 ∨ vk u ≤ 1)))]) rfl rfl rfl (cut39 (by omega))
    · replace hb33 := dF hb33
      refine me1 (pc' := 26) (L' := [(4, ii (askP v w : Int)), (0, .ref 26), (1, .ref p), (2, .ref q), (3, .ref r)]) (S' := [.ref r]) dm_X9_amended_25 rfl rfl rfl rfl ?_
      refine x_cp (pc' := 29) (v := zz (decide (vk u ≤ 1))) (rest := []) dm_X9_amended_26 rfl (g_inv (As := []) (S := []) hr rfl rfl rfl (by omega)) rfl rfl rfl (c_isOne (by omega) hu) ?_
      refine y_zeq (c := decide (vk u ≤ 1)) (t := 36) (pc' := 32) dm_X9_amended_29 rfl rfl (fun hb34 => ?_) (fun hb34 => ?_)
      · replace hb34 := dF hb34
        refine me0 (pc' := 37) (S' := [ii 0]) dm_X9_amended_36 rfl rfl rfl rfl ?_
        refine pg_st0 (S' := [zz (decide (vk w ≤ 1 ∨ vk u ≤ 1))]) (congrArg (fun z => z :: []) (zf (by omega))) ?_
        refine me1 (pc' := 39) (L' := [(5, zz (decide (vk w ≤ 1 ∨ vk u ≤ 1))), (4, ii (askP v w : Int)), (0, .ref 26), (1, .ref p), (2, .ref q), (3, .ref r)]) (S' := []) dm_X9_amended_37 rfl rfl rfl rfl ?_
        exact pg_sub (L := [(0, .ref 26), (1, .ref p), (2, .ref q), (3, .ref r), (5, zz (decide (vk w ≤ 1 ∨ vk u ≤ 1)))]) rfl rfl rfl (cut39 (by omega))
      · replace hb34 := dT hb34
        refine me0 (pc' := 33) (S' := [ii 1]) dm_X9_amended_32 rfl rfl rfl rfl ?_
        refine me2 (pc' := 37) (S' := [ii 1]) dm_X9_amended_33 rfl rfl rfl ?_
        refine pg_st0 (S' := [zz (decide (vk w ≤ 1 ∨ vk u ≤ 1))]) (congrArg (fun z => z :: []) (zt (by omega))) ?_
        refine me1 (pc' := 39) (L' := [(5, zz (decide (vk w ≤ 1 ∨ vk u ≤ 1))), (4, ii (askP v w : Int)), (0, .ref 26), (1, .ref p), (2, .ref q), (3, .ref r)]) (S' := []) dm_X9_amended_37 rfl rfl rfl rfl ?_
        exact pg_sub (L := [(0, .ref 26), (1, .ref p), (2, .ref q), (3, .ref r), (5, zz (decide (vk w ≤ 1 ∨ vk u ≤ 1)))]) rfl rfl rfl (cut39 (by omega))
  · refine me1 (pc' := 14) (L' := [(4, ii (askP v w : Int)), (0, .ref 26), (1, .ref p), (2, .ref q), (3, .ref r)]) (S' := [ii (askP v w : Int)]) dm_X9_amended_12 rfl rfl rfl rfl ?_
    refine x_cv (pc' := 17) (rest := []) dm_X9_amended_14 rfl (g_invs (As := [ii (askP v w : Int)]) (S := []) rfl rfl rfl) rfl rfl rfl (c_fault (q := h.length) (by omega) (by omega) rfl (by omega)) ?_
    rintro _ _ ⟨rfl, rfl⟩
    refine y_ret (r := some (.ref h.length)) dm_X9_amended_17 rfl rfl rfl ?_
    exact ⟨_, rfl, h, scrS_rf h, hH, by rw [show d_amend v w u = .inl (askP v w) by unfold d_amend; rw [if_pos (by omega)]]; exact ares_f _ (by omega) (by omega) (by omega)⟩
