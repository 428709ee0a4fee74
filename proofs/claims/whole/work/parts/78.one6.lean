/-! the class OneAct: numbers that stand one behind the other -/
/-- slots that an answer may take: an error's cell, or a flat value's with its row -/
def rsl (o : Nat ⊕ VV) : Nat := match o with
  | .inl _ => 9
  | .inr w => vq w + 9
theorem y_prh {xt : mj_X} {d own nL : Nat} {ini : Bool} {ret : Option FieldType} {cf : Nat → Option (Instr × Nat)} {pc pc' x : Nat} {L : mj_L} {S S' : List Value} {h h1 : mj_H} {P : Option Value → mj_H → Prop} {op n c : Nat} (hc : cf pc = some (.invokestatic x, 3)) (hm : (mj_TTof pg_TL own).2 x = some (4, op, n, c)) (hs : mj_pr pg_tl 2 op S h = some (S', h1)) (hd : 0 < d) (hp : pc + 3 = pc') (k : pgE xt d own nL ini ret cf pc' L S' h1 P) : pgE xt d own nL ini ret cf pc L S h P := by
  refine me4p (S' := S') (h1 := h1) hc ?_ hd rfl rfl hp k
  show (match (mj_TTof pg_TL own).2 x with
    | some (4, op, _, _) => mj_pr pg_tl 2 op S h
    | _ => none) = _
  rw [hm]
  exact hs
theorem p_acopy {S : List Value} {h h1 : mj_H} {a b n n0 n1 : Nat} {f g : Nat → Int64} (hb : h[b]? = some (cJ n0 f)) (ha : h[a]? = some (cJ n1 g)) (h2a : 2 ≤ a) (h2b : 2 ≤ b) (hn : n ≤ n0) (hn1 : n ≤ n1) (hr : n ≤ 1000000) (hm : mj_room S = true) (he : h.set a (cJ n1 (va_cpy f g 0 0 n)) = h1) : mj_pr pg_tl 2 6 (ii (n : Int) :: ii 0 :: .ref a :: ii 0 :: .ref b :: S) h = some (S, h1) := by
  have e1 : (Int32.ofInt (n : Int)).toNatClampNeg = n := by rw [n_cl (a := (n : Int)) (by omega) (by omega)]; omega
  have e0 : (Int32.ofInt 0).toNatClampNeg = 0 := by decide
  have hlt : ¬ Int32.ofInt (n : Int) < 0 := by
    rw [Int32.lt_iff_toInt_lt, n_to (by omega) (by omega)]
    exact Int.not_lt.mpr (Int.natCast_nonneg n)
  have h0lt : ¬ Int32.ofInt 0 < 0 := by decide
  show (match h[b]?, h[a]? with
    | some (.inl (t0, n0, .inr (.inl f))), some (.inl (t1, n1, .inr (.inl g))) => if mj_room S = true ∧ 2 ≤ a ∧ 2 ≤ b ∧ t0 = 1 ∧ t1 = 1 ∧ ((pg_tl : List (FieldType × Nat))[1]?).map (fun q : FieldType × Nat => q.1) = some FieldType.long ∧ ¬ Int32.ofInt 0 < 0 ∧ ¬ Int32.ofInt 0 < 0 ∧ ¬ Int32.ofInt (n : Int) < 0 ∧ (Int32.ofInt 0).toNatClampNeg + (Int32.ofInt (n : Int)).toNatClampNeg ≤ n0 ∧ (Int32.ofInt 0).toNatClampNeg + (Int32.ofInt (n : Int)).toNatClampNeg ≤ n1 then some (S, h.set a (.inl (t1, n1, .inr (.inl (va_cpy f g (Int32.ofInt 0).toNatClampNeg (Int32.ofInt 0).toNatClampNeg (Int32.ofInt (n : Int)).toNatClampNeg))))) else none
    | _, _ => none) = _
  rw [hb, ha]
  dsimp only
  rw [if_pos ⟨hm, h2a, h2b, rfl, rfl, rfl, h0lt, h0lt, hlt, by rw [e0, e1]; omega, by rw [e0, e1]; omega⟩, e0, e1, he]
theorem cpy_at {f g : Nat → Int64} {n j : Nat} (h : j < n) : va_cpy f g 0 0 n j = f j := by
  unfold va_cpy
  rw [if_pos (by omega)]
  congr 1
  omega
/-- &: how many numbers, and which -/
def whF (f : Nat → Int64) : Nat → Nat ⊕ (Nat × (Nat → Nat))
  | 0 => .inr (0, fun _ => 0)
  | k + 1 => match whF f k with
    | .inl c => .inl c
    | .inr (n, g) => if (f k).toInt < 0 then .inl 5 else if 120 - (n : Int) < (f k).toInt then .inl 8 else .inr (n + (f k).toInt.toNat, fun j => if n ≤ j then k else g j)
theorem whF_e {f : Nat → Int64} {k c m : Nat} (h : whF f k = .inl c) (hm : k ≤ m) : whF f m = .inl c := by
  induction m with
  | zero => rw [show k = 0 by omega] at h; exact h
  | succ m ih =>
    by_cases z : k = m + 1
    · rw [← z]; exact h
    · unfold whF
      rw [ih (by omega)]
theorem whF_5 {f : Nat → Int64} {k n m : Nat} {g : Nat → Nat} (h : whF f k = .inr (n, g)) (h0 : (f k).toInt < 0) (hm : k < m) : whF f m = .inl 5 := by
  refine whF_e (k := k + 1) ?_ hm
  unfold whF
  rw [h]
  dsimp only
  rw [if_pos h0]
theorem whF_8 {f : Nat → Int64} {k n m : Nat} {g : Nat → Nat} (h : whF f k = .inr (n, g)) (h0 : 0 ≤ (f k).toInt) (h1 : 120 - (n : Int) < (f k).toInt) (hm : k < m) : whF f m = .inl 8 := by
  refine whF_e (k := k + 1) ?_ hm
  unfold whF
  rw [h]
  dsimp only
  rw [if_neg (by omega), if_pos h1]
theorem whF_s {f : Nat → Int64} {k n : Nat} {g : Nat → Nat} (h : whF f k = .inr (n, g)) (h0 : 0 ≤ (f k).toInt) (h1 : (f k).toInt ≤ 120 - (n : Int)) : whF f (k + 1) = .inr (n + (f k).toInt.toNat, fun j => if n ≤ j then k else g j) := by
  conv => lhs; unfold whF
  rw [h]
  dsimp only
  rw [if_neg (by omega), if_neg (by omega)]
theorem whF_le {f : Nat → Int64} {k : Nat} : ∀ {n : Nat} {g : Nat → Nat}, whF f k = .inr (n, g) → n ≤ 120 ∧ ∀ j, j < n → g j < k := by
  induction k with
  | zero =>
    intro n g h
    have h1 := Sum.inr.inj h
    have h2 := (Prod.mk.inj h1).1
    exact ⟨by omega, fun j hj => by omega⟩
  | succ k ih =>
    intro n g h
    unfold whF at h
    cases hk : whF f k with
    | inl c => rw [hk] at h; cases h
    | inr q =>
      obtain ⟨n0, g0⟩ := q
      rw [hk] at h
      dsimp only at h
      obtain ⟨i1, i2⟩ := ih hk
      by_cases a : (f k).toInt < 0
      · rw [if_pos a] at h; cases h
      · rw [if_neg a] at h
        by_cases b : 120 - (n0 : Int) < (f k).toInt
        · rw [if_pos b] at h; cases h
        · rw [if_neg b] at h
          obtain ⟨r1, r2⟩ := Prod.mk.inj (Sum.inr.inj h)
          refine ⟨by omega, fun j hj => ?_⟩
          rw [← r2]
          dsimp only
          by_cases c : n0 ≤ j
          · rw [if_pos c]; omega
          · rw [if_neg c]
            have := i2 j (by omega)
            omega
def m_where (v : VV) : Nat ⊕ VV := if 2 ≤ vk v ∧ vk v ≤ 5 then (if vk v = 3 then .inl 5 else match whF (vn v) (vm v) with
  | .inl c => .inl c
  | .inr (n, g) => .inr (vrow 4 n (fun j => Int64.ofInt (g j : Int)))) else .inl 3
theorem m_where_e {v : VV} {c : Nat} (h1 : 2 ≤ vk v ∧ vk v ≤ 5) (h3 : vk v ≠ 3) (h : whF (vn v) (vm v) = .inl c) : m_where v = .inl c := by
  unfold m_where
  rw [if_pos h1, if_neg h3, h]
theorem m_where_r {v : VV} {n : Nat} {g : Nat → Nat} (h1 : 2 ≤ vk v ∧ vk v ≤ 5) (h3 : vk v ≠ 3) (h : whF (vn v) (vm v) = .inr (n, g)) : m_where v = .inr (vrow 4 n (fun j => Int64.ofInt (g j : Int))) := by
  unfold m_where
  rw [if_pos h1, if_neg h3, h]
theorem fits_n {n : Nat} (h : n ≤ 1000) : fits (Int64.ofInt (n : Int)) := by
  unfold fits
  rw [n_toL (by omega) (by omega)]
  omega
/-- a new array and a row of it, behind a heap of the same length -/
theorem vres_flatL {A : Nat → Prop} {h : mj_H} {e n a b L : Nat} {f : Nat → Int64} {w : VV} (hL : h.length = L) (hl : 127 ≤ L) (hw : vw1 w) (hk : 2 ≤ vk w) (hk6 : vk w ≤ 6) (hq : vq w = n) (hf : ∀ k, k < n → f k = vn w k) (ha : 2 ≤ a) (hb9 : n + 9 ≤ b) : vres A h (e + 1) w a b (.ref (L + 1)) ((h ++ [cJ n f]) ++ [cVal (vk w : Int) 0 L 0 (vm w : Int) (vc w : Int)]) := by
  subst hL
  exact vres_flat hl hw hk hk6 hq hf ha hb9
theorem vres_rowL {A : Nat → Prop} {h : mj_H} {e n a b L k : Nat} {f g : Nat → Int64} {kk : Int} (hL : h.length = L) (hl : 127 ≤ L) (hk : 3 ≤ k) (hk6 : k ≤ 5) (hn : n ≤ 120) (hkk : kk = (k : Int)) (hf : ∀ j, j < n → f j = g j) (ha : 2 ≤ a) (hb9 : n + 9 ≤ b) : vres A h (e + 1) (vrow k n g) a b (.ref (L + 1)) ((h ++ [cJ n f]) ++ [cVal kk 0 L 0 (n : Int) 0]) := by
  subst hkk
  exact vres_flatL (w := vrow k n g) hL hl (vw1_row hk hk6 hn) (by show 2 ≤ k; omega) (by show k ≤ 6; omega) (vq_row hk6) hf ha hb9
theorem rsl_row {k n : Nat} {g : Nat → Int64} (hk : k ≤ 5) : n + 9 ≤ rsl (.inr (vrow k n g)) := by
  show n + 9 ≤ vq (vrow k n g) + 9
  rw [vq_row hk]
  omega
set_option maxRecDepth 20000 in
theorem pm_J7_copyOf_c38d5 : mj_mmof pg_ms 101 = some ((⟨"java/util/Arrays", "copyOf", "([JI)[J"⟩, prog_23_method_124_code, 3, (Option.some (Jvm.ClassFile.FieldType.array Jvm.ClassFile.FieldType.long))), 15, false, mj_dec prog_23_method_124_code) := rfl
theorem dm_J7_copyOf_c38d5_0 : mj_dec prog_23_method_124_code 0 = some (.iload_n 1, 1) := by decide +kernel
theorem dm_J7_copyOf_c38d5_1 : mj_dec prog_23_method_124_code 1 = some (.aload_n 0, 1) := by decide +kernel
theorem dm_J7_copyOf_c38d5_2 : mj_dec prog_23_method_124_code 2 = some (.arraylength, 1) := by decide +kernel
theorem dm_J7_copyOf_c38d5_3 : mj_dec prog_23_method_124_code 3 = some (.if_icmp .ne 11, 3) := by decide +kernel
theorem dm_J7_copyOf_c38d5_14 : mj_dec prog_23_method_124_code 14 = some (.iload_n 1, 1) := by decide +kernel
theorem dm_J7_copyOf_c38d5_15 : mj_dec prog_23_method_124_code 15 = some (.newarray .long, 2) := by decide +kernel
theorem dm_J7_copyOf_c38d5_17 : mj_dec prog_23_method_124_code 17 = some (.astore_n 2, 1) := by decide +kernel
theorem dm_J7_copyOf_c38d5_18 : mj_dec prog_23_method_124_code 18 = some (.aload_n 0, 1) := by decide +kernel
theorem dm_J7_copyOf_c38d5_19 : mj_dec prog_23_method_124_code 19 = some (.iconst 0, 1) := by decide +kernel
theorem dm_J7_copyOf_c38d5_20 : mj_dec prog_23_method_124_code 20 = some (.aload_n 2, 1) := by decide +kernel
theorem dm_J7_copyOf_c38d5_21 : mj_dec prog_23_method_124_code 21 = some (.iconst 0, 1) := by decide +kernel
theorem dm_J7_copyOf_c38d5_22 : mj_dec prog_23_method_124_code 22 = some (.aload_n 0, 1) := by decide +kernel
theorem dm_J7_copyOf_c38d5_23 : mj_dec prog_23_method_124_code 23 = some (.arraylength, 1) := by decide +kernel
theorem dm_J7_copyOf_c38d5_24 : mj_dec prog_23_method_124_code 24 = some (.iload_n 1, 1) := by decide +kernel
theorem dm_J7_copyOf_c38d5_25 : mj_dec prog_23_method_124_code 25 = some (.invokestatic 304, 3) := by decide +kernel
theorem dm_J7_copyOf_c38d5_28 : mj_dec prog_23_method_124_code 28 = some (.invokestatic 150, 3) := by decide +kernel
theorem dm_J7_copyOf_c38d5_31 : mj_dec prog_23_method_124_code 31 = some (.aload_n 2, 1) := by decide +kernel
theorem dm_J7_copyOf_c38d5_32 : mj_dec prog_23_method_124_code 32 = some (.areturn, 1) := by decide +kernel
theorem j_copyOf {xt : mj_X} {d b n n0 q : Nat} {h : mj_H} {f : Nat → Int64} (hd : 2 ≤ d) (hl : 2 ≤ h.length) (hq : h.length = q) (hb_ : h[b]? = some (cJ n0 f)) (hb2 : 2 ≤ b) (hn : n < n0) (hn0 : n0 ≤ 1000) : pgV xt d 101 [.ref b, ii (n : Int)] h (fun x h' => x = .ref q ∧ h' = h ++ [cJ n (va_cpy f (fun _ => 0) 0 0 n)]) := by
  subst hq
  refine x_enter pm_J7_copyOf_c38d5 (L0 := [(0, .ref b), (1, ii (n : Int))]) rfl (Nat.le_of_ble_eq_true rfl) (by omega) ?_
  refine me1 (pc' := 1) (L' := [(0, .ref b), (1, ii (n : Int))]) (S' := [ii (n : Int)]) dm_J7_copyOf_c38d5_0 rfl rfl rfl rfl ?_
  refine me1 (pc' := 2) (L' := [(0, .ref b), (1, ii (n : Int))]) (S' := [.ref b, ii (n : Int)]) dm_J7_copyOf_c38d5_1 rfl rfl rfl rfl ?_
  refine me3 (pc' := 3) (S' := [ii n0, ii (n : Int)]) dm_J7_copyOf_c38d5_2 (yh_len (n := n0) rfl hb_ (by omega)) rfl rfl rfl ?_
  refine y_2ne (a := (n : Int)) (b := n0) (t := 14) (pc' := 6) dm_J7_copyOf_c38d5_3 rfl rfl (by omega) (fun hb1 => ?_) (fun hb1 => ?_)
  · refine me1 (pc' := 15) (L' := [(0, .ref b), (1, ii (n : Int))]) (S' := [ii (n : Int)]) dm_J7_copyOf_c38d5_14 rfl rfl rfl rfl ?_
    refine me3 (pc' := 17) (S' := [.ref h.length]) (h1 := h ++ [cJ n (fun _ => 0)]) dm_J7_copyOf_c38d5_15 (yh_newJ (by omega) (by omega) (by omega) rfl) rfl rfl rfl ?_
    refine me1 (pc' := 18) (L' := [(2, .ref h.length), (0, .ref b), (1, ii (n : Int))]) (S' := []) dm_J7_copyOf_c38d5_17 rfl rfl rfl rfl ?_
    refine me1 (pc' := 19) (L' := [(2, .ref h.length), (0, .ref b), (1, ii (n : Int))]) (S' := [.ref b]) dm_J7_copyOf_c38d5_18 rfl rfl rfl rfl ?_
    refine me0 (pc' := 20) (S' := [ii 0, .ref b]) dm_J7_copyOf_c38d5_19 rfl rfl rfl rfl ?_
    refine me1 (pc' := 21) (L' := [(2, .ref h.length), (0, .ref b), (1, ii (n : Int))]) (S' := [.ref h.length, ii 0, .ref b]) dm_J7_copyOf_c38d5_20 rfl rfl rfl rfl ?_
    refine me0 (pc' := 22) (S' := [ii 0, .ref h.length, ii 0, .ref b]) dm_J7_copyOf_c38d5_21 rfl rfl rfl rfl ?_
    refine me1 (pc' := 23) (L' := [(2, .ref h.length), (0, .ref b), (1, ii (n : Int))]) (S' := [.ref b, ii 0, .ref h.length, ii 0, .ref b]) dm_J7_copyOf_c38d5_22 rfl rfl rfl rfl ?_
    refine me3 (pc' := 24) (S' := [ii n0, ii 0, .ref h.length, ii 0, .ref b]) dm_J7_copyOf_c38d5_23 (yh_len (n := n0) rfl (hl_app hb_) (by omega)) rfl rfl rfl ?_
    refine me1 (pc' := 25) (L' := [(2, .ref h.length), (0, .ref b), (1, ii (n : Int))]) (S' := [ii (n : Int), ii n0, ii 0, .ref h.length, ii 0, .ref b]) dm_J7_copyOf_c38d5_24 rfl rfl rfl rfl ?_
    refine y_pr (i := .iadd) (pc' := 28) (S' := [ii (min n0 (n : Int)), ii 0, .ref h.length, ii 0, .ref b]) dm_J7_copyOf_c38d5_25 rfl (p_imin (by omega) (by omega) (by omega) (by omega) rfl) (by omega) rfl ?_
    refine pg_st0 (S' := [ii (n : Int), ii 0, .ref h.length, ii 0, .ref b]) (congrArg (fun z => ii z :: [ii 0, .ref h.length, ii 0, .ref b]) (by omega)) ?_
    refine y_prh (pc' := 31) (S' := []) (h1 := h ++ [cJ n (va_cpy f (fun _ => 0) 0 0 n)]) dm_J7_copyOf_c38d5_28 rfl (p_acopy (n := n) (hl_app hb_) hl_new (by omega) (by omega) (by omega) (by omega) (by omega) rfl (hl_setl)) (by omega) rfl ?_
    refine me1 (pc' := 32) (L' := [(2, .ref h.length), (0, .ref b), (1, ii (n : Int))]) (S' := [.ref h.length]) dm_J7_copyOf_c38d5_31 rfl rfl rfl rfl ?_
    refine y_ret (r := some (.ref h.length)) dm_J7_copyOf_c38d5_32 rfl rfl rfl ?_
    exact ⟨_, rfl, rfl, rfl⟩
  · exfalso; omega
set_option maxRecDepth 20000 in
theorem pm_X3_where : mj_mmof pg_ms 111 = some ((⟨"ArrayCalculator$OneAct", "where", "(LArrayCalculator$Value;)LArrayCalculator$Value;"⟩, prog_5_method_4_code, 7, (Option.some (Jvm.ClassFile.FieldType.object "ArrayCalculator$Value"))), 3, false, mj_dec prog_5_method_4_code) := rfl
theorem dm_X3_where_0 : mj_dec prog_5_method_4_code 0 = some (.aload_n 1, 1) := by decide +kernel
theorem dm_X3_where_1 : mj_dec prog_5_method_4_code 1 = some (.invokevirtual 126, 3) := by decide +kernel
theorem dm_X3_where_4 : mj_dec prog_5_method_4_code 4 = some (.ifCond .ne 8, 3) := by decide +kernel
theorem dm_X3_where_7 : mj_dec prog_5_method_4_code 7 = some (.iconst 3, 1) := by decide +kernel
theorem dm_X3_where_8 : mj_dec prog_5_method_4_code 8 = some (.invokestatic 68, 3) := by decide +kernel
theorem dm_X3_where_11 : mj_dec prog_5_method_4_code 11 = some (.areturn, 1) := by decide +kernel
theorem dm_X3_where_12 : mj_dec prog_5_method_4_code 12 = some (.aload_n 1, 1) := by decide +kernel
theorem dm_X3_where_13 : mj_dec prog_5_method_4_code 13 = some (.getfield 45, 3) := by decide +kernel
theorem dm_X3_where_16 : mj_dec prog_5_method_4_code 16 = some (.iconst 3, 1) := by decide +kernel
theorem dm_X3_where_17 : mj_dec prog_5_method_4_code 17 = some (.if_icmp .ne 8, 3) := by decide +kernel
theorem dm_X3_where_20 : mj_dec prog_5_method_4_code 20 = some (.iconst 5, 1) := by decide +kernel
theorem dm_X3_where_21 : mj_dec prog_5_method_4_code 21 = some (.invokestatic 68, 3) := by decide +kernel
theorem dm_X3_where_24 : mj_dec prog_5_method_4_code 24 = some (.areturn, 1) := by decide +kernel
theorem dm_X3_where_25 : mj_dec prog_5_method_4_code 25 = some (.iconst 0, 1) := by decide +kernel
theorem dm_X3_where_26 : mj_dec prog_5_method_4_code 26 = some (.istore_n 2, 1) := by decide +kernel
theorem dm_X3_where_27 : mj_dec prog_5_method_4_code 27 = some (.iconst 0, 1) := by decide +kernel
theorem dm_X3_where_28 : mj_dec prog_5_method_4_code 28 = some (.istore_n 3, 1) := by decide +kernel
theorem dm_X3_where_29 : mj_dec prog_5_method_4_code 29 = some (.iload_n 3, 1) := by decide +kernel
theorem dm_X3_where_30 : mj_dec prog_5_method_4_code 30 = some (.aload_n 1, 1) := by decide +kernel
theorem dm_X3_where_31 : mj_dec prog_5_method_4_code 31 = some (.getfield 76, 3) := by decide +kernel
theorem dm_X3_where_34 : mj_dec prog_5_method_4_code 34 = some (.if_icmp .ge 74, 3) := by decide +kernel
theorem dm_X3_where_37 : mj_dec prog_5_method_4_code 37 = some (.aload_n 1, 1) := by decide +kernel
theorem dm_X3_where_38 : mj_dec prog_5_method_4_code 38 = some (.iload_n 3, 1) := by decide +kernel
theorem dm_X3_where_39 : mj_dec prog_5_method_4_code 39 = some (.invokevirtual 118, 3) := by decide +kernel
theorem dm_X3_where_42 : mj_dec prog_5_method_4_code 42 = some (.lstore 4, 2) := by decide +kernel
theorem dm_X3_where_44 : mj_dec prog_5_method_4_code 44 = some (.lload 4, 2) := by decide +kernel
theorem dm_X3_where_46 : mj_dec prog_5_method_4_code 46 = some (.lconst 0, 1) := by decide +kernel
theorem dm_X3_where_47 : mj_dec prog_5_method_4_code 47 = some (.lcmp, 1) := by decide +kernel
theorem dm_X3_where_48 : mj_dec prog_5_method_4_code 48 = some (.ifCond .ge 8, 3) := by decide +kernel
theorem dm_X3_where_51 : mj_dec prog_5_method_4_code 51 = some (.iconst 5, 1) := by decide +kernel
theorem dm_X3_where_52 : mj_dec prog_5_method_4_code 52 = some (.invokestatic 68, 3) := by decide +kernel
theorem dm_X3_where_55 : mj_dec prog_5_method_4_code 55 = some (.areturn, 1) := by decide +kernel
theorem dm_X3_where_56 : mj_dec prog_5_method_4_code 56 = some (.lload 4, 2) := by decide +kernel
theorem dm_X3_where_58 : mj_dec prog_5_method_4_code 58 = some (.bipush 120, 2) := by decide +kernel
theorem dm_X3_where_60 : mj_dec prog_5_method_4_code 60 = some (.iload_n 2, 1) := by decide +kernel
theorem dm_X3_where_61 : mj_dec prog_5_method_4_code 61 = some (.isub, 1) := by decide +kernel
theorem dm_X3_where_62 : mj_dec prog_5_method_4_code 62 = some (.i2l, 1) := by decide +kernel
theorem dm_X3_where_63 : mj_dec prog_5_method_4_code 63 = some (.lcmp, 1) := by decide +kernel
theorem dm_X3_where_64 : mj_dec prog_5_method_4_code 64 = some (.ifCond .le 9, 3) := by decide +kernel
theorem dm_X3_where_67 : mj_dec prog_5_method_4_code 67 = some (.bipush 8, 2) := by decide +kernel
theorem dm_X3_where_69 : mj_dec prog_5_method_4_code 69 = some (.invokestatic 68, 3) := by decide +kernel
theorem dm_X3_where_72 : mj_dec prog_5_method_4_code 72 = some (.areturn, 1) := by decide +kernel
theorem dm_X3_where_73 : mj_dec prog_5_method_4_code 73 = some (.iconst 0, 1) := by decide +kernel
theorem dm_X3_where_74 : mj_dec prog_5_method_4_code 74 = some (.istore 6, 2) := by decide +kernel
theorem dm_X3_where_76 : mj_dec prog_5_method_4_code 76 = some (.iload 6, 2) := by decide +kernel
theorem dm_X3_where_78 : mj_dec prog_5_method_4_code 78 = some (.i2l, 1) := by decide +kernel
theorem dm_X3_where_79 : mj_dec prog_5_method_4_code 79 = some (.lload 4, 2) := by decide +kernel
theorem dm_X3_where_81 : mj_dec prog_5_method_4_code 81 = some (.lcmp, 1) := by decide +kernel
theorem dm_X3_where_82 : mj_dec prog_5_method_4_code 82 = some (.ifCond .ge 20, 3) := by decide +kernel
theorem dm_X3_where_85 : mj_dec prog_5_method_4_code 85 = some (.aload_n 0, 1) := by decide +kernel
theorem dm_X3_where_86 : mj_dec prog_5_method_4_code 86 = some (.getfield 15, 3) := by decide +kernel
theorem dm_X3_where_89 : mj_dec prog_5_method_4_code 89 = some (.iload_n 2, 1) := by decide +kernel
theorem dm_X3_where_90 : mj_dec prog_5_method_4_code 90 = some (.iload_n 3, 1) := by decide +kernel
theorem dm_X3_where_91 : mj_dec prog_5_method_4_code 91 = some (.i2l, 1) := by decide +kernel
theorem dm_X3_where_92 : mj_dec prog_5_method_4_code 92 = some (.lastore, 1) := by decide +kernel
theorem dm_X3_where_93 : mj_dec prog_5_method_4_code 93 = some (.iinc 2 1, 3) := by decide +kernel
theorem dm_X3_where_96 : mj_dec prog_5_method_4_code 96 = some (.iinc 6 1, 3) := by decide +kernel
theorem dm_X3_where_99 : mj_dec prog_5_method_4_code 99 = some (.goto (-23), 3) := by decide +kernel
theorem dm_X3_where_102 : mj_dec prog_5_method_4_code 102 = some (.iinc 3 1, 3) := by decide +kernel
theorem dm_X3_where_105 : mj_dec prog_5_method_4_code 105 = some (.goto (-76), 3) := by decide +kernel
theorem dm_X3_where_108 : mj_dec prog_5_method_4_code 108 = some (.aload_n 0, 1) := by decide +kernel
theorem dm_X3_where_109 : mj_dec prog_5_method_4_code 109 = some (.getfield 15, 3) := by decide +kernel
theorem dm_X3_where_112 : mj_dec prog_5_method_4_code 112 = some (.iload_n 2, 1) := by decide +kernel
theorem dm_X3_where_113 : mj_dec prog_5_method_4_code 113 = some (.invokestatic 129, 3) := by decide +kernel
theorem dm_X3_where_116 : mj_dec prog_5_method_4_code 116 = some (.invokestatic 135, 3) := by decide +kernel
theorem dm_X3_where_119 : mj_dec prog_5_method_4_code 119 = some (.areturn, 1) := by decide +kernel
theorem o_where {xt : mj_X} {d e p : Nat} {A : Nat → Prop} {h : mj_H} {v : VV} {f1 : Nat → Value} (hx1 : xt 1 = some (.long, 0, f1)) (hd : 8 ≤ d) (hl : 127 ≤ h.length) (hA : okA A h) (hH : actH h) (hv : cv A h (e + 1) p v) (he : e ≤ 20) (hset : vsz (e + 1) v ≤ 1000) : pgV xt d 111 [.ref 17, .ref p] h (aact A h (e + 1) (m_where v) 2 (rsl (m_where v))) := by
  have h17 := hH.1
  obtain ⟨pf0, h18⟩ := hH.2.1
  obtain ⟨nf0, h19⟩ := hH.2.2.1
  have hcv := vw1_c hv.1
  obtain ⟨row, fr, vals, hp, hp2, hpA, hvk, hvm, hvc, hvs, hvl⟩ := cv_val hv
  have hpb := hA p hpA
  have h0 : (Int64.ofInt 0).toInt = 0 := by decide
  have hvq9 : vk v = 6 ∨ vk v = 7 ∨ vq v = vm v := by by_cases z : vk v = 6; exact Or.inl z; by_cases y : vk v = 7; exact Or.inr (Or.inl y); exact Or.inr (Or.inr (by unfold vq; rw [if_neg z, if_neg y]))
  refine x_enter pm_X3_where (L0 := [(0, .ref 17), (1, .ref p)]) rfl (Nat.le_of_ble_eq_true rfl) (by omega) ?_
  refine me1 (pc' := 1) (L' := [(0, .ref 17), (1, .ref p)]) (S' := [.ref p]) dm_X3_where_0 rfl rfl rfl rfl ?_
  refine x_cp (pc' := 4) (v := zz (decide (2 ≤ vk v ∧ vk v ≤ 5))) (rest := []) dm_X3_where_1 rfl (g_inv (As := []) (S := []) hp rfl rfl rfl (by omega)) rfl rfl rfl (c_isRow (by omega) hv) ?_
  refine y_zne (c := decide (2 ≤ vk v ∧ vk v ≤ 5)) (t := 12) (pc' := 7) dm_X3_where_4 rfl rfl (fun hb1 => ?_) (fun hb1 => ?_)
  · replace hb1 := dT hb1
    refine me1 (pc' := 13) (L' := [(0, .ref 17), (1, .ref p)]) (S' := [.ref p]) dm_X3_where_12 rfl rfl rfl rfl ?_
    refine me3 (pc' := 16) (S' := [ii (vk v : Int)]) dm_X3_where_13 (g_get (v := ii (vk v : Int)) hp rfl rfl (by omega)) rfl rfl rfl ?_
    refine me0 (pc' := 17) (S' := [ii 3, ii (vk v : Int)]) dm_X3_where_16 rfl rfl rfl rfl ?_
    refine y_2ne (a := (vk v : Int)) (b := 3) (t := 25) (pc' := 20) dm_X3_where_17 rfl rfl (by omega) (fun hb2 => ?_) (fun hb2 => ?_)
    · refine me0 (pc' := 26) (S' := [ii 0]) dm_X3_where_25 rfl rfl rfl rfl ?_
      refine me1 (pc' := 27) (L' := [(2, ii 0), (0, .ref 17), (1, .ref p)]) (S' := []) dm_X3_where_26 rfl rfl rfl rfl ?_
      refine me0 (pc' := 28) (S' := [ii 0]) dm_X3_where_27 rfl rfl rfl rfl ?_
      refine me1 (pc' := 29) (L' := [(3, ii 0), (2, ii 0), (0, .ref 17), (1, .ref p)]) (S' := []) dm_X3_where_28 rfl rfl rfl rfl ?_
      have lp29 : ∀ (n29 : Nat) (k : Nat) (n : Nat) (G : Nat → Int64) (g : Nat → Nat), vm v - k = n29 → (k ≤ vm v) → (whF (vn v) k = .inr (n, g)) → (∀ j, j < n → G j = Int64.ofInt (g j : Int)) → pgE xt (d - 1) 3 7 false (Option.some (Jvm.ClassFile.FieldType.object "ArrayCalculator$Value")) (mj_dec prog_5_method_4_code) 29 [(0, .ref 17), (1, .ref p), (2, ii ((n : Nat) : Int)), (3, ii (k : Int))] [] ((h).set 19 (cJ 144 G)) (fun r h' => ∃ x, r = some x ∧ aact A h (e + 1) (m_where v) 2 (rsl (m_where v)) x h') := by
        intro n29
        induction n29 using Nat.strongRecOn with
        | ind n29 ih29 =>
          intro k n G g hm29 hk hg hG
          have hwl := (whF_le hg).1
          refine me1 (pc' := 30) (L' := [(0, .ref 17), (1, .ref p), (2, ii ((n : Nat) : Int)), (3, ii (k : Int))]) (S' := [ii (k : Int)]) dm_X3_where_29 rfl rfl rfl rfl ?_
          refine me1 (pc' := 31) (L' := [(0, .ref 17), (1, .ref p), (2, ii ((n : Nat) : Int)), (3, ii (k : Int))]) (S' := [.ref p, ii (k : Int)]) dm_X3_where_30 rfl rfl rfl rfl ?_
          refine me3 (pc' := 34) (S' := [ii (vm v : Int), ii (k : Int)]) dm_X3_where_31 (g_get (v := ii (vm v : Int)) (hl_ne (by omega) hp) rfl rfl (by omega)) rfl rfl rfl ?_
          refine y_2ge (a := (k : Int)) (b := (vm v : Int)) (t := 108) (pc' := 37) dm_X3_where_34 rfl rfl (by omega) (fun hb3 => ?_) (fun hb3 => ?_)
          · refine me1 (pc' := 109) (L' := [(0, .ref 17), (1, .ref p), (2, ii ((n : Nat) : Int)), (3, ii (k : Int))]) (S' := [.ref 17]) dm_X3_where_108 rfl rfl rfl rfl ?_
            refine me3 (pc' := 112) (S' := [.ref 19]) dm_X3_where_109 (g_get (v := .ref 19) (hl_ne (by decide) h17) rfl rfl (by decide)) rfl rfl rfl ?_
            refine me1 (pc' := 113) (L' := [(0, .ref 17), (1, .ref p), (2, ii ((n : Nat) : Int)), (3, ii (k : Int))]) (S' := [ii ((n : Nat) : Int), .ref 19]) dm_X3_where_112 rfl rfl rfl rfl ?_
            refine x_cv (pc' := 116) (rest := []) dm_X3_where_113 rfl (g_invs (As := [.ref 19, ii ((n : Nat) : Int)]) (S := []) rfl rfl rfl) rfl rfl rfl (j_copyOf (n := n) (q := h.length) (by omega) (by simp; omega) (by simp) (hl_set (hl_lt h19)) (by decide) (by omega) (by omega)) ?_
            rintro _ _ ⟨rfl, rfl⟩
            refine x_cv (pc' := 119) (rest := []) dm_X3_where_116 rfl (g_invs (As := [.ref h.length]) (S := []) rfl rfl rfl) rfl rfl rfl (c_numberRow (hx1 := hx1) (q := h.length + 1) (by omega) (by simp; omega) (by simp) (show rowAt (fun _ => True) _ _ _ _ from Or.inr ⟨by omega, (hl_newa (by simp)), by omega, trivial⟩) (by omega)) ?_
            rintro _ _ ⟨rfl, rfl⟩
            refine y_ret (r := some (.ref (h.length + 1))) dm_X3_where_119 rfl rfl rfl ?_
            have hkn : k = vm v := by omega
            rw [hkn] at hg
            have hsp := m_where_r (by omega) (by omega) hg
            have hgl := (whF_le hg).2
            rw [hsp]
            refine ⟨_, rfl, h.set 19 (cJ 144 G), scrS_set (by unfold scr; decide) h19 rfl, actH_19 hH _, ?_⟩
            exact vres_rowL (k := 4) (by simp) hl (by omega) (by omega) hwl (by rw [vform_4 (fun j hj => by rw [cpy_at hj, hG j hj]; exact fits_n (by have := hgl j hj; omega))]) (fun j hj => by rw [cpy_at hj]; exact hG j hj) (by omega) (rsl_row (by omega))
          · refine me1 (pc' := 38) (L' := [(0, .ref 17), (1, .ref p), (2, ii ((n : Nat) : Int)), (3, ii (k : Int))]) (S' := [.ref p]) dm_X3_where_37 rfl rfl rfl rfl ?_
            refine me1 (pc' := 39) (L' := [(0, .ref 17), (1, .ref p), (2, ii ((n : Nat) : Int)), (3, ii (k : Int))]) (S' := [ii (k : Int), .ref p]) dm_X3_where_38 rfl rfl rfl rfl ?_
            have hvn : vnum v (k : Int) = vn v k := by rw [vnum_r (by omega) (by omega) (by omega)]; rfl
            refine x_cp (pc' := 42) (v := .long (vn v k)) (rest := []) dm_X3_where_39 rfl (g_inv (As := [ii (k : Int)]) (S := []) (hl_ne (by omega) hp) rfl rfl rfl (by omega)) rfl rfl rfl ((show pgP xt (d - 1) _ _ _ (.long (vn v k)) from hvn ▸ c_numberAt (i := (k : Int)) hx1 (by omega) (cv_set (nA hA (Or.inl (by decide))) hv) (by omega))) ?_
            refine me1 (pc' := 44) (L' := [(4, .long (vn v k)), (0, .ref 17), (1, .ref p), (2, ii ((n : Nat) : Int)), (3, ii (k : Int))]) (S' := []) dm_X3_where_42 rfl rfl rfl rfl ?_
            refine me1 (pc' := 46) (L' := [(4, .long (vn v k)), (0, .ref 17), (1, .ref p), (2, ii ((n : Nat) : Int)), (3, ii (k : Int))]) (S' := [.long (vn v k)]) dm_X3_where_44 rfl rfl rfl rfl ?_
            refine me0 (pc' := 47) (S' := [.long (Int64.ofInt 0), .long (vn v k)]) dm_X3_where_46 rfl rfl rfl rfl ?_
            refine y_lge (x := vn v k) (y := Int64.ofInt 0) (t := 56) (pc1 := 48) (pc' := 51) dm_X3_where_47 rfl dm_X3_where_48 rfl rfl (fun hb4 => ?_) (fun hb4 => ?_)
            · rw [h0] at hb4
              refine me1 (pc' := 58) (L' := [(4, .long (vn v k)), (0, .ref 17), (1, .ref p), (2, ii ((n : Nat) : Int)), (3, ii (k : Int))]) (S' := [.long (vn v k)]) dm_X3_where_56 rfl rfl rfl rfl ?_
              refine me0 (pc' := 60) (S' := [ii 120, .long (vn v k)]) dm_X3_where_58 rfl rfl rfl rfl ?_
              refine me1 (pc' := 61) (L' := [(4, .long (vn v k)), (0, .ref 17), (1, .ref p), (2, ii ((n : Nat) : Int)), (3, ii (k : Int))]) (S' := [ii ((n : Nat) : Int), ii 120, .long (vn v k)]) dm_X3_where_60 rfl rfl rfl rfl ?_
              refine y_isub (a := 120) (b := ((n : Nat) : Int)) dm_X3_where_61 (pc' := 62) rfl ?_
              refine y_i2l (a := 120 - ((n : Nat) : Int)) dm_X3_where_62 (pc' := 63) rfl (by omega) (by omega) ?_
              refine y_lle (x := vn v k) (y := Int64.ofInt (120 - ((n : Nat) : Int))) (t := 73) (pc1 := 64) (pc' := 67) dm_X3_where_63 rfl dm_X3_where_64 rfl rfl (fun hb5 => ?_) (fun hb5 => ?_)
              · rw [n_toL (by omega) (by omega)] at hb5
                refine me0 (pc' := 74) (S' := [ii 0]) dm_X3_where_73 rfl rfl rfl rfl ?_
                refine me1 (pc' := 76) (L' := [(6, ii 0), (4, .long (vn v k)), (0, .ref 17), (1, .ref p), (2, ii ((n : Nat) : Int)), (3, ii (k : Int))]) (S' := []) dm_X3_where_74 rfl rfl rfl rfl ?_
                have lp76 : ∀ (n76 : Nat) (t : Nat) (F : Nat → Int64), (vn v k).toInt.toNat - t = n76 → ((t : Int) ≤ (vn v k).toInt) → (∀ j, j < n → F j = Int64.ofInt (g j : Int)) → (∀ j, n ≤ j → j < n + t → F j = Int64.ofInt (k : Int)) → pgE xt (d - 1) 3 7 false (Option.some (Jvm.ClassFile.FieldType.object "ArrayCalculator$Value")) (mj_dec prog_5_method_4_code) 76 [(0, .ref 17), (1, .ref p), (2, ii ((n + t : Nat) : Int)), (3, ii (k : Int)), (4, .long (vn v k)), (6, ii (t : Int))] [] ((h).set 19 (cJ 144 F)) (fun r h' => ∃ x, r = some x ∧ aact A h (e + 1) (m_where v) 2 (rsl (m_where v)) x h') := by
                  intro n76
                  induction n76 using Nat.strongRecOn with
                  | ind n76 ih76 =>
                    intro t F hm76 ht hF1 hF2
                    have htL : (Int64.ofInt (t : Int)).toInt = (t : Int) := n_toL (by omega) (by omega)
                    refine me1 (pc' := 78) (L' := [(0, .ref 17), (1, .ref p), (2, ii ((n + t : Nat) : Int)), (3, ii (k : Int)), (4, .long (vn v k)), (6, ii (t : Int))]) (S' := [ii (t : Int)]) dm_X3_where_76 rfl rfl rfl rfl ?_
                    refine y_i2l (a := (t : Int)) dm_X3_where_78 (pc' := 79) rfl (by omega) (by omega) ?_
                    refine me1 (pc' := 81) (L' := [(0, .ref 17), (1, .ref p), (2, ii ((n + t : Nat) : Int)), (3, ii (k : Int)), (4, .long (vn v k)), (6, ii (t : Int))]) (S' := [.long (vn v k), .long (Int64.ofInt (t : Int))]) dm_X3_where_79 rfl rfl rfl rfl ?_
                    refine y_lge (x := Int64.ofInt (t : Int)) (y := vn v k) (t := 102) (pc1 := 82) (pc' := 85) dm_X3_where_81 rfl dm_X3_where_82 rfl rfl (fun hb6 => ?_) (fun hb6 => ?_)
                    · rw [htL] at hb6
                      refine y_iinc (pc' := 105) (L' := [(3, ii ((k : Int) + 1)), (0, .ref 17), (1, .ref p), (2, ii ((n + t : Nat) : Int)), (4, .long (vn v k)), (6, ii (t : Int))]) dm_X3_where_102 (y_incp (a := (k : Int)) (c := 1) rfl rfl (by decide)) rfl ?_
                      refine me2 (pc' := 29) (S' := []) dm_X3_where_105 rfl rfl rfl ?_
                      exact pg_sub (L := [(0, .ref 17), (1, .ref p), (2, ii (((n + t) : Nat) : Int)), (3, ii ((k + 1) : Int))]) rfl rfl rfl (ih29 (vm v - (k + 1)) (by omega) (k + 1) (n + t) F (fun j => if n ≤ j then k else g j) rfl (by omega) (by rw [whF_s hg (by omega) (by omega)]; congr 3; omega) (fun j hj => by by_cases z : n ≤ j; (rw [if_pos z]; exact hF2 j z hj); (rw [if_neg z]; exact hF1 j (by omega))))
                    · rw [htL] at hb6
                      refine me1 (pc' := 86) (L' := [(0, .ref 17), (1, .ref p), (2, ii ((n + t : Nat) : Int)), (3, ii (k : Int)), (4, .long (vn v k)), (6, ii (t : Int))]) (S' := [.ref 17]) dm_X3_where_85 rfl rfl rfl rfl ?_
                      refine me3 (pc' := 89) (S' := [.ref 19]) dm_X3_where_86 (g_get (v := .ref 19) (hl_ne (by decide) h17) rfl rfl (by decide)) rfl rfl rfl ?_
                      refine me1 (pc' := 90) (L' := [(0, .ref 17), (1, .ref p), (2, ii ((n + t : Nat) : Int)), (3, ii (k : Int)), (4, .long (vn v k)), (6, ii (t : Int))]) (S' := [ii ((n + t : Nat) : Int), .ref 19]) dm_X3_where_89 rfl rfl rfl rfl ?_
                      refine me1 (pc' := 91) (L' := [(0, .ref 17), (1, .ref p), (2, ii ((n + t : Nat) : Int)), (3, ii (k : Int)), (4, .long (vn v k)), (6, ii (t : Int))]) (S' := [ii (k : Int), ii ((n + t : Nat) : Int), .ref 19]) dm_X3_where_90 rfl rfl rfl rfl ?_
                      refine y_i2l (a := (k : Int)) dm_X3_where_91 (pc' := 92) rfl (by omega) (by omega) ?_
                      refine me3 (pc' := 93) (S' := []) (h1 := (h).set 19 (cJ 144 (va_up F (n + t) (Int64.ofInt (k : Int))))) dm_X3_where_92 (y_hs (yh_last (j := ((n + t : Nat) : Int)) (hl_set (hl_lt h19)) (by omega) (by omega) (by omega) (by decide)) (by rw [show ((n + t : Nat) : Int).toNat = n + t from rfl]; rw [List.set_set])) rfl rfl rfl ?_
                      refine y_iinc (pc' := 96) (L' := [(2, ii (((n + t : Nat) : Int) + 1)), (0, .ref 17), (1, .ref p), (3, ii (k : Int)), (4, .long (vn v k)), (6, ii (t : Int))]) dm_X3_where_93 (y_incp (a := ((n + t : Nat) : Int)) (c := 1) rfl rfl (by decide)) rfl ?_
                      refine y_iinc (pc' := 99) (L' := [(6, ii ((t : Int) + 1)), (2, ii (((n + t : Nat) : Int) + 1)), (0, .ref 17), (1, .ref p), (3, ii (k : Int)), (4, .long (vn v k))]) dm_X3_where_96 (y_incp (a := (t : Int)) (c := 1) rfl rfl (by decide)) rfl ?_
                      refine me2 (pc' := 76) (S' := []) dm_X3_where_99 rfl rfl rfl ?_
                      exact pg_sub (L := [(0, .ref 17), (1, .ref p), (2, ii ((n + (t + 1) : Nat) : Int)), (3, ii (k : Int)), (4, .long (vn v k)), (6, ii ((t + 1) : Int))]) rfl rfl rfl (ih76 ((vn v k).toInt.toNat - (t + 1)) (by omega) (t + 1) (va_up F (n + t) (Int64.ofInt (k : Int))) rfl (by omega) (fun j hj => by rw [up_ne _ _ (by omega)]; exact hF1 j hj) (fun j h1 h2 => by by_cases z : j = n + t; (rw [z]; exact up_eq _ _ _); (rw [up_ne _ _ z]; exact hF2 j h1 (by omega))))
                exact pg_sub (L := [(0, .ref 17), (1, .ref p), (2, ii ((n + 0 : Nat) : Int)), (3, ii (k : Int)), (4, .long (vn v k)), (6, ii (0 : Int))]) rfl rfl rfl (lp76 _ 0 G rfl (by omega) hG (fun j h1 h2 => by omega))
              · rw [n_toL (by omega) (by omega)] at hb5
                refine me0 (pc' := 69) (S' := [ii 8]) dm_X3_where_67 rfl rfl rfl rfl ?_
                refine x_cv (pc' := 72) (rest := []) dm_X3_where_69 rfl (g_invs (As := [ii 8]) (S := []) rfl rfl rfl) rfl rfl rfl (c_fault (q := h.length) (by omega) (by simp; omega) (by simp) (by omega)) ?_
                rintro _ _ ⟨rfl, rfl⟩
                refine y_ret (r := some (.ref h.length)) dm_X3_where_72 rfl rfl rfl ?_
                have hsp : m_where v = .inl 8 := m_where_e (by omega) (by omega) (whF_8 hg (by omega) (by omega) (by omega))
                rw [hsp]
                refine ⟨_, rfl, h.set 19 (cJ 144 G), scrS_set (by unfold scr; decide) h19 rfl, actH_19 hH _, ?_⟩
                have hfz := ares_f (A := A) (h := h.set 19 (cJ 144 G)) (e := e + 1) (a := 2) (b := rsl (.inl 8)) 8 (by simp; omega) (by omega) (Nat.le_refl _)
                rw [List.length_set] at hfz
                exact hfz
            · rw [h0] at hb4
              refine me0 (pc' := 52) (S' := [ii 5]) dm_X3_where_51 rfl rfl rfl rfl ?_
              refine x_cv (pc' := 55) (rest := []) dm_X3_where_52 rfl (g_invs (As := [ii 5]) (S := []) rfl rfl rfl) rfl rfl rfl (c_fault (q := h.length) (by omega) (by simp; omega) (by simp) (by omega)) ?_
              rintro _ _ ⟨rfl, rfl⟩
              refine y_ret (r := some (.ref h.length)) dm_X3_where_55 rfl rfl rfl ?_
              have hsp : m_where v = .inl 5 := m_where_e (by omega) (by omega) (whF_5 hg (by omega) (by omega))
              rw [hsp]
              refine ⟨_, rfl, h.set 19 (cJ 144 G), scrS_set (by unfold scr; decide) h19 rfl, actH_19 hH _, ?_⟩
              have hfz := ares_f (A := A) (h := h.set 19 (cJ 144 G)) (e := e + 1) (a := 2) (b := rsl (.inl 5)) 5 (by simp; omega) (by omega) (Nat.le_refl _)
              rw [List.length_set] at hfz
              exact hfz
      refine pg_cast (h2 := (h).set 19 (cJ 144 nf0)) (hl_self h19).symm ?_
      exact pg_sub (L := [(0, .ref 17), (1, .ref p), (2, ii ((0 : Nat) : Int)), (3, ii (0 : Int))]) rfl rfl rfl (lp29 _ 0 0 nf0 (fun _ => 0) rfl (Nat.zero_le _) rfl (fun j hj => absurd hj (Nat.not_lt_zero j)))
    · refine me0 (pc' := 21) (S' := [ii 5]) dm_X3_where_20 rfl rfl rfl rfl ?_
      refine x_cv (pc' := 24) (rest := []) dm_X3_where_21 rfl (g_invs (As := [ii 5]) (S := []) rfl rfl rfl) rfl rfl rfl (c_fault (q := h.length) (by omega) (by omega) rfl (by omega)) ?_
      rintro _ _ ⟨rfl, rfl⟩
      refine y_ret (r := some (.ref h.length)) dm_X3_where_24 rfl rfl rfl ?_
      exact ⟨_, rfl, h, scrS_rf h, hH, by rw [show m_where v = .inl 5 by unfold m_where; rw [if_pos (by omega), if_pos (by omega)]]; exact ares_f 5 (by omega) (by omega) (by first | omega | exact Nat.le_refl _)⟩
  · replace hb1 := dF hb1
    refine me0 (pc' := 8) (S' := [ii 3]) dm_X3_where_7 rfl rfl rfl rfl ?_
    refine x_cv (pc' := 11) (rest := []) dm_X3_where_8 rfl (g_invs (As := [ii 3]) (S := []) rfl rfl rfl) rfl rfl rfl (c_fault (q := h.length) (by omega) (by omega) rfl (by omega)) ?_
    rintro _ _ ⟨rfl, rfl⟩
    refine y_ret (r := some (.ref h.length)) dm_X3_where_11 rfl rfl rfl ?_
    exact ⟨_, rfl, h, scrS_rf h, hH, by rw [show m_where v = .inl 3 by unfold m_where; rw [if_neg (by omega)]]; exact ares_f 3 (by omega) (by omega) (by first | omega | exact Nat.le_refl _)⟩
