theorem cI_norm (n : Nat) (f : Nat → Int) : cI n f = cI n (fun k => (Int32.ofInt (f k)).toInt) := by
  show (Sum.inl (0, n, Sum.inl fun k => Int32.ofInt (f k)) : mj_E) = .inl (0, n, .inl fun k => Int32.ofInt ((Int32.ofInt (f k)).toInt))
  congr 4
  funext k
  rw [Int32.ofInt_toInt]
theorem n_rng (x : Int32) : -2147483648 ≤ x.toInt ∧ x.toInt ≤ 2147483647 := by
  have h1 := x.le_toInt
  have h2 := x.toInt_lt
  omega
theorem ares_dup {A : Nat → Prop} {h h' : mj_H} {e a b : Nat} {o : Nat ⊕ VV} {r : Value} (hr : ares A h e o a b r h') : ares A h (e + 1) o a b r h' := by
  cases o with
  | inl n => exact hr
  | inr w => obtain ⟨q, X, h1, h2, h3, h4, h5⟩ := hr; exact ⟨q, X, h1, h2, h3, h4, cv_up h5⟩
theorem vw_flat {d L : Nat} {v : VV} (h : vwf (d + 1) v) (h7 : vk v ≠ 7) : vwf (L + 1) v ∧ vsz (L + 1) v = vsz (d + 1) v ∧ vlv (L + 1) v = vlv (d + 1) v := by
  refine ⟨⟨h.1, fun a => absurd a h7⟩, ?_, ?_⟩
  · show (if vk v ≤ 1 then 1 else if vk v = 6 then 1 + vm v * vc v else if vk v = 7 then _ else 1 + vm v) = (if vk v ≤ 1 then 1 else if vk v = 6 then 1 + vm v * vc v else if vk v = 7 then _ else 1 + vm v)
    rw [if_neg h7, if_neg h7]
  · show (if vk v ≤ 1 then 0 else if vk v = 6 then 2 else if vk v = 7 then _ else 1) = (if vk v ≤ 1 then 0 else if vk v = 6 then 2 else if vk v = 7 then _ else 1)
    rw [if_neg h7, if_neg h7]
theorem vw_down {d : Nat} : ∀ {L : Nat} {v : VV}, vwf (d + 1) v → vlv (d + 1) v ≤ L → vwf (L + 1) v ∧ vsz (L + 1) v = vsz (d + 1) v ∧ vlv (L + 1) v = vlv (d + 1) v := by
  induction d with
  | zero =>
    intro L v h hL
    by_cases h7 : vk v = 7
    · have hm : vm v = 0 := by
        cases hz : vm v with
        | zero => rfl
        | succ m => exact (h.2 h7 0 (by omega)).elim
      refine ⟨⟨h.1, fun _ k hk => by omega⟩, ?_, ?_⟩
      · show (if vk v ≤ 1 then 1 else if vk v = 6 then 1 + vm v * vc v else if vk v = 7 then 1 + sumN (vm v) _ else 1 + vm v) = (if vk v ≤ 1 then 1 else if vk v = 6 then 1 + vm v * vc v else if vk v = 7 then 1 + sumN (vm v) _ else 1 + vm v)
        rw [hm]; rfl
      · show (if vk v ≤ 1 then 0 else if vk v = 6 then 2 else if vk v = 7 then 1 + maxN (vm v) _ else 1) = (if vk v ≤ 1 then 0 else if vk v = 6 then 2 else if vk v = 7 then 1 + maxN (vm v) _ else 1)
        rw [hm]; rfl
    · exact vw_flat h h7
  | succ d ih =>
    intro L v h hL
    by_cases h7 : vk v = 7
    · have hlev : vlv (d + 1 + 1) v = 1 + maxN (vm v) (fun k => vlv (d + 1) (vd v k)) := by
        show (if vk v ≤ 1 then 0 else if vk v = 6 then 2 else if vk v = 7 then 1 + maxN (vm v) (fun k => vlv (d + 1) (vd v k)) else 1) = _
        rw [if_neg (by omega), if_neg (by omega), if_pos h7]
      cases L with
      | zero => omega
      | succ L =>
        have hkid : ∀ k, k < vm v → vlv (d + 1) (vd v k) ≤ L := fun k hk => by
          have h9 : vlv (d + 1) (vd v k) ≤ maxN (vm v) (fun k => vlv (d + 1) (vd v k)) := maxN_mem (f := fun k => vlv (d + 1) (vd v k)) hk
          omega
        have hnew := fun k (hk : k < vm v) => ih (h.2 h7 k hk) (hkid k hk)
        refine ⟨⟨h.1, fun _ k hk => (hnew k hk).1⟩, ?_, ?_⟩
        · show (if vk v ≤ 1 then 1 else if vk v = 6 then 1 + vm v * vc v else if vk v = 7 then 1 + sumN (vm v) (fun k => vsz (L + 1) (vd v k)) else 1 + vm v) = (if vk v ≤ 1 then 1 else if vk v = 6 then 1 + vm v * vc v else if vk v = 7 then 1 + sumN (vm v) (fun k => vsz (d + 1) (vd v k)) else 1 + vm v)
          rw [sumN_congr (fun k hk => (hnew k hk).2.1)]
        · show (if vk v ≤ 1 then 0 else if vk v = 6 then 2 else if vk v = 7 then 1 + maxN (vm v) (fun k => vlv (L + 1) (vd v k)) else 1) = (if vk v ≤ 1 then 0 else if vk v = 6 then 2 else if vk v = 7 then 1 + maxN (vm v) (fun k => vlv (d + 1) (vd v k)) else 1)
          rw [maxN_congr (fun k hk => (hnew k hk).2.2)]
    · exact vw_flat h h7
/-- as deep as its levels -/
theorem cv_down {A : Nat → Prop} {h : mj_H} (d : Nat) : ∀ {L p : Nat} {v : VV}, cv A h (d + 1) p v → vlv (d + 1) v ≤ L → cv A h (L + 1) p v := by
  induction d with
  | zero =>
    intro L p v hv hL
    clear hL
    induction L with
    | zero => exact hv
    | succ L ih => exact cv_up ih
  | succ d ih =>
    intro L p v hv hL
    by_cases h7 : vk v = 7
    · have hw0 := cv_wf hv
      have hlev : vlv (d + 1 + 1) v = 1 + maxN (vm v) (fun k => vlv (d + 1) (vd v k)) := by
        show (if vk v ≤ 1 then 0 else if vk v = 6 then 2 else if vk v = 7 then 1 + maxN (vm v) (fun k => vlv (d + 1) (vd v k)) else 1) = _
        rw [if_neg (by omega), if_neg (by omega), if_pos h7]
      cases L with
      | zero => omega
      | succ L =>
        obtain ⟨hw, hp2, hsz, hlv, row, fr, vals, hp, hfr, h1, h3, h8⟩ := hv
        have hkid : ∀ k, k < vm v → vlv (d + 1) (vd v k) ≤ L := fun k hk => by
          have := maxN_mem (f := fun k => vlv (d + 1) (vd v k)) hk
          have h9 : vlv (d + 1) (vd v k) ≤ maxN (vm v) (fun k => vlv (d + 1) (vd v k)) := this
          omega
        have hkw : ∀ k, k < vm v → vwf (d + 1) (vd v k) := fun k hk => hw0.2 h7 k hk
        have hnew : ∀ k, k < vm v → vwf (L + 1) (vd v k) ∧ vsz (L + 1) (vd v k) = vsz (d + 1) (vd v k) ∧ vlv (L + 1) (vd v k) = vlv (d + 1) (vd v k) := fun k hk => by
          exact vw_down (hkw k hk) (hkid k hk)
        have es : vsz (L + 1 + 1) v = vsz (d + 1 + 1) v := by
          show (if vk v ≤ 1 then 1 else if vk v = 6 then 1 + vm v * vc v else if vk v = 7 then 1 + sumN (vm v) (fun k => vsz (L + 1) (vd v k)) else 1 + vm v) = (if vk v ≤ 1 then 1 else if vk v = 6 then 1 + vm v * vc v else if vk v = 7 then 1 + sumN (vm v) (fun k => vsz (d + 1) (vd v k)) else 1 + vm v)
          rw [sumN_congr (fun k hk => (hnew k hk).2.1)]
        have el : vlv (L + 1 + 1) v = vlv (d + 1 + 1) v := by
          show (if vk v ≤ 1 then 0 else if vk v = 6 then 2 else if vk v = 7 then 1 + maxN (vm v) (fun k => vlv (L + 1) (vd v k)) else 1) = (if vk v ≤ 1 then 0 else if vk v = 6 then 2 else if vk v = 7 then 1 + maxN (vm v) (fun k => vlv (d + 1) (vd v k)) else 1)
          rw [maxN_congr (fun k hk => (hnew k hk).2.2)]
        refine ⟨hw, hp2, by rw [es]; exact hsz, by rw [el]; exact hlv, row, fr, vals, by rw [es, el]; exact hp, hfr, h1, h3, fun a => ?_⟩
        obtain ⟨hr, h9⟩ := h8 a
        refine ⟨hr, ?_⟩
        rcases h9 with h10 | ⟨b, n, g, e1, e2, e3, e4, e5, e6, e7⟩
        · exact Or.inl h10
        · refine Or.inr ⟨b, n, g, e1, e2, e3, e4, e5, e6, fun k hk => ?_⟩
          obtain ⟨q, q1, q2⟩ := e7 k hk
          exact ⟨q, q1, ih q2 (hkid k hk)⟩
    · have h0 : cv A h 1 p v := by
        obtain ⟨hw, hp2, hsz, hlv, row, fr, vals, hp, hfr, h1, h3, h8⟩ := hv
        have es : vsz (0 + 1) v = vsz (d + 1 + 1) v := by
          show (if vk v ≤ 1 then 1 else if vk v = 6 then 1 + vm v * vc v else if vk v = 7 then _ else 1 + vm v) = (if vk v ≤ 1 then 1 else if vk v = 6 then 1 + vm v * vc v else if vk v = 7 then _ else 1 + vm v)
          rw [if_neg h7, if_neg h7]
        have el : vlv (0 + 1) v = vlv (d + 1 + 1) v := by
          show (if vk v ≤ 1 then 0 else if vk v = 6 then 2 else if vk v = 7 then _ else 1) = (if vk v ≤ 1 then 0 else if vk v = 6 then 2 else if vk v = 7 then _ else 1)
          rw [if_neg h7, if_neg h7]
        exact ⟨hw, hp2, by rw [es]; exact hsz, by rw [el]; exact hlv, row, fr, vals, by rw [es, el]; exact hp, hfr, h1, h3, fun a => absurd a h7⟩
      clear hL
      induction L with
      | zero => exact h0
      | succ L ih2 => exact cv_up ih2
set_option maxRecDepth 20000 in
theorem pm_X10_nest : mj_mmof pg_ms 121 = some ((⟨"ArrayCalculator$Value", "nest", "([LArrayCalculator$Value;)LArrayCalculator$Value;"⟩, prog_12_method_12_code, 1, (Option.some (Jvm.ClassFile.FieldType.object "ArrayCalculator$Value"))), 10, false, mj_dec prog_12_method_12_code) := rfl
theorem dm_X10_nest_0 : mj_dec prog_12_method_12_code 0 = some (.new 10, 3) := by decide +kernel
theorem dm_X10_nest_3 : mj_dec prog_12_method_12_code 3 = some (.dup, 1) := by decide +kernel
theorem dm_X10_nest_4 : mj_dec prog_12_method_12_code 4 = some (.aload_n 0, 1) := by decide +kernel
theorem dm_X10_nest_5 : mj_dec prog_12_method_12_code 5 = some (.iconst 0, 1) := by decide +kernel
theorem dm_X10_nest_6 : mj_dec prog_12_method_12_code 6 = some (.aload_n 0, 1) := by decide +kernel
theorem dm_X10_nest_7 : mj_dec prog_12_method_12_code 7 = some (.arraylength, 1) := by decide +kernel
theorem dm_X10_nest_8 : mj_dec prog_12_method_12_code 8 = some (.invokespecial 58, 3) := by decide +kernel
theorem dm_X10_nest_11 : mj_dec prog_12_method_12_code 11 = some (.areturn, 1) := by decide +kernel
theorem c_nest {xt : mj_X} {d e q a n : Nat} {A : Nat → Prop} {h : mj_H} {g : Nat → Option Nat} {ch : Nat → VV} (hd : 3 ≤ d) (hl : 2 ≤ h.length) (hq : h.length = q) (hqA : ¬ A q) (ha : h[a]? = some (cA 4 n g)) (ha2 : 2 ≤ a) (hn : n ≤ 1000) (he : e ≤ 20) (hS : sumN n (fun k => vsz e (ch k)) ≤ 29999) (hqq : ∀ k, k < n → ∃ q, g k = some q ∧ cv A h e q (ch k)) : pgV xt d 121 [.ref a] h (fun v h' => v = .ref q ∧ h' = h ++ [cNest (.ref a) 0 (n : Int) ((1 + sumN n (fun k => vsz e (ch k)) : Nat) : Int) ((1 + maxN n (fun k => vlv e (ch k)) : Nat) : Int)]) := by
  subst hq
  refine x_enter pm_X10_nest (L0 := [(0, .ref a)]) rfl (Nat.le_of_ble_eq_true rfl) (by omega) ?_
  refine me3 (pc' := 3) (S' := [.ref h.length]) (h1 := h ++ [cO 10 [ii 0, .long (Int64.ofInt 0), .null, .null, ii 0, ii 0, ii 0, ii 0, ii 0]]) dm_X10_nest_0 (g_nw rfl rfl rfl) rfl rfl rfl ?_
  refine me0 (pc' := 4) (S' := [.ref h.length, .ref h.length]) dm_X10_nest_3 rfl rfl rfl rfl ?_
  refine me1 (pc' := 5) (L' := [(0, .ref a)]) (S' := [.ref a, .ref h.length, .ref h.length]) dm_X10_nest_4 rfl rfl rfl rfl ?_
  refine me0 (pc' := 6) (S' := [ii 0, .ref a, .ref h.length, .ref h.length]) dm_X10_nest_5 rfl rfl rfl rfl ?_
  refine me1 (pc' := 7) (L' := [(0, .ref a)]) (S' := [.ref a, ii 0, .ref a, .ref h.length, .ref h.length]) dm_X10_nest_6 rfl rfl rfl rfl ?_
  refine me3 (pc' := 8) (S' := [ii n, ii 0, .ref a, .ref h.length, .ref h.length]) dm_X10_nest_7 (yh_len (n := n) rfl (hl_app ha) (by omega)) rfl rfl rfl ?_
  refine x_cn (pc' := 11) (rest := [.ref h.length]) dm_X10_nest_8 rfl (g_invp (As := [.ref a, ii 0, ii n]) (S := [.ref h.length]) rfl rfl rfl) rfl rfl rfl (c_newN (A := A) (e := e) (n := n) (g := g) (fr := 0) (m := n) (ch := ch) (by omega) hl_new (by omega) hqA (hl_app ha) ha2 (fun z => by have := hl_lt ha; omega) (by omega) (by omega) (by omega) (by omega) he hS (fun k hk => by obtain ⟨q1, hq1, hq2⟩ := hqq k hk; exact ⟨q1, by rw [Nat.zero_add]; exact hq1, cv_app hq2⟩) hl_setl) ?_
  rintro _ rfl
  refine y_ret (r := some (.ref h.length)) dm_X10_nest_11 rfl rfl rfl ?_
  exact ⟨_, rfl, rfl, rfl⟩
set_option maxRecDepth 20000 in
theorem pm_X3_oneMore : mj_mmof pg_ms 128 = some ((⟨"ArrayCalculator$OneAct", "oneMore", "(LArrayCalculator$Value;)LArrayCalculator$Value;"⟩, prog_5_method_13_code, 3, (Option.some (Jvm.ClassFile.FieldType.object "ArrayCalculator$Value"))), 3, false, mj_dec prog_5_method_13_code) := rfl
theorem dm_X3_oneMore_0 : mj_dec prog_5_method_13_code 0 = some (.aload_n 1, 1) := by decide +kernel
theorem dm_X3_oneMore_1 : mj_dec prog_5_method_13_code 1 = some (.invokevirtual 139, 3) := by decide +kernel
theorem dm_X3_oneMore_4 : mj_dec prog_5_method_13_code 4 = some (.ifCond .eq 13, 3) := by decide +kernel
theorem dm_X3_oneMore_7 : mj_dec prog_5_method_13_code 7 = some (.aload_n 1, 1) := by decide +kernel
theorem dm_X3_oneMore_8 : mj_dec prog_5_method_13_code 8 = some (.aload_n 0, 1) := by decide +kernel
theorem dm_X3_oneMore_9 : mj_dec prog_5_method_13_code 9 = some (.getfield 9, 3) := by decide +kernel
theorem dm_X3_oneMore_12 : mj_dec prog_5_method_13_code 12 = some (.iconst 1, 1) := by decide +kernel
theorem dm_X3_oneMore_13 : mj_dec prog_5_method_13_code 13 = some (.invokevirtual 142, 3) := by decide +kernel
theorem dm_X3_oneMore_16 : mj_dec prog_5_method_13_code 16 = some (.areturn, 1) := by decide +kernel
theorem dm_X3_oneMore_17 : mj_dec prog_5_method_13_code 17 = some (.iconst 1, 1) := by decide +kernel
theorem dm_X3_oneMore_18 : mj_dec prog_5_method_13_code 18 = some (.anewarray 36, 3) := by decide +kernel
theorem dm_X3_oneMore_21 : mj_dec prog_5_method_13_code 21 = some (.dup, 1) := by decide +kernel
theorem dm_X3_oneMore_22 : mj_dec prog_5_method_13_code 22 = some (.iconst 0, 1) := by decide +kernel
theorem dm_X3_oneMore_23 : mj_dec prog_5_method_13_code 23 = some (.aload_n 1, 1) := by decide +kernel
theorem dm_X3_oneMore_24 : mj_dec prog_5_method_13_code 24 = some (.aastore, 1) := by decide +kernel
theorem dm_X3_oneMore_25 : mj_dec prog_5_method_13_code 25 = some (.astore_n 2, 1) := by decide +kernel
theorem dm_X3_oneMore_26 : mj_dec prog_5_method_13_code 26 = some (.aload_n 2, 1) := by decide +kernel
theorem dm_X3_oneMore_27 : mj_dec prog_5_method_13_code 27 = some (.invokestatic 165, 3) := by decide +kernel
theorem dm_X3_oneMore_30 : mj_dec prog_5_method_13_code 30 = some (.areturn, 1) := by decide +kernel
theorem o_oneMore {xt : mj_X} {d e p : Nat} {A : Nat → Prop} {h : mj_H} {v : VV} {f1 : Nat → Value} (hx1 : xt 1 = some (.long, 0, f1)) (hd : 8 ≤ d) (hl : 127 ≤ h.length) (hA : okA A h) (hH : actH h) (hv : cv A h (e + 1) p v) (he : e ≤ 19) (hset : vsz (e + 1) v ≤ 1000) : pgV xt d 128 [.ref 17, .ref p] h (aact A h (e + 2) (m_more v) 2 10) := by
  have h17 := hH.1
  obtain ⟨pf0, h18⟩ := hH.2.1
  obtain ⟨nf0, h19⟩ := hH.2.2.1
  have hcv := vw1_c hv.1
  obtain ⟨row, fr, vals, hp, hp2, hpA, hvk, hvm, hvc, hvs, hvl⟩ := cv_val hv
  have hpb := hA p hpA
  rw [cI_norm] at h18
  have hpr : ∀ k, -2147483648 ≤ (Int32.ofInt (pf0 k)).toInt ∧ (Int32.ofInt (pf0 k)).toInt ≤ 2147483647 := fun k => n_rng _
  refine x_enter pm_X3_oneMore (L0 := [(0, .ref 17), (1, .ref p)]) rfl (Nat.le_of_ble_eq_true rfl) (by omega) ?_
  refine me1 (pc' := 1) (L' := [(0, .ref 17), (1, .ref p)]) (S' := [.ref p]) dm_X3_oneMore_0 rfl rfl rfl rfl ?_
  refine x_cp (pc' := 4) (v := zz (decide (vk v ≤ 1))) (rest := []) dm_X3_oneMore_1 rfl (g_inv (As := []) (S := []) hp rfl rfl rfl (by omega)) rfl rfl rfl (c_isOne (by omega) hv) ?_
  refine y_zeq (c := decide (vk v ≤ 1)) (t := 17) (pc' := 7) dm_X3_oneMore_4 rfl rfl (fun hb1 => ?_) (fun hb1 => ?_)
  · replace hb1 := dF hb1
    refine me0 (pc' := 18) (S' := [ii 1]) dm_X3_oneMore_17 rfl rfl rfl rfl ?_
    refine me3 (pc' := 21) (S' := [.ref h.length]) (h1 := h ++ [cA 4 1 (fun _ => none)]) dm_X3_oneMore_18 (yh_newA rfl (by omega) (by omega) (by omega) rfl) rfl rfl rfl ?_
    refine me0 (pc' := 22) (S' := [.ref h.length, .ref h.length]) dm_X3_oneMore_21 rfl rfl rfl rfl ?_
    refine me0 (pc' := 23) (S' := [ii 0, .ref h.length, .ref h.length]) dm_X3_oneMore_22 rfl rfl rfl rfl ?_
    refine me1 (pc' := 24) (L' := [(0, .ref 17), (1, .ref p)]) (S' := [.ref p, ii 0, .ref h.length, .ref h.length]) dm_X3_oneMore_23 rfl rfl rfl rfl ?_
    refine me3 (pc' := 25) (S' := [.ref h.length]) (h1 := h ++ [cA 4 1 (va_up (fun _ => none) 0 (some p))]) dm_X3_oneMore_24 (y_hs (yh_aasr (j := 0) rfl hl_new (hl_app hp) (by omega) (by omega) (by omega) (by omega) (by omega)) (by rw [show (0 : Int).toNat = 0 from rfl]; exact (hl_setl))) rfl rfl rfl ?_
    refine me1 (pc' := 26) (L' := [(2, .ref h.length), (0, .ref 17), (1, .ref p)]) (S' := []) dm_X3_oneMore_25 rfl rfl rfl rfl ?_
    refine me1 (pc' := 27) (L' := [(2, .ref h.length), (0, .ref 17), (1, .ref p)]) (S' := [.ref h.length]) dm_X3_oneMore_26 rfl rfl rfl rfl ?_
    refine x_cv (pc' := 30) (rest := []) dm_X3_oneMore_27 rfl (g_invs (As := [.ref h.length]) (S := []) rfl rfl rfl) rfl rfl rfl (c_nest (A := A) (e := e + 1) (n := 1) (ch := fun k => v) (q := h.length + 1) (by omega) (by simp; omega) (by simp) (nA hA (Or.inr (by omega))) hl_new (by omega) (by omega) (by omega) (by show 0 + vsz (e + 1) v ≤ 29999; omega) (fun k hk => ⟨p, by rw [show k = 0 by omega]; rfl, cv_app hv⟩)) ?_
    rintro _ _ ⟨rfl, rfl⟩
    refine y_ret (r := some (.ref (h.length + 1))) dm_X3_oneMore_30 rfl rfl rfl ?_
    refine ⟨_, rfl, h, scrS_rf h, hH, ?_⟩
    unfold m_more
    rw [if_neg (by omega)]
    exact vres_nest (e := e + 1) (n := 1) (ch := fun _ => v) (by omega) (by omega) (by omega) (by show 0 + vsz (e + 1) v ≤ 29999; omega) (fun k hk => ⟨p, by rw [show k = 0 by omega]; rfl, hv⟩) (by omega) (by omega)
  · replace hb1 := dT hb1
    refine me1 (pc' := 8) (L' := [(0, .ref 17), (1, .ref p)]) (S' := [.ref p]) dm_X3_oneMore_7 rfl rfl rfl rfl ?_
    refine me1 (pc' := 9) (L' := [(0, .ref 17), (1, .ref p)]) (S' := [.ref 17, .ref p]) dm_X3_oneMore_8 rfl rfl rfl rfl ?_
    refine me3 (pc' := 12) (S' := [.ref 18, .ref p]) dm_X3_oneMore_9 (g_get (v := .ref 18) h17 rfl rfl (by decide)) rfl rfl rfl ?_
    refine me0 (pc' := 13) (S' := [ii 1, .ref 18, .ref p]) dm_X3_oneMore_12 rfl rfl rfl rfl ?_
    refine x_cv (pc' := 16) (rest := []) dm_X3_oneMore_13 rfl (g_inv (As := [.ref 18, ii 1]) (S := []) hp rfl rfl rfl (by omega)) rfl rfl rfl (c_pick hx1 (by omega) hA hl hv h18 (by decide) (by decide) (by omega) (by omega) hset (n := 1) (by omega) (fun k _ => ⟨(hpr k).1, (hpr k).2, Or.inl (by omega)⟩)) ?_
    rintro x h2 hres
    obtain ⟨q, rfl⟩ := ares_ref hres
    refine y_ret (r := some (.ref q)) dm_X3_oneMore_16 rfl rfl rfl ?_
    refine ⟨_, rfl, h, scrS_rf h, hH, ?_⟩
    unfold m_more
    rw [if_pos (by omega)]
    rw [s_pick_r (by omega), pcl_n (by omega)] at hres
    refine ares_up (ares_dup (ares_congr (o' := .inr (vpick v (fun _ => 0) 1)) hres ?_)) (by omega) (by omega)
    show veq _ _ _
    rw [vpick_r (by omega), vpick_r (by omega)]
    simp only [if_pos (show vk v ≤ 1 by omega)]
    exact veq_rf _ _
