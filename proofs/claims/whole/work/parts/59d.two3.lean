/-- the first place below n at which f holds, n if there is none -/
def fstN (f : Nat → Bool) : Nat → Nat
  | 0 => 0
  | n + 1 => if fstN f n < n then fstN f n else if f n = true then n else n + 1
theorem fstN_no {f : Nat → Bool} {n : Nat} (h : ∀ j, j < n → f j = false) : fstN f n = n := by
  induction n with
  | zero => rfl
  | succ n ih =>
    unfold fstN
    rw [ih (fun j hj => h j (by omega)), if_neg (by omega), if_neg (by rw [h n (by omega)]; decide)]
theorem fstN_at {f : Nat → Bool} {n k : Nat} (hk : k < n) (h : ∀ j, j < k → f j = false) (ht : f k = true) : fstN f n = k := by
  induction n with
  | zero => omega
  | succ n ih =>
    unfold fstN
    by_cases z : k = n
    · subst z
      rw [fstN_no h, if_neg (by omega), if_pos ht]
    · rw [ih (by omega), if_pos (by omega)]
theorem fstN_le (f : Nat → Bool) (n : Nat) : fstN f n ≤ n := by
  induction n with
  | zero => exact Nat.le_refl _
  | succ n ih =>
    unfold fstN
    split
    · omega
    · split <;> omega
/-- those below k at which f holds: how many, which -/
def flt (f : Nat → Bool) : Nat → Nat × (Nat → Nat)
  | 0 => (0, fun _ => 0)
  | k + 1 => if f k = true then ((flt f k).1 + 1, va_up (flt f k).2 (flt f k).1 k) else flt f k
theorem flt_s {f : Nat → Bool} {k : Nat} (h : f k = true) : flt f (k + 1) = ((flt f k).1 + 1, va_up (flt f k).2 (flt f k).1 k) := by
  conv => lhs; unfold flt
  rw [if_pos h]
theorem flt_n {f : Nat → Bool} {k : Nat} (h : f k = false) : flt f (k + 1) = flt f k := by
  conv => lhs; unfold flt
  rw [if_neg (by rw [h]; decide)]
theorem flt_le (f : Nat → Bool) (k : Nat) : (flt f k).1 ≤ k ∧ ∀ j, j < (flt f k).1 → (flt f k).2 j < k := by
  induction k with
  | zero => exact ⟨Nat.le_refl _, fun j hj => absurd hj (Nat.not_lt_zero j)⟩
  | succ k ih =>
    cases hf : f k with
    | true =>
      rw [flt_s hf]
      refine ⟨by show (flt f k).1 + 1 ≤ k + 1; omega, fun j hj => ?_⟩
      have hj2 : j < (flt f k).1 + 1 := hj
      show va_up (flt f k).2 (flt f k).1 k j < k + 1
      rw [up_at]
      split
      · omega
      · have := ih.2 j (by omega); omega
    | false =>
      rw [flt_n hf]
      exact ⟨by omega, fun j hj => by have := ih.2 j hj; omega⟩
/-- ? of two -/
def d_find (e : Nat) (v w : VV) : Nat ⊕ VV := if vk v ≤ 1 ∨ ((2 ≤ vk v ∧ vk v ≤ 5) ∧ 6 ≤ vk w) then .inl 3 else if ¬ (2 ≤ vk v ∧ vk v ≤ 5) ∨ vk w ≤ 1 then .inr (v1 0 (Int64.ofInt ((fstN (fun k => vsame e (vit v k) w) (vm v) : Nat) : Int))) else .inr (vrow 4 (vm w) (fun i => Int64.ofInt ((fstN (fun k => vsame e (vit v k) (vit w i)) (vm v) : Nat) : Int)))
/-- ^ of two -/
def woF (e : Nat) (v w : VV) (i : Nat) : Bool := allN (vm w) (fun k => !(vsame e (vit v i) (vit w k)))
def d_wo (e : Nat) (v w : VV) : Nat ⊕ VV := if vk v ≤ 1 then .inl 3 else s_pick v (flt (woF e v w) (vm v)).2 (flt (woF e v w) (vm v)).1
set_option maxRecDepth 20000 in
theorem pm_X9_found : mj_mmof pg_ms 149 = some ((⟨"ArrayCalculator$TwoAct", "found", "(LArrayCalculator$Value;LArrayCalculator$Value;)LArrayCalculator$Value;"⟩, prog_11_method_8_code, 5, (Option.some (Jvm.ClassFile.FieldType.object "ArrayCalculator$Value"))), 9, false, mj_dec prog_11_method_8_code) := rfl
theorem dm_X9_found_0 : mj_dec prog_11_method_8_code 0 = some (.aload_n 0, 1) := by decide +kernel
theorem dm_X9_found_1 : mj_dec prog_11_method_8_code 1 = some (.invokevirtual 140, 3) := by decide +kernel
theorem dm_X9_found_4 : mj_dec prog_11_method_8_code 4 = some (.ifCond .ne 28, 3) := by decide +kernel
theorem dm_X9_found_7 : mj_dec prog_11_method_8_code 7 = some (.aload_n 0, 1) := by decide +kernel
theorem dm_X9_found_8 : mj_dec prog_11_method_8_code 8 = some (.invokevirtual 133, 3) := by decide +kernel
theorem dm_X9_found_11 : mj_dec prog_11_method_8_code 11 = some (.ifCond .eq 26, 3) := by decide +kernel
theorem dm_X9_found_14 : mj_dec prog_11_method_8_code 14 = some (.aload_n 1, 1) := by decide +kernel
theorem dm_X9_found_15 : mj_dec prog_11_method_8_code 15 = some (.getfield 102, 3) := by decide +kernel
theorem dm_X9_found_18 : mj_dec prog_11_method_8_code 18 = some (.bipush 6, 2) := by decide +kernel
theorem dm_X9_found_20 : mj_dec prog_11_method_8_code 20 = some (.if_icmp .eq 12, 3) := by decide +kernel
theorem dm_X9_found_23 : mj_dec prog_11_method_8_code 23 = some (.aload_n 1, 1) := by decide +kernel
theorem dm_X9_found_24 : mj_dec prog_11_method_8_code 24 = some (.getfield 102, 3) := by decide +kernel
theorem dm_X9_found_27 : mj_dec prog_11_method_8_code 27 = some (.bipush 7, 2) := by decide +kernel
theorem dm_X9_found_29 : mj_dec prog_11_method_8_code 29 = some (.if_icmp .ne 8, 3) := by decide +kernel
theorem dm_X9_found_32 : mj_dec prog_11_method_8_code 32 = some (.iconst 3, 1) := by decide +kernel
theorem dm_X9_found_33 : mj_dec prog_11_method_8_code 33 = some (.invokestatic 81, 3) := by decide +kernel
theorem dm_X9_found_36 : mj_dec prog_11_method_8_code 36 = some (.areturn, 1) := by decide +kernel
theorem dm_X9_found_37 : mj_dec prog_11_method_8_code 37 = some (.aload_n 0, 1) := by decide +kernel
theorem dm_X9_found_38 : mj_dec prog_11_method_8_code 38 = some (.invokevirtual 133, 3) := by decide +kernel
theorem dm_X9_found_41 : mj_dec prog_11_method_8_code 41 = some (.ifCond .eq 10, 3) := by decide +kernel
theorem dm_X9_found_44 : mj_dec prog_11_method_8_code 44 = some (.aload_n 1, 1) := by decide +kernel
theorem dm_X9_found_45 : mj_dec prog_11_method_8_code 45 = some (.invokevirtual 140, 3) := by decide +kernel
theorem dm_X9_found_48 : mj_dec prog_11_method_8_code 48 = some (.ifCond .eq 34, 3) := by decide +kernel
theorem dm_X9_found_51 : mj_dec prog_11_method_8_code 51 = some (.iconst 0, 1) := by decide +kernel
theorem dm_X9_found_52 : mj_dec prog_11_method_8_code 52 = some (.istore_n 2, 1) := by decide +kernel
theorem dm_X9_found_53 : mj_dec prog_11_method_8_code 53 = some (.iload_n 2, 1) := by decide +kernel
theorem dm_X9_found_54 : mj_dec prog_11_method_8_code 54 = some (.aload_n 0, 1) := by decide +kernel
theorem dm_X9_found_55 : mj_dec prog_11_method_8_code 55 = some (.getfield 94, 3) := by decide +kernel
theorem dm_X9_found_58 : mj_dec prog_11_method_8_code 58 = some (.if_icmp .ge 18, 3) := by decide +kernel
theorem dm_X9_found_61 : mj_dec prog_11_method_8_code 61 = some (.aload_n 0, 1) := by decide +kernel
theorem dm_X9_found_62 : mj_dec prog_11_method_8_code 62 = some (.iload_n 2, 1) := by decide +kernel
theorem dm_X9_found_63 : mj_dec prog_11_method_8_code 63 = some (.aload_n 1, 1) := by decide +kernel
theorem dm_X9_found_64 : mj_dec prog_11_method_8_code 64 = some (.invokestatic 180, 3) := by decide +kernel
theorem dm_X9_found_67 : mj_dec prog_11_method_8_code 67 = some (.ifCond .ne 9, 3) := by decide +kernel
theorem dm_X9_found_70 : mj_dec prog_11_method_8_code 70 = some (.iinc 2 1, 3) := by decide +kernel
theorem dm_X9_found_73 : mj_dec prog_11_method_8_code 73 = some (.goto (-20), 3) := by decide +kernel
theorem dm_X9_found_76 : mj_dec prog_11_method_8_code 76 = some (.iload_n 2, 1) := by decide +kernel
theorem dm_X9_found_77 : mj_dec prog_11_method_8_code 77 = some (.i2l, 1) := by decide +kernel
theorem dm_X9_found_78 : mj_dec prog_11_method_8_code 78 = some (.invokestatic 36, 3) := by decide +kernel
theorem dm_X9_found_81 : mj_dec prog_11_method_8_code 81 = some (.areturn, 1) := by decide +kernel
theorem dm_X9_found_82 : mj_dec prog_11_method_8_code 82 = some (.aload_n 1, 1) := by decide +kernel
theorem dm_X9_found_83 : mj_dec prog_11_method_8_code 83 = some (.getfield 94, 3) := by decide +kernel
theorem dm_X9_found_86 : mj_dec prog_11_method_8_code 86 = some (.newarray .long, 2) := by decide +kernel
theorem dm_X9_found_88 : mj_dec prog_11_method_8_code 88 = some (.astore_n 2, 1) := by decide +kernel
theorem dm_X9_found_89 : mj_dec prog_11_method_8_code 89 = some (.iconst 0, 1) := by decide +kernel
theorem dm_X9_found_90 : mj_dec prog_11_method_8_code 90 = some (.istore_n 3, 1) := by decide +kernel
theorem dm_X9_found_91 : mj_dec prog_11_method_8_code 91 = some (.iload_n 3, 1) := by decide +kernel
theorem dm_X9_found_92 : mj_dec prog_11_method_8_code 92 = some (.aload_n 2, 1) := by decide +kernel
theorem dm_X9_found_93 : mj_dec prog_11_method_8_code 93 = some (.arraylength, 1) := by decide +kernel
theorem dm_X9_found_94 : mj_dec prog_11_method_8_code 94 = some (.if_icmp .ge 44, 3) := by decide +kernel
theorem dm_X9_found_97 : mj_dec prog_11_method_8_code 97 = some (.iconst 0, 1) := by decide +kernel
theorem dm_X9_found_98 : mj_dec prog_11_method_8_code 98 = some (.istore 4, 2) := by decide +kernel
theorem dm_X9_found_100 : mj_dec prog_11_method_8_code 100 = some (.iload 4, 2) := by decide +kernel
theorem dm_X9_found_102 : mj_dec prog_11_method_8_code 102 = some (.aload_n 0, 1) := by decide +kernel
theorem dm_X9_found_103 : mj_dec prog_11_method_8_code 103 = some (.getfield 94, 3) := by decide +kernel
theorem dm_X9_found_106 : mj_dec prog_11_method_8_code 106 = some (.if_icmp .ge 20, 3) := by decide +kernel
theorem dm_X9_found_109 : mj_dec prog_11_method_8_code 109 = some (.aload_n 0, 1) := by decide +kernel
theorem dm_X9_found_110 : mj_dec prog_11_method_8_code 110 = some (.iload 4, 2) := by decide +kernel
theorem dm_X9_found_112 : mj_dec prog_11_method_8_code 112 = some (.aload_n 1, 1) := by decide +kernel
theorem dm_X9_found_113 : mj_dec prog_11_method_8_code 113 = some (.iload_n 3, 1) := by decide +kernel
theorem dm_X9_found_114 : mj_dec prog_11_method_8_code 114 = some (.invokestatic 184, 3) := by decide +kernel
theorem dm_X9_found_117 : mj_dec prog_11_method_8_code 117 = some (.ifCond .ne 9, 3) := by decide +kernel
theorem dm_X9_found_120 : mj_dec prog_11_method_8_code 120 = some (.iinc 4 1, 3) := by decide +kernel
theorem dm_X9_found_123 : mj_dec prog_11_method_8_code 123 = some (.goto (-23), 3) := by decide +kernel
theorem dm_X9_found_126 : mj_dec prog_11_method_8_code 126 = some (.aload_n 2, 1) := by decide +kernel
theorem dm_X9_found_127 : mj_dec prog_11_method_8_code 127 = some (.iload_n 3, 1) := by decide +kernel
theorem dm_X9_found_128 : mj_dec prog_11_method_8_code 128 = some (.iload 4, 2) := by decide +kernel
theorem dm_X9_found_130 : mj_dec prog_11_method_8_code 130 = some (.i2l, 1) := by decide +kernel
theorem dm_X9_found_131 : mj_dec prog_11_method_8_code 131 = some (.lastore, 1) := by decide +kernel
theorem dm_X9_found_132 : mj_dec prog_11_method_8_code 132 = some (.iinc 3 1, 3) := by decide +kernel
theorem dm_X9_found_135 : mj_dec prog_11_method_8_code 135 = some (.goto (-44), 3) := by decide +kernel
theorem dm_X9_found_138 : mj_dec prog_11_method_8_code 138 = some (.iconst 4, 1) := by decide +kernel
theorem dm_X9_found_139 : mj_dec prog_11_method_8_code 139 = some (.aload_n 2, 1) := by decide +kernel
theorem dm_X9_found_140 : mj_dec prog_11_method_8_code 140 = some (.invokestatic 105, 3) := by decide +kernel
theorem dm_X9_found_143 : mj_dec prog_11_method_8_code 143 = some (.areturn, 1) := by decide +kernel
theorem t_found {xt : mj_X} {d e p q : Nat} {A : Nat → Prop} {h : mj_H} {v w : VV} {f1 : Nat → Value} (hx1 : xt 1 = some (.long, 0, f1)) (hd : 4 * e + 20 ≤ d) (hl : 127 ≤ h.length) (hA : okA A h) (hH : actH h) (hv : cv A h (e + 1) p v) (hw : cv A h (e + 1) q w) (he : e ≤ 20) (hset : vsz (e + 1) v ≤ 1000) (hset2 : vsz (e + 1) w ≤ 1000) : pgV xt d 149 [.ref p, .ref q] h (aact A h (e + 1) (d_find (e + 1) v w) 2 (vm w + 9)) := by
  obtain ⟨-, -, -, -, -, -, -, -, ⟨ft0, h26⟩, -, -, ⟨pf0, h29⟩, ⟨nf0, h30⟩, ⟨uf0, h31⟩⟩ := id hH
  have hcv := vw1_c hv.1
  have hcw := vw1_c hw.1
  obtain ⟨row, fr, vals, hp, hp2, hpA, hvk, hvm, hvc, hvs, hvl⟩ := cv_val hv
  obtain ⟨row2, fr2, vals2, hq, hq2, hqA, hwk, hwm, hwc, hws, hwl⟩ := cv_val hw
  have hpb := hA p hpA
  have hqb := hA q hqA
  refine x_enter pm_X9_found (L0 := [(0, .ref p), (1, .ref q)]) rfl (Nat.le_of_ble_eq_true rfl) (by omega) ?_
  refine me1 (pc' := 1) (L' := [(0, .ref p), (1, .ref q)]) (S' := [.ref p]) dm_X9_found_0 rfl rfl rfl rfl ?_
  refine x_cp (pc' := 4) (v := zz (decide (vk v ≤ 1))) (rest := []) dm_X9_found_1 rfl (g_inv (As := []) (S := []) hp rfl rfl rfl (by omega)) rfl rfl rfl (c_isOne (by omega) hv) ?_
  refine y_zne (c := decide (vk v ≤ 1)) (t := 32) (pc' := 7) dm_X9_found_4 rfl rfl (fun hb1 => ?_) (fun hb1 => ?_)
  · replace hb1 := dT hb1
    refine me0 (pc' := 33) (S' := [ii 3]) dm_X9_found_32 rfl rfl rfl rfl ?_
    refine x_cv (pc' := 36) (rest := []) dm_X9_found_33 rfl (g_invs (As := [ii 3]) (S := []) rfl rfl rfl) rfl rfl rfl (c_fault (q := h.length) (by omega) (by omega) rfl (by omega)) ?_
    rintro _ _ ⟨rfl, rfl⟩
    refine y_ret (r := some (.ref h.length)) dm_X9_found_36 rfl rfl rfl ?_
    exact ⟨_, rfl, h, scrS_rf h, hH, by rw [show d_find (e + 1) v w = .inl 3 by unfold d_find; rw [if_pos (by omega)]]; exact ares_f 3 (by omega) (by omega) (by omega)⟩
  · replace hb1 := dF hb1
    refine me1 (pc' := 8) (L' := [(0, .ref p), (1, .ref q)]) (S' := [.ref p]) dm_X9_found_7 rfl rfl rfl rfl ?_
    refine x_cp (pc' := 11) (v := zz (decide (2 ≤ vk v ∧ vk v ≤ 5))) (rest := []) dm_X9_found_8 rfl (g_inv (As := []) (S := []) hp rfl rfl rfl (by omega)) rfl rfl rfl (c_isRow (by omega) hv) ?_
    refine y_zeq (c := decide (2 ≤ vk v ∧ vk v ≤ 5)) (t := 37) (pc' := 14) dm_X9_found_11 rfl rfl (fun hb2 => ?_) (fun hb2 => ?_)
    · replace hb2 := dF hb2
      refine me1 (pc' := 38) (L' := [(0, .ref p), (1, .ref q)]) (S' := [.ref p]) dm_X9_found_37 rfl rfl rfl rfl ?_
      refine x_cp (pc' := 41) (v := zz (decide (2 ≤ vk v ∧ vk v ≤ 5))) (rest := []) dm_X9_found_38 rfl (g_inv (As := []) (S := []) hp rfl rfl rfl (by omega)) rfl rfl rfl (c_isRow (by omega) hv) ?_
      refine y_zeq (c := decide (2 ≤ vk v ∧ vk v ≤ 5)) (t := 51) (pc' := 44) dm_X9_found_41 rfl rfl (fun hb3 => ?_) (fun hb3 => ?_)
      · replace hb3 := dF hb3
        refine me0 (pc' := 52) (S' := [ii 0]) dm_X9_found_51 rfl rfl rfl rfl ?_
        refine me1 (pc' := 53) (L' := [(2, ii 0), (0, .ref p), (1, .ref q)]) (S' := []) dm_X9_found_52 rfl rfl rfl rfl ?_
        have lp53 : ∀ (n53 : Nat) (k : Nat), vm v - k = n53 → (k ≤ vm v) → (∀ j, j < k → vsame (e + 1) (vit v j) w = false) → pgE xt (d - 1) 9 5 false (Option.some (Jvm.ClassFile.FieldType.object "ArrayCalculator$Value")) (mj_dec prog_11_method_8_code) 53 [(0, .ref p), (1, .ref q), (2, ii (k : Int))] [] h (fun r h' => ∃ x, r = some x ∧ aact A h (e + 1) (d_find (e + 1) v w) 2 (vm w + 9) x h') := by
          intro n53
          induction n53 using Nat.strongRecOn with
          | ind n53 ih53 =>
            intro k hm53 hk hno
            refine me1 (pc' := 54) (L' := [(0, .ref p), (1, .ref q), (2, ii (k : Int))]) (S' := [ii (k : Int)]) dm_X9_found_53 rfl rfl rfl rfl ?_
            refine me1 (pc' := 55) (L' := [(0, .ref p), (1, .ref q), (2, ii (k : Int))]) (S' := [.ref p, ii (k : Int)]) dm_X9_found_54 rfl rfl rfl rfl ?_
            refine me3 (pc' := 58) (S' := [ii (vm v : Int), ii (k : Int)]) dm_X9_found_55 (g_get (v := ii (vm v : Int)) hp rfl rfl (by omega)) rfl rfl rfl ?_
            refine y_2ge (a := (k : Int)) (b := (vm v : Int)) (t := 76) (pc' := 61) dm_X9_found_58 rfl rfl (by omega) (fun hb4 => ?_) (fun hb4 => ?_)
            · have hfst : fstN (fun k => vsame (e + 1) (vit v k) w) (vm v) = k := by rw [show k = vm v by omega]; exact fstN_no (fun j hj => hno j (by omega))
              refine me1 (pc' := 77) (L' := [(0, .ref p), (1, .ref q), (2, ii (k : Int))]) (S' := [ii (k : Int)]) dm_X9_found_76 rfl rfl rfl rfl ?_
              refine y_i2l (a := (k : Int)) dm_X9_found_77 (pc' := 78) rfl (by omega) (by omega) ?_
              refine x_cv (pc' := 81) (rest := []) dm_X9_found_78 rfl (g_invs (As := [.long (Int64.ofInt (k : Int))]) (S := []) rfl rfl rfl) rfl rfl rfl (c_number (q := h.length) (by omega) (by omega) rfl ) ?_
              rintro _ _ ⟨rfl, rfl⟩
              refine y_ret (r := some (.ref h.length)) dm_X9_found_81 rfl rfl rfl ?_
              refine ⟨_, rfl, h, scrS_rf h, hH, ?_⟩
              rw [show d_find (e + 1) v w = .inr (v1 0 (Int64.ofInt ((fstN (fun k => vsame (e + 1) (vit v k) w) (vm v) : Nat) : Int))) by unfold d_find; rw [if_neg (by omega), if_pos (by omega)], hfst]
              exact vres_one (k := 0) (by omega) (by omega) (by omega) (by omega)
            · refine me1 (pc' := 62) (L' := [(0, .ref p), (1, .ref q), (2, ii (k : Int))]) (S' := [.ref p]) dm_X9_found_61 rfl rfl rfl rfl ?_
              refine me1 (pc' := 63) (L' := [(0, .ref p), (1, .ref q), (2, ii (k : Int))]) (S' := [ii (k : Int), .ref p]) dm_X9_found_62 rfl rfl rfl rfl ?_
              refine me1 (pc' := 64) (L' := [(0, .ref p), (1, .ref q), (2, ii (k : Int))]) (S' := [.ref q, ii (k : Int), .ref p]) dm_X9_found_63 rfl rfl rfl rfl ?_
              refine x_cp (pc' := 67) (v := zz (vsame (e + 1) (vit v k) w)) (rest := []) dm_X9_found_64 rfl (g_invs (As := [.ref p, ii (k : Int), .ref q]) (S := []) rfl rfl rfl) rfl rfl rfl (c_sameItem hx1 (by omega) hv hw (Or.inr (by omega)) (by omega)) ?_
              refine y_zne (c := vsame (e + 1) (vit v k) w) (t := 76) (pc' := 70) dm_X9_found_67 rfl rfl (fun hb5 => ?_) (fun hb5 => ?_)
              · have hfst : fstN (fun k => vsame (e + 1) (vit v k) w) (vm v) = k := fstN_at (by omega) hno hb5
                refine me1 (pc' := 77) (L' := [(0, .ref p), (1, .ref q), (2, ii (k : Int))]) (S' := [ii (k : Int)]) dm_X9_found_76 rfl rfl rfl rfl ?_
                refine y_i2l (a := (k : Int)) dm_X9_found_77 (pc' := 78) rfl (by omega) (by omega) ?_
                refine x_cv (pc' := 81) (rest := []) dm_X9_found_78 rfl (g_invs (As := [.long (Int64.ofInt (k : Int))]) (S := []) rfl rfl rfl) rfl rfl rfl (c_number (q := h.length) (by omega) (by omega) rfl ) ?_
                rintro _ _ ⟨rfl, rfl⟩
                refine y_ret (r := some (.ref h.length)) dm_X9_found_81 rfl rfl rfl ?_
                refine ⟨_, rfl, h, scrS_rf h, hH, ?_⟩
                rw [show d_find (e + 1) v w = .inr (v1 0 (Int64.ofInt ((fstN (fun k => vsame (e + 1) (vit v k) w) (vm v) : Nat) : Int))) by unfold d_find; rw [if_neg (by omega), if_pos (by omega)], hfst]
                exact vres_one (k := 0) (by omega) (by omega) (by omega) (by omega)
              · refine y_iinc (pc' := 73) (L' := [(2, ii ((k : Int) + 1)), (0, .ref p), (1, .ref q)]) dm_X9_found_70 (y_incp (a := (k : Int)) (c := 1) rfl rfl (by decide)) rfl ?_
                refine me2 (pc' := 53) (S' := []) dm_X9_found_73 rfl rfl rfl ?_
                exact pg_sub (L := [(0, .ref p), (1, .ref q), (2, ii ((k + 1) : Int))]) rfl rfl rfl (ih53 (vm v - (k + 1)) (by omega) (k + 1) rfl (by omega) (fun j hj => by by_cases z : j = k; (subst z; exact hb5); exact hno j (by omega)))
        exact pg_sub (L := [(0, .ref p), (1, .ref q), (2, ii (0 : Int))]) rfl rfl rfl (lp53 _ 0 rfl (Nat.zero_le _) (fun j hj => absurd hj (Nat.not_lt_zero j)))
      · replace hb3 := dT hb3
        refine me1 (pc' := 45) (L' := [(0, .ref p), (1, .ref q)]) (S' := [.ref q]) dm_X9_found_44 rfl rfl rfl rfl ?_
        refine x_cp (pc' := 48) (v := zz (decide (vk w ≤ 1))) (rest := []) dm_X9_found_45 rfl (g_inv (As := []) (S := []) hq rfl rfl rfl (by omega)) rfl rfl rfl (c_isOne (by omega) hw) ?_
        refine y_zeq (c := decide (vk w ≤ 1)) (t := 82) (pc' := 51) dm_X9_found_48 rfl rfl (fun hb6 => ?_) (fun hb6 => ?_)
        · replace hb6 := dF hb6
          refine me1 (pc' := 83) (L' := [(0, .ref p), (1, .ref q)]) (S' := [.ref q]) dm_X9_found_82 rfl rfl rfl rfl ?_
          refine me3 (pc' := 86) (S' := [ii (vm w : Int)]) dm_X9_found_83 (g_get (v := ii (vm w : Int)) hq rfl rfl (by omega)) rfl rfl rfl ?_
          refine me3 (pc' := 88) (S' := [.ref h.length]) (h1 := h ++ [cJ ((vm w : Int).toNat) (fun _ => 0)]) dm_X9_found_86 (yh_newJ (by omega) (by omega) (by omega) rfl) rfl rfl rfl ?_
          refine me1 (pc' := 89) (L' := [(2, .ref h.length), (0, .ref p), (1, .ref q)]) (S' := []) dm_X9_found_88 rfl rfl rfl rfl ?_
          refine me0 (pc' := 90) (S' := [ii 0]) dm_X9_found_89 rfl rfl rfl rfl ?_
          refine me1 (pc' := 91) (L' := [(3, ii 0), (2, .ref h.length), (0, .ref p), (1, .ref q)]) (S' := []) dm_X9_found_90 rfl rfl rfl rfl ?_
          have lp91 : ∀ (n91 : Nat) (i : Nat) (G : Nat → Int64), vm w - i = n91 → (i ≤ vm w) → (∀ j, j < i → G j = Int64.ofInt ((fstN (fun k => vsame (e + 1) (vit v k) (vit w j)) (vm v) : Nat) : Int)) → pgE xt (d - 1) 9 5 false (Option.some (Jvm.ClassFile.FieldType.object "ArrayCalculator$Value")) (mj_dec prog_11_method_8_code) 91 [(0, .ref p), (1, .ref q), (2, .ref h.length), (3, ii (i : Int))] [] (h ++ [cJ (vm w) G]) (fun r h' => ∃ x, r = some x ∧ aact A h (e + 1) (d_find (e + 1) v w) 2 (vm w + 9) x h') := by
            intro n91
            induction n91 using Nat.strongRecOn with
            | ind n91 ih91 =>
              intro i G hm91 hi hG
              refine me1 (pc' := 92) (L' := [(0, .ref p), (1, .ref q), (2, .ref h.length), (3, ii (i : Int))]) (S' := [ii (i : Int)]) dm_X9_found_91 rfl rfl rfl rfl ?_
              refine me1 (pc' := 93) (L' := [(0, .ref p), (1, .ref q), (2, .ref h.length), (3, ii (i : Int))]) (S' := [.ref h.length, ii (i : Int)]) dm_X9_found_92 rfl rfl rfl rfl ?_
              refine me3 (pc' := 94) (S' := [ii (vm w), ii (i : Int)]) dm_X9_found_93 (yh_len (n := vm w) rfl hl_new (by omega)) rfl rfl rfl ?_
              refine y_2ge (a := (i : Int)) (b := vm w) (t := 138) (pc' := 97) dm_X9_found_94 rfl rfl (by omega) (fun hb7 => ?_) (fun hb7 => ?_)
              · refine me0 (pc' := 139) (S' := [ii 4]) dm_X9_found_138 rfl rfl rfl rfl ?_
                refine me1 (pc' := 140) (L' := [(0, .ref p), (1, .ref q), (2, .ref h.length), (3, ii (i : Int))]) (S' := [.ref h.length, ii 4]) dm_X9_found_139 rfl rfl rfl rfl ?_
                refine x_cv (pc' := 143) (rest := []) dm_X9_found_140 rfl (g_invs (As := [ii 4, .ref h.length]) (S := []) rfl rfl rfl) rfl rfl rfl (c_row (hx1 := hx1) (q := h.length + 1) (by omega) (by simp; omega) (by simp) (by omega) (show rowAt (fun _ => True) _ _ _ _ from Or.inr ⟨by omega, hl_new, by omega, trivial⟩) (by omega)) ?_
                rintro _ _ ⟨rfl, rfl⟩
                refine y_ret (r := some (.ref (h.length + 1))) dm_X9_found_143 rfl rfl rfl ?_
                refine ⟨_, rfl, h, scrS_rf h, hH, ?_⟩
                have hin : i = vm w := by omega
                rw [show d_find (e + 1) v w = .inr (vrow 4 (vm w) (fun i => Int64.ofInt ((fstN (fun k => vsame (e + 1) (vit v k) (vit w i)) (vm v) : Nat) : Int))) by unfold d_find; rw [if_neg (by omega), if_neg (by omega)]]
                exact vres_flat (w := vrow 4 (vm w) (fun i => Int64.ofInt ((fstN (fun k => vsame (e + 1) (vit v k) (vit w i)) (vm v) : Nat) : Int))) (by omega) (vw1_row (by omega) (by omega) (by omega)) (by show 2 ≤ 4; omega) (by show 4 ≤ 6; omega) (vq_row (by omega)) (fun j hj => hG j (by omega)) (by omega) (by omega)
              · refine me0 (pc' := 98) (S' := [ii 0]) dm_X9_found_97 rfl rfl rfl rfl ?_
                refine me1 (pc' := 100) (L' := [(4, ii 0), (0, .ref p), (1, .ref q), (2, .ref h.length), (3, ii (i : Int))]) (S' := []) dm_X9_found_98 rfl rfl rfl rfl ?_
                have lp100 : ∀ (n100 : Nat) (k : Nat), vm v - k = n100 → (k ≤ vm v) → (∀ j, j < k → vsame (e + 1) (vit v j) (vit w i) = false) → pgE xt (d - 1) 9 5 false (Option.some (Jvm.ClassFile.FieldType.object "ArrayCalculator$Value")) (mj_dec prog_11_method_8_code) 100 [(0, .ref p), (1, .ref q), (2, .ref h.length), (3, ii (i : Int)), (4, ii (k : Int))] [] (h ++ [cJ (vm w) G]) (fun r h' => ∃ x, r = some x ∧ aact A h (e + 1) (d_find (e + 1) v w) 2 (vm w + 9) x h') := by
                  intro n100
                  induction n100 using Nat.strongRecOn with
                  | ind n100 ih100 =>
                    intro k hm100 hk hno
                    refine me1 (pc' := 102) (L' := [(0, .ref p), (1, .ref q), (2, .ref h.length), (3, ii (i : Int)), (4, ii (k : Int))]) (S' := [ii (k : Int)]) dm_X9_found_100 rfl rfl rfl rfl ?_
                    refine me1 (pc' := 103) (L' := [(0, .ref p), (1, .ref q), (2, .ref h.length), (3, ii (i : Int)), (4, ii (k : Int))]) (S' := [.ref p, ii (k : Int)]) dm_X9_found_102 rfl rfl rfl rfl ?_
                    refine me3 (pc' := 106) (S' := [ii (vm v : Int), ii (k : Int)]) dm_X9_found_103 (g_get (v := ii (vm v : Int)) (hl_app hp) rfl rfl (by omega)) rfl rfl rfl ?_
                    refine y_2ge (a := (k : Int)) (b := (vm v : Int)) (t := 126) (pc' := 109) dm_X9_found_106 rfl rfl (by omega) (fun hb8 => ?_) (fun hb8 => ?_)
                    · have hfst : fstN (fun k => vsame (e + 1) (vit v k) (vit w i)) (vm v) = k := by rw [show k = vm v by omega]; exact fstN_no (fun j hj => hno j (by omega))
                      refine me1 (pc' := 127) (L' := [(0, .ref p), (1, .ref q), (2, .ref h.length), (3, ii (i : Int)), (4, ii (k : Int))]) (S' := [.ref h.length]) dm_X9_found_126 rfl rfl rfl rfl ?_
                      refine me1 (pc' := 128) (L' := [(0, .ref p), (1, .ref q), (2, .ref h.length), (3, ii (i : Int)), (4, ii (k : Int))]) (S' := [ii (i : Int), .ref h.length]) dm_X9_found_127 rfl rfl rfl rfl ?_
                      refine me1 (pc' := 130) (L' := [(0, .ref p), (1, .ref q), (2, .ref h.length), (3, ii (i : Int)), (4, ii (k : Int))]) (S' := [ii (k : Int), ii (i : Int), .ref h.length]) dm_X9_found_128 rfl rfl rfl rfl ?_
                      refine y_i2l (a := (k : Int)) dm_X9_found_130 (pc' := 131) rfl (by omega) (by omega) ?_
                      refine me3 (pc' := 132) (S' := []) (h1 := h ++ [cJ (vm w) (va_up G i (Int64.ofInt (k : Int)))]) dm_X9_found_131 (y_hs (yh_last (j := (i : Int)) hl_new (by omega) (by omega) (by omega) (by omega)) (by rw [show (i : Int).toNat = i from rfl]; exact (hl_setl))) rfl rfl rfl ?_
                      refine y_iinc (pc' := 135) (L' := [(3, ii ((i : Int) + 1)), (0, .ref p), (1, .ref q), (2, .ref h.length), (4, ii (k : Int))]) dm_X9_found_132 (y_incp (a := (i : Int)) (c := 1) rfl rfl (by decide)) rfl ?_
                      refine me2 (pc' := 91) (S' := []) dm_X9_found_135 rfl rfl rfl ?_
                      exact pg_sub (L := [(0, .ref p), (1, .ref q), (2, .ref h.length), (3, ii ((i + 1) : Int))]) rfl rfl rfl (ih91 (vm w - (i + 1)) (by omega) (i + 1) (va_up G i (Int64.ofInt (k : Int))) rfl (by omega) (fun j hj => by rw [up_at]; by_cases z : j = i; (subst z; rw [if_pos rfl, hfst]); (rw [if_neg z]; exact hG j (by omega))))
                    · refine me1 (pc' := 110) (L' := [(0, .ref p), (1, .ref q), (2, .ref h.length), (3, ii (i : Int)), (4, ii (k : Int))]) (S' := [.ref p]) dm_X9_found_109 rfl rfl rfl rfl ?_
                      refine me1 (pc' := 112) (L' := [(0, .ref p), (1, .ref q), (2, .ref h.length), (3, ii (i : Int)), (4, ii (k : Int))]) (S' := [ii (k : Int), .ref p]) dm_X9_found_110 rfl rfl rfl rfl ?_
                      refine me1 (pc' := 113) (L' := [(0, .ref p), (1, .ref q), (2, .ref h.length), (3, ii (i : Int)), (4, ii (k : Int))]) (S' := [.ref q, ii (k : Int), .ref p]) dm_X9_found_112 rfl rfl rfl rfl ?_
                      refine me1 (pc' := 114) (L' := [(0, .ref p), (1, .ref q), (2, .ref h.length), (3, ii (i : Int)), (4, ii (k : Int))]) (S' := [ii (i : Int), .ref q, ii (k : Int), .ref p]) dm_X9_found_113 rfl rfl rfl rfl ?_
                      refine x_cp (pc' := 117) (v := zz (vsame (e + 1) (vit v k) (vit w i))) (rest := []) dm_X9_found_114 rfl (g_invs (As := [.ref p, ii (k : Int), .ref q, ii (i : Int)]) (S := []) rfl rfl rfl) rfl rfl rfl (c_sameItems hx1 (by omega) (cv_app hv) (cv_app hw) (Or.inr (by omega)) (Or.inr (by omega)) (by omega) (by omega)) ?_
                      refine y_zne (c := vsame (e + 1) (vit v k) (vit w i)) (t := 126) (pc' := 120) dm_X9_found_117 rfl rfl (fun hb9 => ?_) (fun hb9 => ?_)
                      · have hfst : fstN (fun k => vsame (e + 1) (vit v k) (vit w i)) (vm v) = k := fstN_at (by omega) hno hb9
                        refine me1 (pc' := 127) (L' := [(0, .ref p), (1, .ref q), (2, .ref h.length), (3, ii (i : Int)), (4, ii (k : Int))]) (S' := [.ref h.length]) dm_X9_found_126 rfl rfl rfl rfl ?_
                        refine me1 (pc' := 128) (L' := [(0, .ref p), (1, .ref q), (2, .ref h.length), (3, ii (i : Int)), (4, ii (k : Int))]) (S' := [ii (i : Int), .ref h.length]) dm_X9_found_127 rfl rfl rfl rfl ?_
                        refine me1 (pc' := 130) (L' := [(0, .ref p), (1, .ref q), (2, .ref h.length), (3, ii (i : Int)), (4, ii (k : Int))]) (S' := [ii (k : Int), ii (i : Int), .ref h.length]) dm_X9_found_128 rfl rfl rfl rfl ?_
                        refine y_i2l (a := (k : Int)) dm_X9_found_130 (pc' := 131) rfl (by omega) (by omega) ?_
                        refine me3 (pc' := 132) (S' := []) (h1 := h ++ [cJ (vm w) (va_up G i (Int64.ofInt (k : Int)))]) dm_X9_found_131 (y_hs (yh_last (j := (i : Int)) hl_new (by omega) (by omega) (by omega) (by omega)) (by rw [show (i : Int).toNat = i from rfl]; exact (hl_setl))) rfl rfl rfl ?_
                        refine y_iinc (pc' := 135) (L' := [(3, ii ((i : Int) + 1)), (0, .ref p), (1, .ref q), (2, .ref h.length), (4, ii (k : Int))]) dm_X9_found_132 (y_incp (a := (i : Int)) (c := 1) rfl rfl (by decide)) rfl ?_
                        refine me2 (pc' := 91) (S' := []) dm_X9_found_135 rfl rfl rfl ?_
                        exact pg_sub (L := [(0, .ref p), (1, .ref q), (2, .ref h.length), (3, ii ((i + 1) : Int))]) rfl rfl rfl (ih91 (vm w - (i + 1)) (by omega) (i + 1) (va_up G i (Int64.ofInt (k : Int))) rfl (by omega) (fun j hj => by rw [up_at]; by_cases z : j = i; (subst z; rw [if_pos rfl, hfst]); (rw [if_neg z]; exact hG j (by omega))))
                      · refine y_iinc (pc' := 123) (L' := [(4, ii ((k : Int) + 1)), (0, .ref p), (1, .ref q), (2, .ref h.length), (3, ii (i : Int))]) dm_X9_found_120 (y_incp (a := (k : Int)) (c := 1) rfl rfl (by decide)) rfl ?_
                        refine me2 (pc' := 100) (S' := []) dm_X9_found_123 rfl rfl rfl ?_
                        exact pg_sub (L := [(0, .ref p), (1, .ref q), (2, .ref h.length), (3, ii (i : Int)), (4, ii ((k + 1) : Int))]) rfl rfl rfl (ih100 (vm v - (k + 1)) (by omega) (k + 1) rfl (by omega) (fun j hj => by by_cases z : j = k; (subst z; exact hb9); exact hno j (by omega)))
                exact pg_sub (L := [(0, .ref p), (1, .ref q), (2, .ref h.length), (3, ii (i : Int)), (4, ii (0 : Int))]) rfl rfl rfl (lp100 _ 0 rfl (Nat.zero_le _) (fun j hj => absurd hj (Nat.not_lt_zero j)))
          exact pg_sub (L := [(0, .ref p), (1, .ref q), (2, .ref h.length), (3, ii (0 : Int))]) rfl rfl rfl (lp91 _ 0 (fun _ => 0) rfl (Nat.zero_le _) (fun j hj => absurd hj (Nat.not_lt_zero j)))
        · replace hb6 := dT hb6
          refine me0 (pc' := 52) (S' := [ii 0]) dm_X9_found_51 rfl rfl rfl rfl ?_
          refine me1 (pc' := 53) (L' := [(2, ii 0), (0, .ref p), (1, .ref q)]) (S' := []) dm_X9_found_52 rfl rfl rfl rfl ?_
          have lp53 : ∀ (n53 : Nat) (k : Nat), vm v - k = n53 → (k ≤ vm v) → (∀ j, j < k → vsame (e + 1) (vit v j) w = false) → pgE xt (d - 1) 9 5 false (Option.some (Jvm.ClassFile.FieldType.object "ArrayCalculator$Value")) (mj_dec prog_11_method_8_code) 53 [(0, .ref p), (1, .ref q), (2, ii (k : Int))] [] h (fun r h' => ∃ x, r = some x ∧ aact A h (e + 1) (d_find (e + 1) v w) 2 (vm w + 9) x h') := by
            intro n53
            induction n53 using Nat.strongRecOn with
            | ind n53 ih53 =>
              intro k hm53 hk hno
              refine me1 (pc' := 54) (L' := [(0, .ref p), (1, .ref q), (2, ii (k : Int))]) (S' := [ii (k : Int)]) dm_X9_found_53 rfl rfl rfl rfl ?_
              refine me1 (pc' := 55) (L' := [(0, .ref p), (1, .ref q), (2, ii (k : Int))]) (S' := [.ref p, ii (k : Int)]) dm_X9_found_54 rfl rfl rfl rfl ?_
              refine me3 (pc' := 58) (S' := [ii (vm v : Int), ii (k : Int)]) dm_X9_found_55 (g_get (v := ii (vm v : Int)) hp rfl rfl (by omega)) rfl rfl rfl ?_
              refine y_2ge (a := (k : Int)) (b := (vm v : Int)) (t := 76) (pc' := 61) dm_X9_found_58 rfl rfl (by omega) (fun hb10 => ?_) (fun hb10 => ?_)
              · have hfst : fstN (fun k => vsame (e + 1) (vit v k) w) (vm v) = k := by rw [show k = vm v by omega]; exact fstN_no (fun j hj => hno j (by omega))
                refine me1 (pc' := 77) (L' := [(0, .ref p), (1, .ref q), (2, ii (k : Int))]) (S' := [ii (k : Int)]) dm_X9_found_76 rfl rfl rfl rfl ?_
                refine y_i2l (a := (k : Int)) dm_X9_found_77 (pc' := 78) rfl (by omega) (by omega) ?_
                refine x_cv (pc' := 81) (rest := []) dm_X9_found_78 rfl (g_invs (As := [.long (Int64.ofInt (k : Int))]) (S := []) rfl rfl rfl) rfl rfl rfl (c_number (q := h.length) (by omega) (by omega) rfl ) ?_
                rintro _ _ ⟨rfl, rfl⟩
                refine y_ret (r := some (.ref h.length)) dm_X9_found_81 rfl rfl rfl ?_
                refine ⟨_, rfl, h, scrS_rf h, hH, ?_⟩
                rw [show d_find (e + 1) v w = .inr (v1 0 (Int64.ofInt ((fstN (fun k => vsame (e + 1) (vit v k) w) (vm v) : Nat) : Int))) by unfold d_find; rw [if_neg (by omega), if_pos (by omega)], hfst]
                exact vres_one (k := 0) (by omega) (by omega) (by omega) (by omega)
              · refine me1 (pc' := 62) (L' := [(0, .ref p), (1, .ref q), (2, ii (k : Int))]) (S' := [.ref p]) dm_X9_found_61 rfl rfl rfl rfl ?_
                refine me1 (pc' := 63) (L' := [(0, .ref p), (1, .ref q), (2, ii (k : Int))]) (S' := [ii (k : Int), .ref p]) dm_X9_found_62 rfl rfl rfl rfl ?_
                refine me1 (pc' := 64) (L' := [(0, .ref p), (1, .ref q), (2, ii (k : Int))]) (S' := [.ref q, ii (k : Int), .ref p]) dm_X9_found_63 rfl rfl rfl rfl ?_
                refine x_cp (pc' := 67) (v := zz (vsame (e + 1) (vit v k) w)) (rest := []) dm_X9_found_64 rfl (g_invs (As := [.ref p, ii (k : Int), .ref q]) (S := []) rfl rfl rfl) rfl rfl rfl (c_sameItem hx1 (by omega) hv hw (Or.inr (by omega)) (by omega)) ?_
                refine y_zne (c := vsame (e + 1) (vit v k) w) (t := 76) (pc' := 70) dm_X9_found_67 rfl rfl (fun hb11 => ?_) (fun hb11 => ?_)
                · have hfst : fstN (fun k => vsame (e + 1) (vit v k) w) (vm v) = k := fstN_at (by omega) hno hb11
                  refine me1 (pc' := 77) (L' := [(0, .ref p), (1, .ref q), (2, ii (k : Int))]) (S' := [ii (k : Int)]) dm_X9_found_76 rfl rfl rfl rfl ?_
                  refine y_i2l (a := (k : Int)) dm_X9_found_77 (pc' := 78) rfl (by omega) (by omega) ?_
                  refine x_cv (pc' := 81) (rest := []) dm_X9_found_78 rfl (g_invs (As := [.long (Int64.ofInt (k : Int))]) (S := []) rfl rfl rfl) rfl rfl rfl (c_number (q := h.length) (by omega) (by omega) rfl ) ?_
                  rintro _ _ ⟨rfl, rfl⟩
                  refine y_ret (r := some (.ref h.length)) dm_X9_found_81 rfl rfl rfl ?_
                  refine ⟨_, rfl, h, scrS_rf h, hH, ?_⟩
                  rw [show d_find (e + 1) v w = .inr (v1 0 (Int64.ofInt ((fstN (fun k => vsame (e + 1) (vit v k) w) (vm v) : Nat) : Int))) by unfold d_find; rw [if_neg (by omega), if_pos (by omega)], hfst]
                  exact vres_one (k := 0) (by omega) (by omega) (by omega) (by omega)
                · refine y_iinc (pc' := 73) (L' := [(2, ii ((k : Int) + 1)), (0, .ref p), (1, .ref q)]) dm_X9_found_70 (y_incp (a := (k : Int)) (c := 1) rfl rfl (by decide)) rfl ?_
                  refine me2 (pc' := 53) (S' := []) dm_X9_found_73 rfl rfl rfl ?_
                  exact pg_sub (L := [(0, .ref p), (1, .ref q), (2, ii ((k + 1) : Int))]) rfl rfl rfl (ih53 (vm v - (k + 1)) (by omega) (k + 1) rfl (by omega) (fun j hj => by by_cases z : j = k; (subst z; exact hb11); exact hno j (by omega)))
          exact pg_sub (L := [(0, .ref p), (1, .ref q), (2, ii (0 : Int))]) rfl rfl rfl (lp53 _ 0 rfl (Nat.zero_le _) (fun j hj => absurd hj (Nat.not_lt_zero j)))
    · replace hb2 := dT hb2
      refine me1 (pc' := 15) (L' := [(0, .ref p), (1, .ref q)]) (S' := [.ref q]) dm_X9_found_14 rfl rfl rfl rfl ?_
      refine me3 (pc' := 18) (S' := [ii (vk w : Int)]) dm_X9_found_15 (g_get (v := ii (vk w : Int)) hq rfl rfl (by omega)) rfl rfl rfl ?_
      refine me0 (pc' := 20) (S' := [ii 6, ii (vk w : Int)]) dm_X9_found_18 rfl rfl rfl rfl ?_
      refine y_2eq (a := (vk w : Int)) (b := 6) (t := 32) (pc' := 23) dm_X9_found_20 rfl rfl (by omega) (fun hb12 => ?_) (fun hb12 => ?_)
      · refine me0 (pc' := 33) (S' := [ii 3]) dm_X9_found_32 rfl rfl rfl rfl ?_
        refine x_cv (pc' := 36) (rest := []) dm_X9_found_33 rfl (g_invs (As := [ii 3]) (S := []) rfl rfl rfl) rfl rfl rfl (c_fault (q := h.length) (by omega) (by omega) rfl (by omega)) ?_
        rintro _ _ ⟨rfl, rfl⟩
        refine y_ret (r := some (.ref h.length)) dm_X9_found_36 rfl rfl rfl ?_
        exact ⟨_, rfl, h, scrS_rf h, hH, by rw [show d_find (e + 1) v w = .inl 3 by unfold d_find; rw [if_pos (by omega)]]; exact ares_f 3 (by omega) (by omega) (by omega)⟩
      · refine me1 (pc' := 24) (L' := [(0, .ref p), (1, .ref q)]) (S' := [.ref q]) dm_X9_found_23 rfl rfl rfl rfl ?_
        refine me3 (pc' := 27) (S' := [ii (vk w : Int)]) dm_X9_found_24 (g_get (v := ii (vk w : Int)) hq rfl rfl (by omega)) rfl rfl rfl ?_
        refine me0 (pc' := 29) (S' := [ii 7, ii (vk w : Int)]) dm_X9_found_27 rfl rfl rfl rfl ?_
        refine y_2ne (a := (vk w : Int)) (b := 7) (t := 37) (pc' := 32) dm_X9_found_29 rfl rfl (by omega) (fun hb13 => ?_) (fun hb13 => ?_)
        · refine me1 (pc' := 38) (L' := [(0, .ref p), (1, .ref q)]) (S' := [.ref p]) dm_X9_found_37 rfl rfl rfl rfl ?_
          refine x_cp (pc' := 41) (v := zz (decide (2 ≤ vk v ∧ vk v ≤ 5))) (rest := []) dm_X9_found_38 rfl (g_inv (As := []) (S := []) hp rfl rfl rfl (by omega)) rfl rfl rfl (c_isRow (by omega) hv) ?_
          refine y_zeq (c := decide (2 ≤ vk v ∧ vk v ≤ 5)) (t := 51) (pc' := 44) dm_X9_found_41 rfl rfl (fun hb14 => ?_) (fun hb14 => ?_)
          · replace hb14 := dF hb14
            refine me0 (pc' := 52) (S' := [ii 0]) dm_X9_found_51 rfl rfl rfl rfl ?_
            refine me1 (pc' := 53) (L' := [(2, ii 0), (0, .ref p), (1, .ref q)]) (S' := []) dm_X9_found_52 rfl rfl rfl rfl ?_
            have lp53 : ∀ (n53 : Nat) (k : Nat), vm v - k = n53 → (k ≤ vm v) → (∀ j, j < k → vsame (e + 1) (vit v j) w = false) → pgE xt (d - 1) 9 5 false (Option.some (Jvm.ClassFile.FieldType.object "ArrayCalculator$Value")) (mj_dec prog_11_method_8_code) 53 [(0, .ref p), (1, .ref q), (2, ii (k : Int))] [] h (fun r h' => ∃ x, r = some x ∧ aact A h (e + 1) (d_find (e + 1) v w) 2 (vm w + 9) x h') := by
              intro n53
              induction n53 using Nat.strongRecOn with
              | ind n53 ih53 =>
                intro k hm53 hk hno
                refine me1 (pc' := 54) (L' := [(0, .ref p), (1, .ref q), (2, ii (k : Int))]) (S' := [ii (k : Int)]) dm_X9_found_53 rfl rfl rfl rfl ?_
                refine me1 (pc' := 55) (L' := [(0, .ref p), (1, .ref q), (2, ii (k : Int))]) (S' := [.ref p, ii (k : Int)]) dm_X9_found_54 rfl rfl rfl rfl ?_
                refine me3 (pc' := 58) (S' := [ii (vm v : Int), ii (k : Int)]) dm_X9_found_55 (g_get (v := ii (vm v : Int)) hp rfl rfl (by omega)) rfl rfl rfl ?_
                refine y_2ge (a := (k : Int)) (b := (vm v : Int)) (t := 76) (pc' := 61) dm_X9_found_58 rfl rfl (by omega) (fun hb15 => ?_) (fun hb15 => ?_)
                · have hfst : fstN (fun k => vsame (e + 1) (vit v k) w) (vm v) = k := by rw [show k = vm v by omega]; exact fstN_no (fun j hj => hno j (by omega))
                  refine me1 (pc' := 77) (L' := [(0, .ref p), (1, .ref q), (2, ii (k : Int))]) (S' := [ii (k : Int)]) dm_X9_found_76 rfl rfl rfl rfl ?_
                  refine y_i2l (a := (k : Int)) dm_X9_found_77 (pc' := 78) rfl (by omega) (by omega) ?_
                  refine x_cv (pc' := 81) (rest := []) dm_X9_found_78 rfl (g_invs (As := [.long (Int64.ofInt (k : Int))]) (S := []) rfl rfl rfl) rfl rfl rfl (c_number (q := h.length) (by omega) (by omega) rfl ) ?_
                  rintro _ _ ⟨rfl, rfl⟩
                  refine y_ret (r := some (.ref h.length)) dm_X9_found_81 rfl rfl rfl ?_
                  refine ⟨_, rfl, h, scrS_rf h, hH, ?_⟩
                  rw [show d_find (e + 1) v w = .inr (v1 0 (Int64.ofInt ((fstN (fun k => vsame (e + 1) (vit v k) w) (vm v) : Nat) : Int))) by unfold d_find; rw [if_neg (by omega), if_pos (by omega)], hfst]
                  exact vres_one (k := 0) (by omega) (by omega) (by omega) (by omega)
                · refine me1 (pc' := 62) (L' := [(0, .ref p), (1, .ref q), (2, ii (k : Int))]) (S' := [.ref p]) dm_X9_found_61 rfl rfl rfl rfl ?_
                  refine me1 (pc' := 63) (L' := [(0, .ref p), (1, .ref q), (2, ii (k : Int))]) (S' := [ii (k : Int), .ref p]) dm_X9_found_62 rfl rfl rfl rfl ?_
                  refine me1 (pc' := 64) (L' := [(0, .ref p), (1, .ref q), (2, ii (k : Int))]) (S' := [.ref q, ii (k : Int), .ref p]) dm_X9_found_63 rfl rfl rfl rfl ?_
                  refine x_cp (pc' := 67) (v := zz (vsame (e + 1) (vit v k) w)) (rest := []) dm_X9_found_64 rfl (g_invs (As := [.ref p, ii (k : Int), .ref q]) (S := []) rfl rfl rfl) rfl rfl rfl (c_sameItem hx1 (by omega) hv hw (Or.inr (by omega)) (by omega)) ?_
                  refine y_zne (c := vsame (e + 1) (vit v k) w) (t := 76) (pc' := 70) dm_X9_found_67 rfl rfl (fun hb16 => ?_) (fun hb16 => ?_)
                  · have hfst : fstN (fun k => vsame (e + 1) (vit v k) w) (vm v) = k := fstN_at (by omega) hno hb16
                    refine me1 (pc' := 77) (L' := [(0, .ref p), (1, .ref q), (2, ii (k : Int))]) (S' := [ii (k : Int)]) dm_X9_found_76 rfl rfl rfl rfl ?_
                    refine y_i2l (a := (k : Int)) dm_X9_found_77 (pc' := 78) rfl (by omega) (by omega) ?_
                    refine x_cv (pc' := 81) (rest := []) dm_X9_found_78 rfl (g_invs (As := [.long (Int64.ofInt (k : Int))]) (S := []) rfl rfl rfl) rfl rfl rfl (c_number (q := h.length) (by omega) (by omega) rfl ) ?_
                    rintro _ _ ⟨rfl, rfl⟩
                    refine y_ret (r := some (.ref h.length)) dm_X9_found_81 rfl rfl rfl ?_
                    refine ⟨_, rfl, h, scrS_rf h, hH, ?_⟩
                    rw [show d_find (e + 1) v w = .inr (v1 0 (Int64.ofInt ((fstN (fun k => vsame (e + 1) (vit v k) w) (vm v) : Nat) : Int))) by unfold d_find; rw [if_neg (by omega), if_pos (by omega)], hfst]
                    exact vres_one (k := 0) (by omega) (by omega) (by omega) (by omega)
                  · refine y_iinc (pc' := 73) (L' := [(2, ii ((k : Int) + 1)), (0, .ref p), (1, .ref q)]) dm_X9_found_70 (y_incp (a := (k : Int)) (c := 1) rfl rfl (by decide)) rfl ?_
                    refine me2 (pc' := 53) (S' := []) dm_X9_found_73 rfl rfl rfl ?_
                    exact pg_sub (L := [(0, .ref p), (1, .ref q), (2, ii ((k + 1) : Int))]) rfl rfl rfl (ih53 (vm v - (k + 1)) (by omega) (k + 1) rfl (by omega) (fun j hj => by by_cases z : j = k; (subst z; exact hb16); exact hno j (by omega)))
            exact pg_sub (L := [(0, .ref p), (1, .ref q), (2, ii (0 : Int))]) rfl rfl rfl (lp53 _ 0 rfl (Nat.zero_le _) (fun j hj => absurd hj (Nat.not_lt_zero j)))
          · replace hb14 := dT hb14
            refine me1 (pc' := 45) (L' := [(0, .ref p), (1, .ref q)]) (S' := [.ref q]) dm_X9_found_44 rfl rfl rfl rfl ?_
            refine x_cp (pc' := 48) (v := zz (decide (vk w ≤ 1))) (rest := []) dm_X9_found_45 rfl (g_inv (As := []) (S := []) hq rfl rfl rfl (by omega)) rfl rfl rfl (c_isOne (by omega) hw) ?_
            refine y_zeq (c := decide (vk w ≤ 1)) (t := 82) (pc' := 51) dm_X9_found_48 rfl rfl (fun hb17 => ?_) (fun hb17 => ?_)
            · replace hb17 := dF hb17
              refine me1 (pc' := 83) (L' := [(0, .ref p), (1, .ref q)]) (S' := [.ref q]) dm_X9_found_82 rfl rfl rfl rfl ?_
              refine me3 (pc' := 86) (S' := [ii (vm w : Int)]) dm_X9_found_83 (g_get (v := ii (vm w : Int)) hq rfl rfl (by omega)) rfl rfl rfl ?_
              refine me3 (pc' := 88) (S' := [.ref h.length]) (h1 := h ++ [cJ ((vm w : Int).toNat) (fun _ => 0)]) dm_X9_found_86 (yh_newJ (by omega) (by omega) (by omega) rfl) rfl rfl rfl ?_
              refine me1 (pc' := 89) (L' := [(2, .ref h.length), (0, .ref p), (1, .ref q)]) (S' := []) dm_X9_found_88 rfl rfl rfl rfl ?_
              refine me0 (pc' := 90) (S' := [ii 0]) dm_X9_found_89 rfl rfl rfl rfl ?_
              refine me1 (pc' := 91) (L' := [(3, ii 0), (2, .ref h.length), (0, .ref p), (1, .ref q)]) (S' := []) dm_X9_found_90 rfl rfl rfl rfl ?_
              have lp91 : ∀ (n91 : Nat) (i : Nat) (G : Nat → Int64), vm w - i = n91 → (i ≤ vm w) → (∀ j, j < i → G j = Int64.ofInt ((fstN (fun k => vsame (e + 1) (vit v k) (vit w j)) (vm v) : Nat) : Int)) → pgE xt (d - 1) 9 5 false (Option.some (Jvm.ClassFile.FieldType.object "ArrayCalculator$Value")) (mj_dec prog_11_method_8_code) 91 [(0, .ref p), (1, .ref q), (2, .ref h.length), (3, ii (i : Int))] [] (h ++ [cJ (vm w) G]) (fun r h' => ∃ x, r = some x ∧ aact A h (e + 1) (d_find (e + 1) v w) 2 (vm w + 9) x h') := by
                intro n91
                induction n91 using Nat.strongRecOn with
                | ind n91 ih91 =>
                  intro i G hm91 hi hG
                  refine me1 (pc' := 92) (L' := [(0, .ref p), (1, .ref q), (2, .ref h.length), (3, ii (i : Int))]) (S' := [ii (i : Int)]) dm_X9_found_91 rfl rfl rfl rfl ?_
                  refine me1 (pc' := 93) (L' := [(0, .ref p), (1, .ref q), (2, .ref h.length), (3, ii (i : Int))]) (S' := [.ref h.length, ii (i : Int)]) dm_X9_found_92 rfl rfl rfl rfl ?_
                  refine me3 (pc' := 94) (S' := [ii (vm w), ii (i : Int)]) dm_X9_found_93 (yh_len (n := vm w) rfl hl_new (by omega)) rfl rfl rfl ?_
                  refine y_2ge (a := (i : Int)) (b := vm w) (t := 138) (pc' := 97) dm_X9_found_94 rfl rfl (by omega) (fun hb18 => ?_) (fun hb18 => ?_)
                  · refine me0 (pc' := 139) (S' := [ii 4]) dm_X9_found_138 rfl rfl rfl rfl ?_
                    refine me1 (pc' := 140) (L' := [(0, .ref p), (1, .ref q), (2, .ref h.length), (3, ii (i : Int))]) (S' := [.ref h.length, ii 4]) dm_X9_found_139 rfl rfl rfl rfl ?_
                    refine x_cv (pc' := 143) (rest := []) dm_X9_found_140 rfl (g_invs (As := [ii 4, .ref h.length]) (S := []) rfl rfl rfl) rfl rfl rfl (c_row (hx1 := hx1) (q := h.length + 1) (by omega) (by simp; omega) (by simp) (by omega) (show rowAt (fun _ => True) _ _ _ _ from Or.inr ⟨by omega, hl_new, by omega, trivial⟩) (by omega)) ?_
                    rintro _ _ ⟨rfl, rfl⟩
                    refine y_ret (r := some (.ref (h.length + 1))) dm_X9_found_143 rfl rfl rfl ?_
                    refine ⟨_, rfl, h, scrS_rf h, hH, ?_⟩
                    have hin : i = vm w := by omega
                    rw [show d_find (e + 1) v w = .inr (vrow 4 (vm w) (fun i => Int64.ofInt ((fstN (fun k => vsame (e + 1) (vit v k) (vit w i)) (vm v) : Nat) : Int))) by unfold d_find; rw [if_neg (by omega), if_neg (by omega)]]
                    exact vres_flat (w := vrow 4 (vm w) (fun i => Int64.ofInt ((fstN (fun k => vsame (e + 1) (vit v k) (vit w i)) (vm v) : Nat) : Int))) (by omega) (vw1_row (by omega) (by omega) (by omega)) (by show 2 ≤ 4; omega) (by show 4 ≤ 6; omega) (vq_row (by omega)) (fun j hj => hG j (by omega)) (by omega) (by omega)
                  · refine me0 (pc' := 98) (S' := [ii 0]) dm_X9_found_97 rfl rfl rfl rfl ?_
                    refine me1 (pc' := 100) (L' := [(4, ii 0), (0, .ref p), (1, .ref q), (2, .ref h.length), (3, ii (i : Int))]) (S' := []) dm_X9_found_98 rfl rfl rfl rfl ?_
                    have lp100 : ∀ (n100 : Nat) (k : Nat), vm v - k = n100 → (k ≤ vm v) → (∀ j, j < k → vsame (e + 1) (vit v j) (vit w i) = false) → pgE xt (d - 1) 9 5 false (Option.some (Jvm.ClassFile.FieldType.object "ArrayCalculator$Value")) (mj_dec prog_11_method_8_code) 100 [(0, .ref p), (1, .ref q), (2, .ref h.length), (3, ii (i : Int)), (4, ii (k : Int))] [] (h ++ [cJ (vm w) G]) (fun r h' => ∃ x, r = some x ∧ aact A h (e + 1) (d_find (e + 1) v w) 2 (vm w + 9) x h') := by
                      intro n100
                      induction n100 using Nat.strongRecOn with
                      | ind n100 ih100 =>
                        intro k hm100 hk hno
                        refine me1 (pc' := 102) (L' := [(0, .ref p), (1, .ref q), (2, .ref h.length), (3, ii (i : Int)), (4, ii (k : Int))]) (S' := [ii (k : Int)]) dm_X9_found_100 rfl rfl rfl rfl ?_
                        refine me1 (pc' := 103) (L' := [(0, .ref p), (1, .ref q), (2, .ref h.length), (3, ii (i : Int)), (4, ii (k : Int))]) (S' := [.ref p, ii (k : Int)]) dm_X9_found_102 rfl rfl rfl rfl ?_
                        refine me3 (pc' := 106) (S' := [ii (vm v : Int), ii (k : Int)]) dm_X9_found_103 (g_get (v := ii (vm v : Int)) (hl_app hp) rfl rfl (by omega)) rfl rfl rfl ?_
                        refine y_2ge (a := (k : Int)) (b := (vm v : Int)) (t := 126) (pc' := 109) dm_X9_found_106 rfl rfl (by omega) (fun hb19 => ?_) (fun hb19 => ?_)
                        · have hfst : fstN (fun k => vsame (e + 1) (vit v k) (vit w i)) (vm v) = k := by rw [show k = vm v by omega]; exact fstN_no (fun j hj => hno j (by omega))
                          refine me1 (pc' := 127) (L' := [(0, .ref p), (1, .ref q), (2, .ref h.length), (3, ii (i : Int)), (4, ii (k : Int))]) (S' := [.ref h.length]) dm_X9_found_126 rfl rfl rfl rfl ?_
                          refine me1 (pc' := 128) (L' := [(0, .ref p), (1, .ref q), (2, .ref h.length), (3, ii (i : Int)), (4, ii (k : Int))]) (S' := [ii (i : Int), .ref h.length]) dm_X9_found_127 rfl rfl rfl rfl ?_
                          refine me1 (pc' := 130) (L' := [(0, .ref p), (1, .ref q), (2, .ref h.length), (3, ii (i : Int)), (4, ii (k : Int))]) (S' := [ii (k : Int), ii (i : Int), .ref h.length]) dm_X9_found_128 rfl rfl rfl rfl ?_
                          refine y_i2l (a := (k : Int)) dm_X9_found_130 (pc' := 131) rfl (by omega) (by omega) ?_
                          refine me3 (pc' := 132) (S' := []) (h1 := h ++ [cJ (vm w) (va_up G i (Int64.ofInt (k : Int)))]) dm_X9_found_131 (y_hs (yh_last (j := (i : Int)) hl_new (by omega) (by omega) (by omega) (by omega)) (by rw [show (i : Int).toNat = i from rfl]; exact (hl_setl))) rfl rfl rfl ?_
                          refine y_iinc (pc' := 135) (L' := [(3, ii ((i : Int) + 1)), (0, .ref p), (1, .ref q), (2, .ref h.length), (4, ii (k : Int))]) dm_X9_found_132 (y_incp (a := (i : Int)) (c := 1) rfl rfl (by decide)) rfl ?_
                          refine me2 (pc' := 91) (S' := []) dm_X9_found_135 rfl rfl rfl ?_
                          exact pg_sub (L := [(0, .ref p), (1, .ref q), (2, .ref h.length), (3, ii ((i + 1) : Int))]) rfl rfl rfl (ih91 (vm w - (i + 1)) (by omega) (i + 1) (va_up G i (Int64.ofInt (k : Int))) rfl (by omega) (fun j hj => by rw [up_at]; by_cases z : j = i; (subst z; rw [if_pos rfl, hfst]); (rw [if_neg z]; exact hG j (by omega))))
                        · refine me1 (pc' := 110) (L' := [(0, .ref p), (1, .ref q), (2, .ref h.length), (3, ii (i : Int)), (4, ii (k : Int))]) (S' := [.ref p]) dm_X9_found_109 rfl rfl rfl rfl ?_
                          refine me1 (pc' := 112) (L' := [(0, .ref p), (1, .ref q), (2, .ref h.length), (3, ii (i : Int)), (4, ii (k : Int))]) (S' := [ii (k : Int), .ref p]) dm_X9_found_110 rfl rfl rfl rfl ?_
                          refine me1 (pc' := 113) (L' := [(0, .ref p), (1, .ref q), (2, .ref h.length), (3, ii (i : Int)), (4, ii (k : Int))]) (S' := [.ref q, ii (k : Int), .ref p]) dm_X9_found_112 rfl rfl rfl rfl ?_
                          refine me1 (pc' := 114) (L' := [(0, .ref p), (1, .ref q), (2, .ref h.length), (3, ii (i : Int)), (4, ii (k : Int))]) (S' := [ii (i : Int), .ref q, ii (k : Int), .ref p]) dm_X9_found_113 rfl rfl rfl rfl ?_
                          refine x_cp (pc' := 117) (v := zz (vsame (e + 1) (vit v k) (vit w i))) (rest := []) dm_X9_found_114 rfl (g_invs (As := [.ref p, ii (k : Int), .ref q, ii (i : Int)]) (S := []) rfl rfl rfl) rfl rfl rfl (c_sameItems hx1 (by omega) (cv_app hv) (cv_app hw) (Or.inr (by omega)) (Or.inr (by omega)) (by omega) (by omega)) ?_
                          refine y_zne (c := vsame (e + 1) (vit v k) (vit w i)) (t := 126) (pc' := 120) dm_X9_found_117 rfl rfl (fun hb20 => ?_) (fun hb20 => ?_)
                          · have hfst : fstN (fun k => vsame (e + 1) (vit v k) (vit w i)) (vm v) = k := fstN_at (by omega) hno hb20
                            refine me1 (pc' := 127) (L' := [(0, .ref p), (1, .ref q), (2, .ref h.length), (3, ii (i : Int)), (4, ii (k : Int))]) (S' := [.ref h.length]) dm_X9_found_126 rfl rfl rfl rfl ?_
                            refine me1 (pc' := 128) (L' := [(0, .ref p), (1, .ref q), (2, .ref h.length), (3, ii (i : Int)), (4, ii (k : Int))]) (S' := [ii (i : Int), .ref h.length]) dm_X9_found_127 rfl rfl rfl rfl ?_
                            refine me1 (pc' := 130) (L' := [(0, .ref p), (1, .ref q), (2, .ref h.length), (3, ii (i : Int)), (4, ii (k : Int))]) (S' := [ii (k : Int), ii (i : Int), .ref h.length]) dm_X9_found_128 rfl rfl rfl rfl ?_
                            refine y_i2l (a := (k : Int)) dm_X9_found_130 (pc' := 131) rfl (by omega) (by omega) ?_
                            refine me3 (pc' := 132) (S' := []) (h1 := h ++ [cJ (vm w) (va_up G i (Int64.ofInt (k : Int)))]) dm_X9_found_131 (y_hs (yh_last (j := (i : Int)) hl_new (by omega) (by omega) (by omega) (by omega)) (by rw [show (i : Int).toNat = i from rfl]; exact (hl_setl))) rfl rfl rfl ?_
                            refine y_iinc (pc' := 135) (L' := [(3, ii ((i : Int) + 1)), (0, .ref p), (1, .ref q), (2, .ref h.length), (4, ii (k : Int))]) dm_X9_found_132 (y_incp (a := (i : Int)) (c := 1) rfl rfl (by decide)) rfl ?_
                            refine me2 (pc' := 91) (S' := []) dm_X9_found_135 rfl rfl rfl ?_
                            exact pg_sub (L := [(0, .ref p), (1, .ref q), (2, .ref h.length), (3, ii ((i + 1) : Int))]) rfl rfl rfl (ih91 (vm w - (i + 1)) (by omega) (i + 1) (va_up G i (Int64.ofInt (k : Int))) rfl (by omega) (fun j hj => by rw [up_at]; by_cases z : j = i; (subst z; rw [if_pos rfl, hfst]); (rw [if_neg z]; exact hG j (by omega))))
                          · refine y_iinc (pc' := 123) (L' := [(4, ii ((k : Int) + 1)), (0, .ref p), (1, .ref q), (2, .ref h.length), (3, ii (i : Int))]) dm_X9_found_120 (y_incp (a := (k : Int)) (c := 1) rfl rfl (by decide)) rfl ?_
                            refine me2 (pc' := 100) (S' := []) dm_X9_found_123 rfl rfl rfl ?_
                            exact pg_sub (L := [(0, .ref p), (1, .ref q), (2, .ref h.length), (3, ii (i : Int)), (4, ii ((k + 1) : Int))]) rfl rfl rfl (ih100 (vm v - (k + 1)) (by omega) (k + 1) rfl (by omega) (fun j hj => by by_cases z : j = k; (subst z; exact hb20); exact hno j (by omega)))
                    exact pg_sub (L := [(0, .ref p), (1, .ref q), (2, .ref h.length), (3, ii (i : Int)), (4, ii (0 : Int))]) rfl rfl rfl (lp100 _ 0 rfl (Nat.zero_le _) (fun j hj => absurd hj (Nat.not_lt_zero j)))
              exact pg_sub (L := [(0, .ref p), (1, .ref q), (2, .ref h.length), (3, ii (0 : Int))]) rfl rfl rfl (lp91 _ 0 (fun _ => 0) rfl (Nat.zero_le _) (fun j hj => absurd hj (Nat.not_lt_zero j)))
            · replace hb17 := dT hb17
              refine me0 (pc' := 52) (S' := [ii 0]) dm_X9_found_51 rfl rfl rfl rfl ?_
              refine me1 (pc' := 53) (L' := [(2, ii 0), (0, .ref p), (1, .ref q)]) (S' := []) dm_X9_found_52 rfl rfl rfl rfl ?_
              have lp53 : ∀ (n53 : Nat) (k : Nat), vm v - k = n53 → (k ≤ vm v) → (∀ j, j < k → vsame (e + 1) (vit v j) w = false) → pgE xt (d - 1) 9 5 false (Option.some (Jvm.ClassFile.FieldType.object "ArrayCalculator$Value")) (mj_dec prog_11_method_8_code) 53 [(0, .ref p), (1, .ref q), (2, ii (k : Int))] [] h (fun r h' => ∃ x, r = some x ∧ aact A h (e + 1) (d_find (e + 1) v w) 2 (vm w + 9) x h') := by
                intro n53
                induction n53 using Nat.strongRecOn with
                | ind n53 ih53 =>
                  intro k hm53 hk hno
                  refine me1 (pc' := 54) (L' := [(0, .ref p), (1, .ref q), (2, ii (k : Int))]) (S' := [ii (k : Int)]) dm_X9_found_53 rfl rfl rfl rfl ?_
                  refine me1 (pc' := 55) (L' := [(0, .ref p), (1, .ref q), (2, ii (k : Int))]) (S' := [.ref p, ii (k : Int)]) dm_X9_found_54 rfl rfl rfl rfl ?_
                  refine me3 (pc' := 58) (S' := [ii (vm v : Int), ii (k : Int)]) dm_X9_found_55 (g_get (v := ii (vm v : Int)) hp rfl rfl (by omega)) rfl rfl rfl ?_
                  refine y_2ge (a := (k : Int)) (b := (vm v : Int)) (t := 76) (pc' := 61) dm_X9_found_58 rfl rfl (by omega) (fun hb21 => ?_) (fun hb21 => ?_)
                  · have hfst : fstN (fun k => vsame (e + 1) (vit v k) w) (vm v) = k := by rw [show k = vm v by omega]; exact fstN_no (fun j hj => hno j (by omega))
                    refine me1 (pc' := 77) (L' := [(0, .ref p), (1, .ref q), (2, ii (k : Int))]) (S' := [ii (k : Int)]) dm_X9_found_76 rfl rfl rfl rfl ?_
                    refine y_i2l (a := (k : Int)) dm_X9_found_77 (pc' := 78) rfl (by omega) (by omega) ?_
                    refine x_cv (pc' := 81) (rest := []) dm_X9_found_78 rfl (g_invs (As := [.long (Int64.ofInt (k : Int))]) (S := []) rfl rfl rfl) rfl rfl rfl (c_number (q := h.length) (by omega) (by omega) rfl ) ?_
                    rintro _ _ ⟨rfl, rfl⟩
                    refine y_ret (r := some (.ref h.length)) dm_X9_found_81 rfl rfl rfl ?_
                    refine ⟨_, rfl, h, scrS_rf h, hH, ?_⟩
                    rw [show d_find (e + 1) v w = .inr (v1 0 (Int64.ofInt ((fstN (fun k => vsame (e + 1) (vit v k) w) (vm v) : Nat) : Int))) by unfold d_find; rw [if_neg (by omega), if_pos (by omega)], hfst]
                    exact vres_one (k := 0) (by omega) (by omega) (by omega) (by omega)
                  · refine me1 (pc' := 62) (L' := [(0, .ref p), (1, .ref q), (2, ii (k : Int))]) (S' := [.ref p]) dm_X9_found_61 rfl rfl rfl rfl ?_
                    refine me1 (pc' := 63) (L' := [(0, .ref p), (1, .ref q), (2, ii (k : Int))]) (S' := [ii (k : Int), .ref p]) dm_X9_found_62 rfl rfl rfl rfl ?_
                    refine me1 (pc' := 64) (L' := [(0, .ref p), (1, .ref q), (2, ii (k : Int))]) (S' := [.ref q, ii (k : Int), .ref p]) dm_X9_found_63 rfl rfl rfl rfl ?_
                    refine x_cp (pc' := 67) (v := zz (vsame (e + 1) (vit v k) w)) (rest := []) dm_X9_found_64 rfl (g_invs (As := [.ref p, ii (k : Int), .ref q]) (S := []) rfl rfl rfl) rfl rfl rfl (c_sameItem hx1 (by omega) hv hw (Or.inr (by omega)) (by omega)) ?_
                    refine y_zne (c := vsame (e + 1) (vit v k) w) (t := 76) (pc' := 70) dm_X9_found_67 rfl rfl (fun hb22 => ?_) (fun hb22 => ?_)
                    · have hfst : fstN (fun k => vsame (e + 1) (vit v k) w) (vm v) = k := fstN_at (by omega) hno hb22
                      refine me1 (pc' := 77) (L' := [(0, .ref p), (1, .ref q), (2, ii (k : Int))]) (S' := [ii (k : Int)]) dm_X9_found_76 rfl rfl rfl rfl ?_
                      refine y_i2l (a := (k : Int)) dm_X9_found_77 (pc' := 78) rfl (by omega) (by omega) ?_
                      refine x_cv (pc' := 81) (rest := []) dm_X9_found_78 rfl (g_invs (As := [.long (Int64.ofInt (k : Int))]) (S := []) rfl rfl rfl) rfl rfl rfl (c_number (q := h.length) (by omega) (by omega) rfl ) ?_
                      rintro _ _ ⟨rfl, rfl⟩
                      refine y_ret (r := some (.ref h.length)) dm_X9_found_81 rfl rfl rfl ?_
                      refine ⟨_, rfl, h, scrS_rf h, hH, ?_⟩
                      rw [show d_find (e + 1) v w = .inr (v1 0 (Int64.ofInt ((fstN (fun k => vsame (e + 1) (vit v k) w) (vm v) : Nat) : Int))) by unfold d_find; rw [if_neg (by omega), if_pos (by omega)], hfst]
                      exact vres_one (k := 0) (by omega) (by omega) (by omega) (by omega)
                    · refine y_iinc (pc' := 73) (L' := [(2, ii ((k : Int) + 1)), (0, .ref p), (1, .ref q)]) dm_X9_found_70 (y_incp (a := (k : Int)) (c := 1) rfl rfl (by decide)) rfl ?_
                      refine me2 (pc' := 53) (S' := []) dm_X9_found_73 rfl rfl rfl ?_
                      exact pg_sub (L := [(0, .ref p), (1, .ref q), (2, ii ((k + 1) : Int))]) rfl rfl rfl (ih53 (vm v - (k + 1)) (by omega) (k + 1) rfl (by omega) (fun j hj => by by_cases z : j = k; (subst z; exact hb22); exact hno j (by omega)))
              exact pg_sub (L := [(0, .ref p), (1, .ref q), (2, ii (0 : Int))]) rfl rfl rfl (lp53 _ 0 rfl (Nat.zero_le _) (fun j hj => absurd hj (Nat.not_lt_zero j)))
        · refine me0 (pc' := 33) (S' := [ii 3]) dm_X9_found_32 rfl rfl rfl rfl ?_
          refine x_cv (pc' := 36) (rest := []) dm_X9_found_33 rfl (g_invs (As := [ii 3]) (S := []) rfl rfl rfl) rfl rfl rfl (c_fault (q := h.length) (by omega) (by omega) rfl (by omega)) ?_
          rintro _ _ ⟨rfl, rfl⟩
          refine y_ret (r := some (.ref h.length)) dm_X9_found_36 rfl rfl rfl ?_
          exact ⟨_, rfl, h, scrS_rf h, hH, by rw [show d_find (e + 1) v w = .inl 3 by unfold d_find; rw [if_pos (by omega)]]; exact ares_f 3 (by omega) (by omega) (by omega)⟩
set_option maxRecDepth 20000 in
theorem pm_X9_without : mj_mmof pg_ms 155 = some ((⟨"ArrayCalculator$TwoAct", "without", "(LArrayCalculator$Value;LArrayCalculator$Value;)LArrayCalculator$Value;"⟩, prog_11_method_13_code, 6, (Option.some (Jvm.ClassFile.FieldType.object "ArrayCalculator$Value"))), 9, false, mj_dec prog_11_method_13_code) := rfl
theorem dm_X9_without_0 : mj_dec prog_11_method_13_code 0 = some (.aload_n 1, 1) := by decide +kernel
theorem dm_X9_without_1 : mj_dec prog_11_method_13_code 1 = some (.invokevirtual 140, 3) := by decide +kernel
theorem dm_X9_without_4 : mj_dec prog_11_method_13_code 4 = some (.ifCond .eq 8, 3) := by decide +kernel
theorem dm_X9_without_7 : mj_dec prog_11_method_13_code 7 = some (.iconst 3, 1) := by decide +kernel
theorem dm_X9_without_8 : mj_dec prog_11_method_13_code 8 = some (.invokestatic 81, 3) := by decide +kernel
theorem dm_X9_without_11 : mj_dec prog_11_method_13_code 11 = some (.areturn, 1) := by decide +kernel
theorem dm_X9_without_12 : mj_dec prog_11_method_13_code 12 = some (.iconst 0, 1) := by decide +kernel
theorem dm_X9_without_13 : mj_dec prog_11_method_13_code 13 = some (.istore_n 3, 1) := by decide +kernel
theorem dm_X9_without_14 : mj_dec prog_11_method_13_code 14 = some (.iconst 0, 1) := by decide +kernel
theorem dm_X9_without_15 : mj_dec prog_11_method_13_code 15 = some (.istore 4, 2) := by decide +kernel
theorem dm_X9_without_17 : mj_dec prog_11_method_13_code 17 = some (.iload 4, 2) := by decide +kernel
theorem dm_X9_without_19 : mj_dec prog_11_method_13_code 19 = some (.aload_n 1, 1) := by decide +kernel
theorem dm_X9_without_20 : mj_dec prog_11_method_13_code 20 = some (.getfield 94, 3) := by decide +kernel
theorem dm_X9_without_23 : mj_dec prog_11_method_13_code 23 = some (.if_icmp .ge 59, 3) := by decide +kernel
theorem dm_X9_without_26 : mj_dec prog_11_method_13_code 26 = some (.iconst 0, 1) := by decide +kernel
theorem dm_X9_without_27 : mj_dec prog_11_method_13_code 27 = some (.istore 5, 2) := by decide +kernel
theorem dm_X9_without_29 : mj_dec prog_11_method_13_code 29 = some (.iload 5, 2) := by decide +kernel
theorem dm_X9_without_31 : mj_dec prog_11_method_13_code 31 = some (.aload_n 2, 1) := by decide +kernel
theorem dm_X9_without_32 : mj_dec prog_11_method_13_code 32 = some (.getfield 94, 3) := by decide +kernel
theorem dm_X9_without_35 : mj_dec prog_11_method_13_code 35 = some (.if_icmp .ge 21, 3) := by decide +kernel
theorem dm_X9_without_38 : mj_dec prog_11_method_13_code 38 = some (.aload_n 1, 1) := by decide +kernel
theorem dm_X9_without_39 : mj_dec prog_11_method_13_code 39 = some (.iload 4, 2) := by decide +kernel
theorem dm_X9_without_41 : mj_dec prog_11_method_13_code 41 = some (.aload_n 2, 1) := by decide +kernel
theorem dm_X9_without_42 : mj_dec prog_11_method_13_code 42 = some (.iload 5, 2) := by decide +kernel
theorem dm_X9_without_44 : mj_dec prog_11_method_13_code 44 = some (.invokestatic 184, 3) := by decide +kernel
theorem dm_X9_without_47 : mj_dec prog_11_method_13_code 47 = some (.ifCond .ne 9, 3) := by decide +kernel
theorem dm_X9_without_50 : mj_dec prog_11_method_13_code 50 = some (.iinc 5 1, 3) := by decide +kernel
theorem dm_X9_without_53 : mj_dec prog_11_method_13_code 53 = some (.goto (-24), 3) := by decide +kernel
theorem dm_X9_without_56 : mj_dec prog_11_method_13_code 56 = some (.iload 5, 2) := by decide +kernel
theorem dm_X9_without_58 : mj_dec prog_11_method_13_code 58 = some (.aload_n 2, 1) := by decide +kernel
theorem dm_X9_without_59 : mj_dec prog_11_method_13_code 59 = some (.getfield 94, 3) := by decide +kernel
theorem dm_X9_without_62 : mj_dec prog_11_method_13_code 62 = some (.if_icmp .ne 14, 3) := by decide +kernel
theorem dm_X9_without_65 : mj_dec prog_11_method_13_code 65 = some (.aload_n 0, 1) := by decide +kernel
theorem dm_X9_without_66 : mj_dec prog_11_method_13_code 66 = some (.getfield 18, 3) := by decide +kernel
theorem dm_X9_without_69 : mj_dec prog_11_method_13_code 69 = some (.iload_n 3, 1) := by decide +kernel
theorem dm_X9_without_70 : mj_dec prog_11_method_13_code 70 = some (.iload 4, 2) := by decide +kernel
theorem dm_X9_without_72 : mj_dec prog_11_method_13_code 72 = some (.iastore, 1) := by decide +kernel
theorem dm_X9_without_73 : mj_dec prog_11_method_13_code 73 = some (.iinc 3 1, 3) := by decide +kernel
theorem dm_X9_without_76 : mj_dec prog_11_method_13_code 76 = some (.iinc 4 1, 3) := by decide +kernel
theorem dm_X9_without_79 : mj_dec prog_11_method_13_code 79 = some (.goto (-62), 3) := by decide +kernel
theorem dm_X9_without_82 : mj_dec prog_11_method_13_code 82 = some (.aload_n 1, 1) := by decide +kernel
theorem dm_X9_without_83 : mj_dec prog_11_method_13_code 83 = some (.aload_n 0, 1) := by decide +kernel
theorem dm_X9_without_84 : mj_dec prog_11_method_13_code 84 = some (.getfield 18, 3) := by decide +kernel
theorem dm_X9_without_87 : mj_dec prog_11_method_13_code 87 = some (.iload_n 3, 1) := by decide +kernel
theorem dm_X9_without_88 : mj_dec prog_11_method_13_code 88 = some (.invokevirtual 157, 3) := by decide +kernel
theorem dm_X9_without_91 : mj_dec prog_11_method_13_code 91 = some (.areturn, 1) := by decide +kernel
theorem t_without {xt : mj_X} {d e p q : Nat} {A : Nat → Prop} {h : mj_H} {v w : VV} {f1 : Nat → Value} (hx1 : xt 1 = some (.long, 0, f1)) (hd : 4 * e + 20 ≤ d) (hl : 127 ≤ h.length) (hA : okA A h) (hH : actH h) (hv : cv A h (e + 1) p v) (hw : cv A h (e + 1) q w) (he : e ≤ 20) (hset : vsz (e + 1) v ≤ 1000) (hset2 : vsz (e + 1) w ≤ 1000) : pgV xt d 155 [.ref 26, .ref p, .ref q] h (aact A h (e + 1) (d_wo (e + 1) v w) 2 (pcl v (flt (woF (e + 1) v w) (vm v)).1 + 9)) := by
  obtain ⟨-, -, -, -, -, -, -, -, ⟨ft0, h26⟩, -, -, ⟨pf0, h29⟩, ⟨nf0, h30⟩, ⟨uf0, h31⟩⟩ := id hH
  have hcv := vw1_c hv.1
  have hcw := vw1_c hw.1
  obtain ⟨row, fr, vals, hp, hp2, hpA, hvk, hvm, hvc, hvs, hvl⟩ := cv_val hv
  obtain ⟨row2, fr2, vals2, hq, hq2, hqA, hwk, hwm, hwc, hws, hwl⟩ := cv_val hw
  have hpb := hA p hpA
  have hqb := hA q hqA
  refine x_enter pm_X9_without (L0 := [(0, .ref 26), (1, .ref p), (2, .ref q)]) rfl (Nat.le_of_ble_eq_true rfl) (by omega) ?_
  refine me1 (pc' := 1) (L' := [(0, .ref 26), (1, .ref p), (2, .ref q)]) (S' := [.ref p]) dm_X9_without_0 rfl rfl rfl rfl ?_
  refine x_cp (pc' := 4) (v := zz (decide (vk v ≤ 1))) (rest := []) dm_X9_without_1 rfl (g_inv (As := []) (S := []) hp rfl rfl rfl (by omega)) rfl rfl rfl (c_isOne (by omega) hv) ?_
  refine y_zeq (c := decide (vk v ≤ 1)) (t := 12) (pc' := 7) dm_X9_without_4 rfl rfl (fun hb1 => ?_) (fun hb1 => ?_)
  · replace hb1 := dF hb1
    refine me0 (pc' := 13) (S' := [ii 0]) dm_X9_without_12 rfl rfl rfl rfl ?_
    refine me1 (pc' := 14) (L' := [(3, ii 0), (0, .ref 26), (1, .ref p), (2, .ref q)]) (S' := []) dm_X9_without_13 rfl rfl rfl rfl ?_
    refine me0 (pc' := 15) (S' := [ii 0]) dm_X9_without_14 rfl rfl rfl rfl ?_
    refine me1 (pc' := 17) (L' := [(4, ii 0), (3, ii 0), (0, .ref 26), (1, .ref p), (2, .ref q)]) (S' := []) dm_X9_without_15 rfl rfl rfl rfl ?_
    have lp17 : ∀ (n17 : Nat) (i : Nat) (n : Nat) (P : Nat → Int), vm v - i = n17 → (i ≤ vm v) → (n = (flt (woF (e + 1) v w) i).1) → (∀ j, j < n → P j = (((flt (woF (e + 1) v w) i).2 j : Nat) : Int)) → pgE xt (d - 1) 9 6 false (Option.some (Jvm.ClassFile.FieldType.object "ArrayCalculator$Value")) (mj_dec prog_11_method_13_code) 17 [(0, .ref 26), (1, .ref p), (2, .ref q), (3, ii ((n : Nat) : Int)), (4, ii (i : Int))] [] ((h).set 29 (cI 144 P)) (fun r h' => ∃ x, r = some x ∧ aact A h (e + 1) (d_wo (e + 1) v w) 2 (pcl v (flt (woF (e + 1) v w) (vm v)).1 + 9) x h') := by
      intro n17
      induction n17 using Nat.strongRecOn with
      | ind n17 ih17 =>
        intro i n P hm17 hi hn hP
        have hfl := flt_le (woF (e + 1) v w) i
        have hf1 := hfl.1
        replace hfl := hfl.2
        refine me1 (pc' := 19) (L' := [(0, .ref 26), (1, .ref p), (2, .ref q), (3, ii ((n : Nat) : Int)), (4, ii (i : Int))]) (S' := [ii (i : Int)]) dm_X9_without_17 rfl rfl rfl rfl ?_
        refine me1 (pc' := 20) (L' := [(0, .ref 26), (1, .ref p), (2, .ref q), (3, ii ((n : Nat) : Int)), (4, ii (i : Int))]) (S' := [.ref p, ii (i : Int)]) dm_X9_without_19 rfl rfl rfl rfl ?_
        refine me3 (pc' := 23) (S' := [ii (vm v : Int), ii (i : Int)]) dm_X9_without_20 (g_get (v := ii (vm v : Int)) (hl_ne (by omega) hp) rfl rfl (by omega)) rfl rfl rfl ?_
        refine y_2ge (a := (i : Int)) (b := (vm v : Int)) (t := 82) (pc' := 26) dm_X9_without_23 rfl rfl (by omega) (fun hb2 => ?_) (fun hb2 => ?_)
        · have hin : i = vm v := by omega
          have hfl2 : ∀ j, j < n → (flt (woF (e + 1) v w) i).2 j < vm v := fun j hj => by have := hfl j (by omega); omega
          have hpk : ∀ j, j < n → -2147483648 ≤ P j ∧ P j ≤ 2147483647 ∧ (vk v ≤ 1 ∨ 0 ≤ P j ∧ P j < vm v) := fun j hj => by have a1 := hP j hj; have a2 := hfl2 j hj; omega
          refine me1 (pc' := 83) (L' := [(0, .ref 26), (1, .ref p), (2, .ref q), (3, ii ((n : Nat) : Int)), (4, ii (i : Int))]) (S' := [.ref p]) dm_X9_without_82 rfl rfl rfl rfl ?_
          refine me1 (pc' := 84) (L' := [(0, .ref 26), (1, .ref p), (2, .ref q), (3, ii ((n : Nat) : Int)), (4, ii (i : Int))]) (S' := [.ref 26, .ref p]) dm_X9_without_83 rfl rfl rfl rfl ?_
          refine me3 (pc' := 87) (S' := [.ref 29, .ref p]) dm_X9_without_84 (g_get (v := .ref 29) (hl_ne (by decide) h26) rfl rfl (by decide)) rfl rfl rfl ?_
          refine me1 (pc' := 88) (L' := [(0, .ref 26), (1, .ref p), (2, .ref q), (3, ii ((n : Nat) : Int)), (4, ii (i : Int))]) (S' := [ii ((n : Nat) : Int), .ref 29, .ref p]) dm_X9_without_87 rfl rfl rfl rfl ?_
          have hs1 : scrS h ((h).set 29 (cI 144 P)) := scrS_set (by unfold scr; decide) h29 rfl
          have hA1 := okA_scr hA hs1
          have hl1 : 127 ≤ ((h).set 29 (cI 144 P)).length := by rw [hs1.1]; exact hl
          refine x_cv (pc' := 91) (rest := []) dm_X9_without_88 rfl (g_inv (As := [.ref 29, ii ((n : Nat) : Int)]) (S := []) (hl_ne (by omega) hp) rfl rfl rfl (by omega)) rfl rfl rfl (c_pick hx1 (by omega) hA1 hl1 (cv_set (nA hA (Or.inl (by decide))) hv) (hl_set (hl_lt h29)) (by decide) (by decide) (by omega) he hset (by omega) hpk) ?_
          rintro x h2 hres
          obtain ⟨qr, rfl⟩ := ares_ref hres
          refine y_ret (r := some (.ref qr)) dm_X9_without_91 rfl rfl rfl ?_
          refine ⟨_, rfl, _, hs1, actH_29 hH _, ?_⟩
          rw [show d_wo (e + 1) v w = s_pick v (flt (woF (e + 1) v w) (vm v)).2 (flt (woF (e + 1) v w) (vm v)).1 by unfold d_wo; rw [if_neg (by omega)]]
          rw [hin] at hn hP
          rw [← hn]
          exact ares_up (ares_congr hres (s_pick_congr (by omega) (fun j hj => by rw [hP j hj]; rfl))) (by omega) (by omega)
        · refine me0 (pc' := 27) (S' := [ii 0]) dm_X9_without_26 rfl rfl rfl rfl ?_
          refine me1 (pc' := 29) (L' := [(5, ii 0), (0, .ref 26), (1, .ref p), (2, .ref q), (3, ii ((n : Nat) : Int)), (4, ii (i : Int))]) (S' := []) dm_X9_without_27 rfl rfl rfl rfl ?_
          have lp29 : ∀ (n29 : Nat) (k : Nat), vm w - k = n29 → (k ≤ vm w) → (∀ j, j < k → vsame (e + 1) (vit v i) (vit w j) = false) → pgE xt (d - 1) 9 6 false (Option.some (Jvm.ClassFile.FieldType.object "ArrayCalculator$Value")) (mj_dec prog_11_method_13_code) 29 [(0, .ref 26), (1, .ref p), (2, .ref q), (3, ii ((n : Nat) : Int)), (4, ii (i : Int)), (5, ii (k : Int))] [] ((h).set 29 (cI 144 P)) (fun r h' => ∃ x, r = some x ∧ aact A h (e + 1) (d_wo (e + 1) v w) 2 (pcl v (flt (woF (e + 1) v w) (vm v)).1 + 9) x h') := by
            intro n29
            induction n29 using Nat.strongRecOn with
            | ind n29 ih29 =>
              intro k hm29 hk hno
              refine me1 (pc' := 31) (L' := [(0, .ref 26), (1, .ref p), (2, .ref q), (3, ii ((n : Nat) : Int)), (4, ii (i : Int)), (5, ii (k : Int))]) (S' := [ii (k : Int)]) dm_X9_without_29 rfl rfl rfl rfl ?_
              refine me1 (pc' := 32) (L' := [(0, .ref 26), (1, .ref p), (2, .ref q), (3, ii ((n : Nat) : Int)), (4, ii (i : Int)), (5, ii (k : Int))]) (S' := [.ref q, ii (k : Int)]) dm_X9_without_31 rfl rfl rfl rfl ?_
              refine me3 (pc' := 35) (S' := [ii (vm w : Int), ii (k : Int)]) dm_X9_without_32 (g_get (v := ii (vm w : Int)) (hl_ne (by omega) hq) rfl rfl (by omega)) rfl rfl rfl ?_
              refine y_2ge (a := (k : Int)) (b := (vm w : Int)) (t := 56) (pc' := 38) dm_X9_without_35 rfl rfl (by omega) (fun hb3 => ?_) (fun hb3 => ?_)
              · refine me1 (pc' := 58) (L' := [(0, .ref 26), (1, .ref p), (2, .ref q), (3, ii ((n : Nat) : Int)), (4, ii (i : Int)), (5, ii (k : Int))]) (S' := [ii (k : Int)]) dm_X9_without_56 rfl rfl rfl rfl ?_
                refine me1 (pc' := 59) (L' := [(0, .ref 26), (1, .ref p), (2, .ref q), (3, ii ((n : Nat) : Int)), (4, ii (i : Int)), (5, ii (k : Int))]) (S' := [.ref q, ii (k : Int)]) dm_X9_without_58 rfl rfl rfl rfl ?_
                refine me3 (pc' := 62) (S' := [ii (vm w : Int), ii (k : Int)]) dm_X9_without_59 (g_get (v := ii (vm w : Int)) (hl_ne (by omega) hq) rfl rfl (by omega)) rfl rfl rfl ?_
                refine y_2ne (a := (k : Int)) (b := (vm w : Int)) (t := 76) (pc' := 65) dm_X9_without_62 rfl rfl (by omega) (fun hb4 => ?_) (fun hb4 => ?_)
                · have hf : woF (e + 1) v w i = false := by first | (exfalso; omega) | exact allN_f (k := k) (by omega) (by rw [hd]; rfl)
                  refine y_iinc (pc' := 79) (L' := [(4, ii ((i : Int) + 1)), (0, .ref 26), (1, .ref p), (2, .ref q), (3, ii ((n : Nat) : Int)), (5, ii (k : Int))]) dm_X9_without_76 (y_incp (a := (i : Int)) (c := 1) rfl rfl (by decide)) rfl ?_
                  refine me2 (pc' := 17) (S' := []) dm_X9_without_79 rfl rfl rfl ?_
                  exact pg_sub (L := [(0, .ref 26), (1, .ref p), (2, .ref q), (3, ii ((n : Nat) : Int)), (4, ii ((i + 1) : Int))]) rfl rfl rfl (ih17 (vm v - (i + 1)) (by omega) (i + 1) n P rfl (by omega) (by rw [flt_n hf]; exact hn) (fun j hj => by rw [flt_n hf]; exact hP j hj))
                · have hf : woF (e + 1) v w i = true := allN_iff.mpr (fun j hj => by rw [hno j (by omega)]; rfl)
                  refine me1 (pc' := 66) (L' := [(0, .ref 26), (1, .ref p), (2, .ref q), (3, ii ((n : Nat) : Int)), (4, ii (i : Int)), (5, ii (k : Int))]) (S' := [.ref 26]) dm_X9_without_65 rfl rfl rfl rfl ?_
                  refine me3 (pc' := 69) (S' := [.ref 29]) dm_X9_without_66 (g_get (v := .ref 29) (hl_ne (by decide) h26) rfl rfl (by decide)) rfl rfl rfl ?_
                  refine me1 (pc' := 70) (L' := [(0, .ref 26), (1, .ref p), (2, .ref q), (3, ii ((n : Nat) : Int)), (4, ii (i : Int)), (5, ii (k : Int))]) (S' := [ii ((n : Nat) : Int), .ref 29]) dm_X9_without_69 rfl rfl rfl rfl ?_
                  refine me1 (pc' := 72) (L' := [(0, .ref 26), (1, .ref p), (2, .ref q), (3, ii ((n : Nat) : Int)), (4, ii (i : Int)), (5, ii (k : Int))]) (S' := [ii (i : Int), ii ((n : Nat) : Int), .ref 29]) dm_X9_without_70 rfl rfl rfl rfl ?_
                  refine me3 (pc' := 73) (S' := []) (h1 := (h).set 29 (cI 144 (va_up P n (i : Int)))) dm_X9_without_72 (y_hs (yh_iast (j := ((n : Nat) : Int)) (hl_set (hl_lt h29)) (by omega) (by omega) (by omega) (by decide)) (by rw [show ((n : Nat) : Int).toNat = n from rfl]; rw [List.set_set])) rfl rfl rfl ?_
                  refine y_iinc (pc' := 76) (L' := [(3, ii (((n : Nat) : Int) + 1)), (0, .ref 26), (1, .ref p), (2, .ref q), (4, ii (i : Int)), (5, ii (k : Int))]) dm_X9_without_73 (y_incp (a := ((n : Nat) : Int)) (c := 1) rfl rfl (by decide)) rfl ?_
                  refine y_iinc (pc' := 79) (L' := [(4, ii ((i : Int) + 1)), (3, ii (((n : Nat) : Int) + 1)), (0, .ref 26), (1, .ref p), (2, .ref q), (5, ii (k : Int))]) dm_X9_without_76 (y_incp (a := (i : Int)) (c := 1) rfl rfl (by decide)) rfl ?_
                  refine me2 (pc' := 17) (S' := []) dm_X9_without_79 rfl rfl rfl ?_
                  exact pg_sub (L := [(0, .ref 26), (1, .ref p), (2, .ref q), (3, ii (((n + 1) : Nat) : Int)), (4, ii ((i + 1) : Int))]) rfl rfl rfl (ih17 (vm v - (i + 1)) (by omega) (i + 1) (n + 1) (va_up P n (i : Int)) rfl (by omega) (by rw [flt_s hf, hn]) (fun j hj => by rw [flt_s hf, up_at]; show _ = ((va_up (flt (woF (e + 1) v w) i).2 (flt (woF (e + 1) v w) i).1 i j : Nat) : Int); rw [up_at, ← hn]; by_cases z : j = n; (rw [if_pos z, if_pos z]); (rw [if_neg z, if_neg z]; exact hP j (by omega))))
              · refine me1 (pc' := 39) (L' := [(0, .ref 26), (1, .ref p), (2, .ref q), (3, ii ((n : Nat) : Int)), (4, ii (i : Int)), (5, ii (k : Int))]) (S' := [.ref p]) dm_X9_without_38 rfl rfl rfl rfl ?_
                refine me1 (pc' := 41) (L' := [(0, .ref 26), (1, .ref p), (2, .ref q), (3, ii ((n : Nat) : Int)), (4, ii (i : Int)), (5, ii (k : Int))]) (S' := [ii (i : Int), .ref p]) dm_X9_without_39 rfl rfl rfl rfl ?_
                refine me1 (pc' := 42) (L' := [(0, .ref 26), (1, .ref p), (2, .ref q), (3, ii ((n : Nat) : Int)), (4, ii (i : Int)), (5, ii (k : Int))]) (S' := [.ref q, ii (i : Int), .ref p]) dm_X9_without_41 rfl rfl rfl rfl ?_
                refine me1 (pc' := 44) (L' := [(0, .ref 26), (1, .ref p), (2, .ref q), (3, ii ((n : Nat) : Int)), (4, ii (i : Int)), (5, ii (k : Int))]) (S' := [ii (k : Int), .ref q, ii (i : Int), .ref p]) dm_X9_without_42 rfl rfl rfl rfl ?_
                refine x_cp (pc' := 47) (v := zz (vsame (e + 1) (vit v i) (vit w k))) (rest := []) dm_X9_without_44 rfl (g_invs (As := [.ref p, ii (i : Int), .ref q, ii (k : Int)]) (S := []) rfl rfl rfl) rfl rfl rfl (c_sameItems hx1 (by omega) (cv_set (nA hA (Or.inl (by decide))) hv) (cv_set (nA hA (Or.inl (by decide))) hw) (Or.inr (by omega)) (Or.inr (by omega)) (by omega) (by omega)) ?_
                refine y_zne (c := vsame (e + 1) (vit v i) (vit w k)) (t := 56) (pc' := 50) dm_X9_without_47 rfl rfl (fun hb5 => ?_) (fun hb5 => ?_)
                · refine me1 (pc' := 58) (L' := [(0, .ref 26), (1, .ref p), (2, .ref q), (3, ii ((n : Nat) : Int)), (4, ii (i : Int)), (5, ii (k : Int))]) (S' := [ii (k : Int)]) dm_X9_without_56 rfl rfl rfl rfl ?_
                  refine me1 (pc' := 59) (L' := [(0, .ref 26), (1, .ref p), (2, .ref q), (3, ii ((n : Nat) : Int)), (4, ii (i : Int)), (5, ii (k : Int))]) (S' := [.ref q, ii (k : Int)]) dm_X9_without_58 rfl rfl rfl rfl ?_
                  refine me3 (pc' := 62) (S' := [ii (vm w : Int), ii (k : Int)]) dm_X9_without_59 (g_get (v := ii (vm w : Int)) (hl_ne (by omega) hq) rfl rfl (by omega)) rfl rfl rfl ?_
                  refine y_2ne (a := (k : Int)) (b := (vm w : Int)) (t := 76) (pc' := 65) dm_X9_without_62 rfl rfl (by omega) (fun hb6 => ?_) (fun hb6 => ?_)
                  · have hf : woF (e + 1) v w i = false := by first | (exfalso; omega) | exact allN_f (k := k) (by omega) (by rw [hb5]; rfl)
                    refine y_iinc (pc' := 79) (L' := [(4, ii ((i : Int) + 1)), (0, .ref 26), (1, .ref p), (2, .ref q), (3, ii ((n : Nat) : Int)), (5, ii (k : Int))]) dm_X9_without_76 (y_incp (a := (i : Int)) (c := 1) rfl rfl (by decide)) rfl ?_
                    refine me2 (pc' := 17) (S' := []) dm_X9_without_79 rfl rfl rfl ?_
                    exact pg_sub (L := [(0, .ref 26), (1, .ref p), (2, .ref q), (3, ii ((n : Nat) : Int)), (4, ii ((i + 1) : Int))]) rfl rfl rfl (ih17 (vm v - (i + 1)) (by omega) (i + 1) n P rfl (by omega) (by rw [flt_n hf]; exact hn) (fun j hj => by rw [flt_n hf]; exact hP j hj))
                  · have hf : woF (e + 1) v w i = true := allN_iff.mpr (fun j hj => by rw [hno j (by omega)]; rfl)
                    refine me1 (pc' := 66) (L' := [(0, .ref 26), (1, .ref p), (2, .ref q), (3, ii ((n : Nat) : Int)), (4, ii (i : Int)), (5, ii (k : Int))]) (S' := [.ref 26]) dm_X9_without_65 rfl rfl rfl rfl ?_
                    refine me3 (pc' := 69) (S' := [.ref 29]) dm_X9_without_66 (g_get (v := .ref 29) (hl_ne (by decide) h26) rfl rfl (by decide)) rfl rfl rfl ?_
                    refine me1 (pc' := 70) (L' := [(0, .ref 26), (1, .ref p), (2, .ref q), (3, ii ((n : Nat) : Int)), (4, ii (i : Int)), (5, ii (k : Int))]) (S' := [ii ((n : Nat) : Int), .ref 29]) dm_X9_without_69 rfl rfl rfl rfl ?_
                    refine me1 (pc' := 72) (L' := [(0, .ref 26), (1, .ref p), (2, .ref q), (3, ii ((n : Nat) : Int)), (4, ii (i : Int)), (5, ii (k : Int))]) (S' := [ii (i : Int), ii ((n : Nat) : Int), .ref 29]) dm_X9_without_70 rfl rfl rfl rfl ?_
                    refine me3 (pc' := 73) (S' := []) (h1 := (h).set 29 (cI 144 (va_up P n (i : Int)))) dm_X9_without_72 (y_hs (yh_iast (j := ((n : Nat) : Int)) (hl_set (hl_lt h29)) (by omega) (by omega) (by omega) (by decide)) (by rw [show ((n : Nat) : Int).toNat = n from rfl]; rw [List.set_set])) rfl rfl rfl ?_
                    refine y_iinc (pc' := 76) (L' := [(3, ii (((n : Nat) : Int) + 1)), (0, .ref 26), (1, .ref p), (2, .ref q), (4, ii (i : Int)), (5, ii (k : Int))]) dm_X9_without_73 (y_incp (a := ((n : Nat) : Int)) (c := 1) rfl rfl (by decide)) rfl ?_
                    refine y_iinc (pc' := 79) (L' := [(4, ii ((i : Int) + 1)), (3, ii (((n : Nat) : Int) + 1)), (0, .ref 26), (1, .ref p), (2, .ref q), (5, ii (k : Int))]) dm_X9_without_76 (y_incp (a := (i : Int)) (c := 1) rfl rfl (by decide)) rfl ?_
                    refine me2 (pc' := 17) (S' := []) dm_X9_without_79 rfl rfl rfl ?_
                    exact pg_sub (L := [(0, .ref 26), (1, .ref p), (2, .ref q), (3, ii (((n + 1) : Nat) : Int)), (4, ii ((i + 1) : Int))]) rfl rfl rfl (ih17 (vm v - (i + 1)) (by omega) (i + 1) (n + 1) (va_up P n (i : Int)) rfl (by omega) (by rw [flt_s hf, hn]) (fun j hj => by rw [flt_s hf, up_at]; show _ = ((va_up (flt (woF (e + 1) v w) i).2 (flt (woF (e + 1) v w) i).1 i j : Nat) : Int); rw [up_at, ← hn]; by_cases z : j = n; (rw [if_pos z, if_pos z]); (rw [if_neg z, if_neg z]; exact hP j (by omega))))
                · refine y_iinc (pc' := 53) (L' := [(5, ii ((k : Int) + 1)), (0, .ref 26), (1, .ref p), (2, .ref q), (3, ii ((n : Nat) : Int)), (4, ii (i : Int))]) dm_X9_without_50 (y_incp (a := (k : Int)) (c := 1) rfl rfl (by decide)) rfl ?_
                  refine me2 (pc' := 29) (S' := []) dm_X9_without_53 rfl rfl rfl ?_
                  exact pg_sub (L := [(0, .ref 26), (1, .ref p), (2, .ref q), (3, ii ((n : Nat) : Int)), (4, ii (i : Int)), (5, ii ((k + 1) : Int))]) rfl rfl rfl (ih29 (vm w - (k + 1)) (by omega) (k + 1) rfl (by omega) (fun j hj => by by_cases z : j = k; (subst z; exact hb5); exact hno j (by omega)))
          exact pg_sub (L := [(0, .ref 26), (1, .ref p), (2, .ref q), (3, ii ((n : Nat) : Int)), (4, ii (i : Int)), (5, ii (0 : Int))]) rfl rfl rfl (lp29 _ 0 rfl (Nat.zero_le _) (fun j hj => absurd hj (Nat.not_lt_zero j)))
    refine pg_cast (h2 := (h).set 29 (cI 144 pf0)) (hl_self h29).symm ?_
    exact pg_sub (L := [(0, .ref 26), (1, .ref p), (2, .ref q), (3, ii ((0 : Nat) : Int)), (4, ii (0 : Int))]) rfl rfl rfl (lp17 _ 0 0 pf0 rfl (Nat.zero_le _) rfl (fun j hj => absurd hj (Nat.not_lt_zero j)))
  · replace hb1 := dT hb1
    refine me0 (pc' := 8) (S' := [ii 3]) dm_X9_without_7 rfl rfl rfl rfl ?_
    refine x_cv (pc' := 11) (rest := []) dm_X9_without_8 rfl (g_invs (As := [ii 3]) (S := []) rfl rfl rfl) rfl rfl rfl (c_fault (q := h.length) (by omega) (by omega) rfl (by omega)) ?_
    rintro _ _ ⟨rfl, rfl⟩
    refine y_ret (r := some (.ref h.length)) dm_X9_without_11 rfl rfl rfl ?_
    exact ⟨_, rfl, h, scrS_rf h, hH, by rw [show d_wo (e + 1) v w = .inl 3 by unfold d_wo; rw [if_pos (by omega)]]; exact ares_f 3 (by omega) (by omega) (by omega)⟩
