theorem up_eq {α : Type} (f : Nat → α) (k : Nat) (v : α) : va_up f k v k = v := by unfold va_up; rw [if_pos rfl]
theorem up_ne {α : Type} (f : Nat → α) {k j : Nat} (v : α) (h : j ≠ k) : va_up f k v j = f j := by unfold va_up; rw [if_neg h]
/-- the places of items unlike all ahead of them: how many, which -/
def unq (same : Nat → Nat → Bool) : Nat → Nat × (Nat → Nat)
  | 0 => (0, fun _ => 0)
  | k + 1 => if allN (unq same k).1 (fun j => !(same k ((unq same k).2 j))) = true then ((unq same k).1 + 1, va_up (unq same k).2 (unq same k).1 k) else unq same k
theorem unq_le (same : Nat → Nat → Bool) (k : Nat) : (unq same k).1 ≤ k ∧ ∀ j, j < (unq same k).1 → (unq same k).2 j < k := by
  induction k with
  | zero => exact ⟨Nat.le_refl _, fun j hj => absurd hj (Nat.not_lt_zero j)⟩
  | succ k ih =>
    unfold unq
    split
    · refine ⟨by show (unq same k).1 + 1 ≤ k + 1; omega, fun j hj => ?_⟩
      have hj2 : j < (unq same k).1 + 1 := hj
      show va_up (unq same k).2 (unq same k).1 k j < k + 1
      rw [up_at]
      split
      · omega
      · have := ih.2 j (by omega); omega
    · exact ⟨by omega, fun j hj => by have := ih.2 j hj; omega⟩
abbrev nsame (v : VV) : Nat → Nat → Bool := fun a b => decide (vn v a = vn v b)
theorem unq_s {same : Nat → Nat → Bool} {k : Nat} (h : allN (unq same k).1 (fun j => !(same k ((unq same k).2 j))) = true) : unq same (k + 1) = ((unq same k).1 + 1, va_up (unq same k).2 (unq same k).1 k) := by
  conv => lhs; unfold unq
  rw [if_pos h]
theorem unq_n {same : Nat → Nat → Bool} {k : Nat} (h : allN (unq same k).1 (fun j => !(same k ((unq same k).2 j))) = false) : unq same (k + 1) = unq same k := by
  conv => lhs; unfold unq
  rw [if_neg (by rw [h]; decide)]
set_option maxRecDepth 20000 in
theorem pm_X3_flipped : mj_mmof pg_ms 83 = some ((⟨"ArrayCalculator$OneAct", "flipped", "(LArrayCalculator$Value;)LArrayCalculator$Value;"⟩, prog_5_method_3_code, 4, (Option.some (Jvm.ClassFile.FieldType.object "ArrayCalculator$Value"))), 3, false, mj_dec prog_5_method_3_code) := rfl
theorem dm_X3_flipped_0 : mj_dec prog_5_method_3_code 0 = some (.aload_n 0, 1) := by decide +kernel
theorem dm_X3_flipped_1 : mj_dec prog_5_method_3_code 1 = some (.invokevirtual 113, 3) := by decide +kernel
theorem dm_X3_flipped_4 : mj_dec prog_5_method_3_code 4 = some (.newarray .long, 2) := by decide +kernel
theorem dm_X3_flipped_6 : mj_dec prog_5_method_3_code 6 = some (.astore_n 1, 1) := by decide +kernel
theorem dm_X3_flipped_7 : mj_dec prog_5_method_3_code 7 = some (.iconst 0, 1) := by decide +kernel
theorem dm_X3_flipped_8 : mj_dec prog_5_method_3_code 8 = some (.istore_n 2, 1) := by decide +kernel
theorem dm_X3_flipped_9 : mj_dec prog_5_method_3_code 9 = some (.iload_n 2, 1) := by decide +kernel
theorem dm_X3_flipped_10 : mj_dec prog_5_method_3_code 10 = some (.aload_n 0, 1) := by decide +kernel
theorem dm_X3_flipped_11 : mj_dec prog_5_method_3_code 11 = some (.getfield 76, 3) := by decide +kernel
theorem dm_X3_flipped_14 : mj_dec prog_5_method_3_code 14 = some (.if_icmp .ge 47, 3) := by decide +kernel
theorem dm_X3_flipped_17 : mj_dec prog_5_method_3_code 17 = some (.iconst 0, 1) := by decide +kernel
theorem dm_X3_flipped_18 : mj_dec prog_5_method_3_code 18 = some (.istore_n 3, 1) := by decide +kernel
theorem dm_X3_flipped_19 : mj_dec prog_5_method_3_code 19 = some (.iload_n 3, 1) := by decide +kernel
theorem dm_X3_flipped_20 : mj_dec prog_5_method_3_code 20 = some (.aload_n 0, 1) := by decide +kernel
theorem dm_X3_flipped_21 : mj_dec prog_5_method_3_code 21 = some (.getfield 115, 3) := by decide +kernel
theorem dm_X3_flipped_24 : mj_dec prog_5_method_3_code 24 = some (.if_icmp .ge 31, 3) := by decide +kernel
theorem dm_X3_flipped_27 : mj_dec prog_5_method_3_code 27 = some (.aload_n 1, 1) := by decide +kernel
theorem dm_X3_flipped_28 : mj_dec prog_5_method_3_code 28 = some (.iload_n 3, 1) := by decide +kernel
theorem dm_X3_flipped_29 : mj_dec prog_5_method_3_code 29 = some (.aload_n 0, 1) := by decide +kernel
theorem dm_X3_flipped_30 : mj_dec prog_5_method_3_code 30 = some (.getfield 76, 3) := by decide +kernel
theorem dm_X3_flipped_33 : mj_dec prog_5_method_3_code 33 = some (.imul, 1) := by decide +kernel
theorem dm_X3_flipped_34 : mj_dec prog_5_method_3_code 34 = some (.iload_n 2, 1) := by decide +kernel
theorem dm_X3_flipped_35 : mj_dec prog_5_method_3_code 35 = some (.iadd, 1) := by decide +kernel
theorem dm_X3_flipped_36 : mj_dec prog_5_method_3_code 36 = some (.aload_n 0, 1) := by decide +kernel
theorem dm_X3_flipped_37 : mj_dec prog_5_method_3_code 37 = some (.iload_n 2, 1) := by decide +kernel
theorem dm_X3_flipped_38 : mj_dec prog_5_method_3_code 38 = some (.aload_n 0, 1) := by decide +kernel
theorem dm_X3_flipped_39 : mj_dec prog_5_method_3_code 39 = some (.getfield 115, 3) := by decide +kernel
theorem dm_X3_flipped_42 : mj_dec prog_5_method_3_code 42 = some (.imul, 1) := by decide +kernel
theorem dm_X3_flipped_43 : mj_dec prog_5_method_3_code 43 = some (.iload_n 3, 1) := by decide +kernel
theorem dm_X3_flipped_44 : mj_dec prog_5_method_3_code 44 = some (.iadd, 1) := by decide +kernel
theorem dm_X3_flipped_45 : mj_dec prog_5_method_3_code 45 = some (.invokevirtual 118, 3) := by decide +kernel
theorem dm_X3_flipped_48 : mj_dec prog_5_method_3_code 48 = some (.lastore, 1) := by decide +kernel
theorem dm_X3_flipped_49 : mj_dec prog_5_method_3_code 49 = some (.iinc 3 1, 3) := by decide +kernel
theorem dm_X3_flipped_52 : mj_dec prog_5_method_3_code 52 = some (.goto (-33), 3) := by decide +kernel
theorem dm_X3_flipped_55 : mj_dec prog_5_method_3_code 55 = some (.iinc 2 1, 3) := by decide +kernel
theorem dm_X3_flipped_58 : mj_dec prog_5_method_3_code 58 = some (.goto (-49), 3) := by decide +kernel
theorem dm_X3_flipped_61 : mj_dec prog_5_method_3_code 61 = some (.aload_n 1, 1) := by decide +kernel
theorem dm_X3_flipped_62 : mj_dec prog_5_method_3_code 62 = some (.aload_n 0, 1) := by decide +kernel
theorem dm_X3_flipped_63 : mj_dec prog_5_method_3_code 63 = some (.getfield 115, 3) := by decide +kernel
theorem dm_X3_flipped_66 : mj_dec prog_5_method_3_code 66 = some (.aload_n 0, 1) := by decide +kernel
theorem dm_X3_flipped_67 : mj_dec prog_5_method_3_code 67 = some (.getfield 76, 3) := by decide +kernel
theorem dm_X3_flipped_70 : mj_dec prog_5_method_3_code 70 = some (.invokestatic 122, 3) := by decide +kernel
theorem dm_X3_flipped_73 : mj_dec prog_5_method_3_code 73 = some (.areturn, 1) := by decide +kernel
theorem o_flipped {xt : mj_X} {d e p : Nat} {A : Nat → Prop} {h : mj_H} {v : VV} {f1 : Nat → Value} (hx1 : xt 1 = some (.long, 0, f1)) (hd : 8 ≤ d) (hl : 127 ≤ h.length) (hA : okA A h) (hH : actH h) (hv : cv A h (e + 1) p v) (he : e ≤ 20) (hset : vsz (e + 1) v ≤ 1000) (hk6 : vk v = 6) : pgV xt d 83 [.ref p] h (aact A h (e + 1) (m_flip v) 2 (vq v + 9)) := by
  have h17 := hH.1
  obtain ⟨pf0, h18⟩ := hH.2.1
  obtain ⟨nf0, h19⟩ := hH.2.2.1
  have hcv := vw1_c hv.1
  obtain ⟨row, fr, vals, hp, hp2, hpA, hvk, hvm, hvc, hvs, hvl⟩ := cv_val hv
  have hpb := hA p hpA
  have hq6 : vq v = vm v * vc v := by unfold vq; rw [if_pos hk6]
  have hfit := (hv.1.2.2.2.1 hk6).2.2.2.2
  have hmm : vm v * vc v ≤ 144 := by rw [← hq6]; exact vq_le hv.1
  refine x_enter pm_X3_flipped (L0 := [(0, .ref p)]) rfl (Nat.le_of_ble_eq_true rfl) (by omega) ?_
  refine me1 (pc' := 1) (L' := [(0, .ref p)]) (S' := [.ref p]) dm_X3_flipped_0 rfl rfl rfl rfl ?_
  refine x_cp (pc' := 4) (v := ii ((vm v * vc v : Nat) : Int)) (rest := []) dm_X3_flipped_1 rfl (g_inv (As := []) (S := []) hp rfl rfl rfl (by omega)) rfl rfl rfl ((show pgP xt (d - 1) _ _ _ (ii ((vm v * vc v : Nat) : Int)) from hq6 ▸ c_numbers (by omega) hv)) ?_
  refine me3 (pc' := 6) (S' := [.ref h.length]) (h1 := h ++ [cJ (vm v * vc v) (fun _ => 0)]) dm_X3_flipped_4 (yh_newJ (by omega) (by omega) (by omega) rfl) rfl rfl rfl ?_
  refine me1 (pc' := 7) (L' := [(1, .ref h.length), (0, .ref p)]) (S' := []) dm_X3_flipped_6 rfl rfl rfl rfl ?_
  refine me0 (pc' := 8) (S' := [ii 0]) dm_X3_flipped_7 rfl rfl rfl rfl ?_
  refine me1 (pc' := 9) (L' := [(2, ii 0), (1, .ref h.length), (0, .ref p)]) (S' := []) dm_X3_flipped_8 rfl rfl rfl rfl ?_
  have lp9 : ∀ (n9 : Nat) (r : Nat) (G : Nat → Int64), vm v - r = n9 → (r ≤ vm v) → (∀ x y, x < r → y < vc v → G (y * vm v + x) = vn v (x * vc v + y)) → pgE xt (d - 1) 3 4 false (Option.some (Jvm.ClassFile.FieldType.object "ArrayCalculator$Value")) (mj_dec prog_5_method_3_code) 9 [(0, .ref p), (1, .ref h.length), (2, ii (r : Int))] [] (h ++ [cJ (vm v * vc v) G]) (fun r h' => ∃ x, r = some x ∧ aact A h (e + 1) (m_flip v) 2 (vq v + 9) x h') := by
    intro n9
    induction n9 using Nat.strongRecOn with
    | ind n9 ih9 =>
      intro r G hm9 hr hG
      refine me1 (pc' := 10) (L' := [(0, .ref p), (1, .ref h.length), (2, ii (r : Int))]) (S' := [ii (r : Int)]) dm_X3_flipped_9 rfl rfl rfl rfl ?_
      refine me1 (pc' := 11) (L' := [(0, .ref p), (1, .ref h.length), (2, ii (r : Int))]) (S' := [.ref p, ii (r : Int)]) dm_X3_flipped_10 rfl rfl rfl rfl ?_
      refine me3 (pc' := 14) (S' := [ii (vm v : Int), ii (r : Int)]) dm_X3_flipped_11 (g_get (v := ii (vm v : Int)) (hl_app hp) rfl rfl (by omega)) rfl rfl rfl ?_
      refine y_2ge (a := (r : Int)) (b := (vm v : Int)) (t := 61) (pc' := 17) dm_X3_flipped_14 rfl rfl (by omega) (fun hb1 => ?_) (fun hb1 => ?_)
      · refine me1 (pc' := 62) (L' := [(0, .ref p), (1, .ref h.length), (2, ii (r : Int))]) (S' := [.ref h.length]) dm_X3_flipped_61 rfl rfl rfl rfl ?_
        refine me1 (pc' := 63) (L' := [(0, .ref p), (1, .ref h.length), (2, ii (r : Int))]) (S' := [.ref p, .ref h.length]) dm_X3_flipped_62 rfl rfl rfl rfl ?_
        refine me3 (pc' := 66) (S' := [ii (vc v : Int), .ref h.length]) dm_X3_flipped_63 (g_get (v := ii (vc v : Int)) (hl_app hp) rfl rfl (by omega)) rfl rfl rfl ?_
        refine me1 (pc' := 67) (L' := [(0, .ref p), (1, .ref h.length), (2, ii (r : Int))]) (S' := [.ref p, ii (vc v : Int), .ref h.length]) dm_X3_flipped_66 rfl rfl rfl rfl ?_
        refine me3 (pc' := 70) (S' := [ii (vm v : Int), ii (vc v : Int), .ref h.length]) dm_X3_flipped_67 (g_get (v := ii (vm v : Int)) (hl_app hp) rfl rfl (by omega)) rfl rfl rfl ?_
        refine x_cv (pc' := 73) (rest := []) dm_X3_flipped_70 rfl (g_invs (As := [.ref h.length, ii (vc v : Int), ii (vm v : Int)]) (S := []) rfl rfl rfl) rfl rfl rfl (c_table (q := h.length + 1) (by omega) (by simp; omega) (by simp) (by omega) (by omega)) ?_
        rintro _ _ ⟨rfl, rfl⟩
        refine y_ret (r := some (.ref (h.length + 1))) dm_X3_flipped_73 rfl rfl rfl ?_
        have hrm : r = vm v := by omega
        refine ⟨_, rfl, h, scrS_rf h, hH, ?_⟩
        rw [show m_flip v = .inr (vtab (vc v) (vm v) (fun j => vn v (j % vm v * vc v + j / vm v))) by unfold m_flip; rw [if_pos hk6]]
        have hcm : vc v * vm v = vm v * vc v := Nat.mul_comm _ _
        refine vres_flat (w := vtab (vc v) (vm v) (fun j => vn v (j % vm v * vc v + j / vm v))) (by omega) (vw1_tab (by omega) (by omega) (by omega) (by omega) (fun k hk => hfit _ ?_)) (by show 2 ≤ 6; omega) (by show 6 ≤ 6; omega) (by rw [vq_tab]; exact hcm) (fun k hk => ?_) (by omega) (by rw [hq6]; omega)
        · have h1 : k / vm v < vc v := (Nat.div_lt_iff_lt_mul (by omega)).mpr hk
          exact mul_lt (Nat.mod_lt _ (by omega)) h1
        · have h1 : k / vm v < vc v := (Nat.div_lt_iff_lt_mul (by omega)).mpr (by omega)
          have h2 := hG (k % vm v) (k / vm v) (by have := Nat.mod_lt k (show 0 < vm v by omega); omega) h1
          rw [show k / vm v * vm v + k % vm v = k by rw [Nat.mul_comm]; exact Nat.div_add_mod k (vm v)] at h2
          exact h2
      · refine me0 (pc' := 18) (S' := [ii 0]) dm_X3_flipped_17 rfl rfl rfl rfl ?_
        refine me1 (pc' := 19) (L' := [(3, ii 0), (0, .ref p), (1, .ref h.length), (2, ii (r : Int))]) (S' := []) dm_X3_flipped_18 rfl rfl rfl rfl ?_
        have lp19 : ∀ (n19 : Nat) (c : Nat) (F : Nat → Int64), vc v - c = n19 → (c ≤ vc v) → (∀ x y, x < r → y < vc v → F (y * vm v + x) = vn v (x * vc v + y)) → (∀ b, b < c → F (b * vm v + r) = vn v (r * vc v + b)) → pgE xt (d - 1) 3 4 false (Option.some (Jvm.ClassFile.FieldType.object "ArrayCalculator$Value")) (mj_dec prog_5_method_3_code) 19 [(0, .ref p), (1, .ref h.length), (2, ii (r : Int)), (3, ii (c : Int))] [] (h ++ [cJ (vm v * vc v) F]) (fun r h' => ∃ x, r = some x ∧ aact A h (e + 1) (m_flip v) 2 (vq v + 9) x h') := by
          intro n19
          induction n19 using Nat.strongRecOn with
          | ind n19 ih19 =>
            intro c F hm19 hc hF hF2
            refine me1 (pc' := 20) (L' := [(0, .ref p), (1, .ref h.length), (2, ii (r : Int)), (3, ii (c : Int))]) (S' := [ii (c : Int)]) dm_X3_flipped_19 rfl rfl rfl rfl ?_
            refine me1 (pc' := 21) (L' := [(0, .ref p), (1, .ref h.length), (2, ii (r : Int)), (3, ii (c : Int))]) (S' := [.ref p, ii (c : Int)]) dm_X3_flipped_20 rfl rfl rfl rfl ?_
            refine me3 (pc' := 24) (S' := [ii (vc v : Int), ii (c : Int)]) dm_X3_flipped_21 (g_get (v := ii (vc v : Int)) (hl_app hp) rfl rfl (by omega)) rfl rfl rfl ?_
            refine y_2ge (a := (c : Int)) (b := (vc v : Int)) (t := 55) (pc' := 27) dm_X3_flipped_24 rfl rfl (by omega) (fun hb2 => ?_) (fun hb2 => ?_)
            · refine y_iinc (pc' := 58) (L' := [(2, ii ((r : Int) + 1)), (0, .ref p), (1, .ref h.length), (3, ii (c : Int))]) dm_X3_flipped_55 (y_incp (a := (r : Int)) (c := 1) rfl rfl (by decide)) rfl ?_
              refine me2 (pc' := 9) (S' := []) dm_X3_flipped_58 rfl rfl rfl ?_
              exact pg_sub (L := [(0, .ref p), (1, .ref h.length), (2, ii ((r + 1) : Int))]) rfl rfl rfl (ih9 (vm v - (r + 1)) (by omega) (r + 1) F rfl (by omega) (fun a b h1 h2 => by by_cases z : a = r; (subst z; exact hF2 b (by omega)); exact hF a b (by omega) h2))
            · have hi1 := mul_lt (a := c) (b := r) (m := vm v) (n := vc v) (by omega) (by omega)
              have hi2 := mul_lt (a := r) (b := c) (m := vc v) (n := vm v) (by omega) (by omega)
              have hcm : vc v * vm v = vm v * vc v := Nat.mul_comm _ _
              have hmb1 := mulb 12 12 (a := c) (b := vm v) (by omega) (by omega)
              have hmb2 := mulb 12 12 (a := r) (b := vc v) (by omega) (by omega)
              have hvn : vnum v ((r * vc v + c : Nat) : Int) = vn v (r * vc v + c) := by rw [vnum_r (by omega) (by omega) (by rw [hq6]; omega)]; rfl
              refine me1 (pc' := 28) (L' := [(0, .ref p), (1, .ref h.length), (2, ii (r : Int)), (3, ii (c : Int))]) (S' := [.ref h.length]) dm_X3_flipped_27 rfl rfl rfl rfl ?_
              refine me1 (pc' := 29) (L' := [(0, .ref p), (1, .ref h.length), (2, ii (r : Int)), (3, ii (c : Int))]) (S' := [ii (c : Int), .ref h.length]) dm_X3_flipped_28 rfl rfl rfl rfl ?_
              refine me1 (pc' := 30) (L' := [(0, .ref p), (1, .ref h.length), (2, ii (r : Int)), (3, ii (c : Int))]) (S' := [.ref p, ii (c : Int), .ref h.length]) dm_X3_flipped_29 rfl rfl rfl rfl ?_
              refine me3 (pc' := 33) (S' := [ii (vm v : Int), ii (c : Int), .ref h.length]) dm_X3_flipped_30 (g_get (v := ii (vm v : Int)) (hl_app hp) rfl rfl (by omega)) rfl rfl rfl ?_
              refine y_imul (a := (c : Int)) (b := (vm v : Int)) dm_X3_flipped_33 (pc' := 34) rfl ?_
              refine me1 (pc' := 35) (L' := [(0, .ref p), (1, .ref h.length), (2, ii (r : Int)), (3, ii (c : Int))]) (S' := [ii (r : Int), ii ((c : Int) * (vm v : Int)), .ref h.length]) dm_X3_flipped_34 rfl rfl rfl rfl ?_
              refine y_iadd (a := (c : Int) * (vm v : Int)) (b := (r : Int)) dm_X3_flipped_35 (pc' := 36) rfl ?_
              refine pg_st0 (S' := [ii ((c * vm v + r : Nat) : Int), .ref h.length]) (congrArg (fun z => ii z :: [.ref h.length]) (by push_cast; rfl)) ?_
              refine me1 (pc' := 37) (L' := [(0, .ref p), (1, .ref h.length), (2, ii (r : Int)), (3, ii (c : Int))]) (S' := [.ref p, ii ((c * vm v + r : Nat) : Int), .ref h.length]) dm_X3_flipped_36 rfl rfl rfl rfl ?_
              refine me1 (pc' := 38) (L' := [(0, .ref p), (1, .ref h.length), (2, ii (r : Int)), (3, ii (c : Int))]) (S' := [ii (r : Int), .ref p, ii ((c * vm v + r : Nat) : Int), .ref h.length]) dm_X3_flipped_37 rfl rfl rfl rfl ?_
              refine me1 (pc' := 39) (L' := [(0, .ref p), (1, .ref h.length), (2, ii (r : Int)), (3, ii (c : Int))]) (S' := [.ref p, ii (r : Int), .ref p, ii ((c * vm v + r : Nat) : Int), .ref h.length]) dm_X3_flipped_38 rfl rfl rfl rfl ?_
              refine me3 (pc' := 42) (S' := [ii (vc v : Int), ii (r : Int), .ref p, ii ((c * vm v + r : Nat) : Int), .ref h.length]) dm_X3_flipped_39 (g_get (v := ii (vc v : Int)) (hl_app hp) rfl rfl (by omega)) rfl rfl rfl ?_
              refine y_imul (a := (r : Int)) (b := (vc v : Int)) dm_X3_flipped_42 (pc' := 43) rfl ?_
              refine me1 (pc' := 44) (L' := [(0, .ref p), (1, .ref h.length), (2, ii (r : Int)), (3, ii (c : Int))]) (S' := [ii (c : Int), ii ((r : Int) * (vc v : Int)), .ref p, ii ((c * vm v + r : Nat) : Int), .ref h.length]) dm_X3_flipped_43 rfl rfl rfl rfl ?_
              refine y_iadd (a := (r : Int) * (vc v : Int)) (b := (c : Int)) dm_X3_flipped_44 (pc' := 45) rfl ?_
              refine pg_st0 (S' := [ii ((r * vc v + c : Nat) : Int), .ref p, ii ((c * vm v + r : Nat) : Int), .ref h.length]) (congrArg (fun z => ii z :: [.ref p, ii ((c * vm v + r : Nat) : Int), .ref h.length]) (by push_cast; rfl)) ?_
              refine x_cp (pc' := 48) (v := .long (vn v (r * vc v + c))) (rest := [ii ((c * vm v + r : Nat) : Int), .ref h.length]) dm_X3_flipped_45 rfl (g_inv (As := [ii ((r * vc v + c : Nat) : Int)]) (S := [ii ((c * vm v + r : Nat) : Int), .ref h.length]) (hl_app hp) rfl rfl rfl (by omega)) rfl rfl rfl ((show pgP xt (d - 1) _ _ _ (.long (vn v (r * vc v + c))) from hvn ▸ c_numberAt (i := ((r * vc v + c : Nat) : Int)) hx1 (by omega) (cv_app hv) (by omega))) ?_
              refine me3 (pc' := 49) (S' := []) (h1 := h ++ [cJ (vm v * vc v) (va_up F (c * vm v + r) (vn v (r * vc v + c)))]) dm_X3_flipped_48 (y_hs (yh_last (j := ((c * vm v + r : Nat) : Int)) hl_new (by omega) (by omega) (by omega) (by omega)) (by rw [show ((c * vm v + r : Nat) : Int).toNat = c * vm v + r from rfl]; exact (hl_setl))) rfl rfl rfl ?_
              refine y_iinc (pc' := 52) (L' := [(3, ii ((c : Int) + 1)), (0, .ref p), (1, .ref h.length), (2, ii (r : Int))]) dm_X3_flipped_49 (y_incp (a := (c : Int)) (c := 1) rfl rfl (by decide)) rfl ?_
              refine me2 (pc' := 19) (S' := []) dm_X3_flipped_52 rfl rfl rfl ?_
              exact pg_sub (L := [(0, .ref p), (1, .ref h.length), (2, ii (r : Int)), (3, ii ((c + 1) : Int))]) rfl rfl rfl (ih19 (vc v - (c + 1)) (by omega) (c + 1) (va_up F (c * vm v + r) (vn v (r * vc v + c))) rfl (by omega) (fun a b h1 h2 => by rw [up_ne _ _ (fun z => by have := mul_inj (show a < vm v by omega) (show r < vm v by omega) z; omega)]; exact hF a b h1 h2) (fun b h1 => by by_cases z : b = c; (subst z; exact up_eq _ _ _); (rw [up_ne _ _ (fun y => z (mul_inj (show r < vm v by omega) (show r < vm v by omega) y).1)]; exact hF2 b (by omega))))
        exact pg_sub (L := [(0, .ref p), (1, .ref h.length), (2, ii (r : Int)), (3, ii (0 : Int))]) rfl rfl rfl (lp19 _ 0 G rfl (Nat.zero_le _) hG (fun b h1 => absurd h1 (Nat.not_lt_zero b)))
  exact pg_sub (L := [(0, .ref p), (1, .ref h.length), (2, ii (0 : Int))]) rfl rfl rfl (lp9 _ 0 (fun _ => 0) rfl (Nat.zero_le _) (fun r c h1 _ => absurd h1 (Nat.not_lt_zero r)))
set_option maxRecDepth 20000 in
theorem pm_X3_unlikePlaces : mj_mmof pg_ms 120 = some ((⟨"ArrayCalculator$OneAct", "unlikePlaces", "(LArrayCalculator$Value;)I"⟩, prog_5_method_10_code, 5, (Option.some Jvm.ClassFile.FieldType.int)), 3, false, mj_dec prog_5_method_10_code) := rfl
theorem dm_X3_unlikePlaces_0 : mj_dec prog_5_method_10_code 0 = some (.iconst 0, 1) := by decide +kernel
theorem dm_X3_unlikePlaces_1 : mj_dec prog_5_method_10_code 1 = some (.istore_n 2, 1) := by decide +kernel
theorem dm_X3_unlikePlaces_2 : mj_dec prog_5_method_10_code 2 = some (.iconst 0, 1) := by decide +kernel
theorem dm_X3_unlikePlaces_3 : mj_dec prog_5_method_10_code 3 = some (.istore_n 3, 1) := by decide +kernel
theorem dm_X3_unlikePlaces_4 : mj_dec prog_5_method_10_code 4 = some (.iload_n 3, 1) := by decide +kernel
theorem dm_X3_unlikePlaces_5 : mj_dec prog_5_method_10_code 5 = some (.aload_n 1, 1) := by decide +kernel
theorem dm_X3_unlikePlaces_6 : mj_dec prog_5_method_10_code 6 = some (.getfield 76, 3) := by decide +kernel
theorem dm_X3_unlikePlaces_9 : mj_dec prog_5_method_10_code 9 = some (.if_icmp .ge 60, 3) := by decide +kernel
theorem dm_X3_unlikePlaces_12 : mj_dec prog_5_method_10_code 12 = some (.iconst 0, 1) := by decide +kernel
theorem dm_X3_unlikePlaces_13 : mj_dec prog_5_method_10_code 13 = some (.istore 4, 2) := by decide +kernel
theorem dm_X3_unlikePlaces_15 : mj_dec prog_5_method_10_code 15 = some (.iload 4, 2) := by decide +kernel
theorem dm_X3_unlikePlaces_17 : mj_dec prog_5_method_10_code 17 = some (.iload_n 2, 1) := by decide +kernel
theorem dm_X3_unlikePlaces_18 : mj_dec prog_5_method_10_code 18 = some (.if_icmp .ge 29, 3) := by decide +kernel
theorem dm_X3_unlikePlaces_21 : mj_dec prog_5_method_10_code 21 = some (.aload_n 1, 1) := by decide +kernel
theorem dm_X3_unlikePlaces_22 : mj_dec prog_5_method_10_code 22 = some (.iload_n 3, 1) := by decide +kernel
theorem dm_X3_unlikePlaces_23 : mj_dec prog_5_method_10_code 23 = some (.invokevirtual 118, 3) := by decide +kernel
theorem dm_X3_unlikePlaces_26 : mj_dec prog_5_method_10_code 26 = some (.aload_n 1, 1) := by decide +kernel
theorem dm_X3_unlikePlaces_27 : mj_dec prog_5_method_10_code 27 = some (.aload_n 0, 1) := by decide +kernel
theorem dm_X3_unlikePlaces_28 : mj_dec prog_5_method_10_code 28 = some (.getfield 9, 3) := by decide +kernel
theorem dm_X3_unlikePlaces_31 : mj_dec prog_5_method_10_code 31 = some (.iload 4, 2) := by decide +kernel
theorem dm_X3_unlikePlaces_33 : mj_dec prog_5_method_10_code 33 = some (.iaload, 1) := by decide +kernel
theorem dm_X3_unlikePlaces_34 : mj_dec prog_5_method_10_code 34 = some (.invokevirtual 118, 3) := by decide +kernel
theorem dm_X3_unlikePlaces_37 : mj_dec prog_5_method_10_code 37 = some (.lcmp, 1) := by decide +kernel
theorem dm_X3_unlikePlaces_38 : mj_dec prog_5_method_10_code 38 = some (.ifCond .eq 9, 3) := by decide +kernel
theorem dm_X3_unlikePlaces_41 : mj_dec prog_5_method_10_code 41 = some (.iinc 4 1, 3) := by decide +kernel
theorem dm_X3_unlikePlaces_44 : mj_dec prog_5_method_10_code 44 = some (.goto (-29), 3) := by decide +kernel
theorem dm_X3_unlikePlaces_47 : mj_dec prog_5_method_10_code 47 = some (.iload 4, 2) := by decide +kernel
theorem dm_X3_unlikePlaces_49 : mj_dec prog_5_method_10_code 49 = some (.iload_n 2, 1) := by decide +kernel
theorem dm_X3_unlikePlaces_50 : mj_dec prog_5_method_10_code 50 = some (.if_icmp .ne 13, 3) := by decide +kernel
theorem dm_X3_unlikePlaces_53 : mj_dec prog_5_method_10_code 53 = some (.aload_n 0, 1) := by decide +kernel
theorem dm_X3_unlikePlaces_54 : mj_dec prog_5_method_10_code 54 = some (.getfield 9, 3) := by decide +kernel
theorem dm_X3_unlikePlaces_57 : mj_dec prog_5_method_10_code 57 = some (.iload_n 2, 1) := by decide +kernel
theorem dm_X3_unlikePlaces_58 : mj_dec prog_5_method_10_code 58 = some (.iload_n 3, 1) := by decide +kernel
theorem dm_X3_unlikePlaces_59 : mj_dec prog_5_method_10_code 59 = some (.iastore, 1) := by decide +kernel
theorem dm_X3_unlikePlaces_60 : mj_dec prog_5_method_10_code 60 = some (.iinc 2 1, 3) := by decide +kernel
theorem dm_X3_unlikePlaces_63 : mj_dec prog_5_method_10_code 63 = some (.iinc 3 1, 3) := by decide +kernel
theorem dm_X3_unlikePlaces_66 : mj_dec prog_5_method_10_code 66 = some (.goto (-62), 3) := by decide +kernel
theorem dm_X3_unlikePlaces_69 : mj_dec prog_5_method_10_code 69 = some (.iload_n 2, 1) := by decide +kernel
theorem dm_X3_unlikePlaces_70 : mj_dec prog_5_method_10_code 70 = some (.ireturn, 1) := by decide +kernel
theorem o_unlikePlaces {xt : mj_X} {d e p : Nat} {A : Nat → Prop} {h : mj_H} {v : VV} {f1 : Nat → Value} (hx1 : xt 1 = some (.long, 0, f1)) (hd : 3 ≤ d) (hl : 127 ≤ h.length) (hA : okA A h) (hH : actH h) (hv : cv A h (e + 1) p v) (he : e ≤ 20) (hset : vsz (e + 1) v ≤ 1000) (hrow2 : 2 ≤ vk v) (hrow5 : vk v ≤ 5) : pgV xt d 120 [.ref 17, .ref p] h (fun x h' => ∃ P, x = ii (((unq (nsame v) (vm v)).1 : Nat) : Int) ∧ h' = h.set 18 (cI 144 P) ∧ ∀ j, j < (unq (nsame v) (vm v)).1 → P j = (((unq (nsame v) (vm v)).2 j : Nat) : Int)) := by
  have h17 := hH.1
  obtain ⟨pf0, h18⟩ := hH.2.1
  obtain ⟨nf0, h19⟩ := hH.2.2.1
  have hcv := vw1_c hv.1
  obtain ⟨row, fr, vals, hp, hp2, hpA, hvk, hvm, hvc, hvs, hvl⟩ := cv_val hv
  have hpb := hA p hpA
  have hvq9 : vq v = vm v := by unfold vq; rw [if_neg (by omega), if_neg (by omega)]
  refine x_enter pm_X3_unlikePlaces (L0 := [(0, .ref 17), (1, .ref p)]) rfl (Nat.le_of_ble_eq_true rfl) (by omega) ?_
  refine me0 (pc' := 1) (S' := [ii 0]) dm_X3_unlikePlaces_0 rfl rfl rfl rfl ?_
  refine me1 (pc' := 2) (L' := [(2, ii 0), (0, .ref 17), (1, .ref p)]) (S' := []) dm_X3_unlikePlaces_1 rfl rfl rfl rfl ?_
  refine me0 (pc' := 3) (S' := [ii 0]) dm_X3_unlikePlaces_2 rfl rfl rfl rfl ?_
  refine me1 (pc' := 4) (L' := [(3, ii 0), (2, ii 0), (0, .ref 17), (1, .ref p)]) (S' := []) dm_X3_unlikePlaces_3 rfl rfl rfl rfl ?_
  have lp4 : ∀ (n4 : Nat) (k : Nat) (n : Nat) (P : Nat → Int), vm v - k = n4 → (k ≤ vm v) → (n = (unq (nsame v) k).1) → (∀ j, j < n → P j = (((unq (nsame v) k).2 j : Nat) : Int)) → pgE xt (d - 1) 3 5 false (Option.some Jvm.ClassFile.FieldType.int) (mj_dec prog_5_method_10_code) 4 [(0, .ref 17), (1, .ref p), (2, ii ((n : Nat) : Int)), (3, ii (k : Int))] [] ((h).set 18 (cI 144 P)) (fun r h' => ∃ x, r = some x ∧ (∃ P, x = ii (((unq (nsame v) (vm v)).1 : Nat) : Int) ∧ h' = h.set 18 (cI 144 P) ∧ ∀ j, j < (unq (nsame v) (vm v)).1 → P j = (((unq (nsame v) (vm v)).2 j : Nat) : Int))) := by
    intro n4
    induction n4 using Nat.strongRecOn with
    | ind n4 ih4 =>
      intro k n P hm4 hk hn hP
      have hul := unq_le (nsame v) k
      have hun := hul.1
      replace hul := hul.2
      refine me1 (pc' := 5) (L' := [(0, .ref 17), (1, .ref p), (2, ii ((n : Nat) : Int)), (3, ii (k : Int))]) (S' := [ii (k : Int)]) dm_X3_unlikePlaces_4 rfl rfl rfl rfl ?_
      refine me1 (pc' := 6) (L' := [(0, .ref 17), (1, .ref p), (2, ii ((n : Nat) : Int)), (3, ii (k : Int))]) (S' := [.ref p, ii (k : Int)]) dm_X3_unlikePlaces_5 rfl rfl rfl rfl ?_
      refine me3 (pc' := 9) (S' := [ii (vm v : Int), ii (k : Int)]) dm_X3_unlikePlaces_6 (g_get (v := ii (vm v : Int)) (hl_ne (by omega) hp) rfl rfl (by omega)) rfl rfl rfl ?_
      refine y_2ge (a := (k : Int)) (b := (vm v : Int)) (t := 69) (pc' := 12) dm_X3_unlikePlaces_9 rfl rfl (by omega) (fun hb1 => ?_) (fun hb1 => ?_)
      · refine me1 (pc' := 70) (L' := [(0, .ref 17), (1, .ref p), (2, ii ((n : Nat) : Int)), (3, ii (k : Int))]) (S' := [ii ((n : Nat) : Int)]) dm_X3_unlikePlaces_69 rfl rfl rfl rfl ?_
        refine y_ret (r := some (ii ((n : Nat) : Int))) dm_X3_unlikePlaces_70 rfl rfl rfl ?_
        have hkn : k = vm v := by omega
        rw [hkn] at hn hP
        exact ⟨_, rfl, P, by rw [hn], rfl, fun j hj => hP j (by omega)⟩
      · refine me0 (pc' := 13) (S' := [ii 0]) dm_X3_unlikePlaces_12 rfl rfl rfl rfl ?_
        refine me1 (pc' := 15) (L' := [(4, ii 0), (0, .ref 17), (1, .ref p), (2, ii ((n : Nat) : Int)), (3, ii (k : Int))]) (S' := []) dm_X3_unlikePlaces_13 rfl rfl rfl rfl ?_
        have lp15 : ∀ (n15 : Nat) (i : Nat), n - i = n15 → (i ≤ n) → (∀ j, j < i → nsame v k ((unq (nsame v) k).2 j) = false) → pgE xt (d - 1) 3 5 false (Option.some Jvm.ClassFile.FieldType.int) (mj_dec prog_5_method_10_code) 15 [(0, .ref 17), (1, .ref p), (2, ii ((n : Nat) : Int)), (3, ii (k : Int)), (4, ii (i : Int))] [] ((h).set 18 (cI 144 P)) (fun r h' => ∃ x, r = some x ∧ (∃ P, x = ii (((unq (nsame v) (vm v)).1 : Nat) : Int) ∧ h' = h.set 18 (cI 144 P) ∧ ∀ j, j < (unq (nsame v) (vm v)).1 → P j = (((unq (nsame v) (vm v)).2 j : Nat) : Int))) := by
          intro n15
          induction n15 using Nat.strongRecOn with
          | ind n15 ih15 =>
            intro i hm15 hi hno
            refine me1 (pc' := 17) (L' := [(0, .ref 17), (1, .ref p), (2, ii ((n : Nat) : Int)), (3, ii (k : Int)), (4, ii (i : Int))]) (S' := [ii (i : Int)]) dm_X3_unlikePlaces_15 rfl rfl rfl rfl ?_
            refine me1 (pc' := 18) (L' := [(0, .ref 17), (1, .ref p), (2, ii ((n : Nat) : Int)), (3, ii (k : Int)), (4, ii (i : Int))]) (S' := [ii ((n : Nat) : Int), ii (i : Int)]) dm_X3_unlikePlaces_17 rfl rfl rfl rfl ?_
            refine y_2ge (a := (i : Int)) (b := ((n : Nat) : Int)) (t := 47) (pc' := 21) dm_X3_unlikePlaces_18 rfl rfl (by omega) (fun hb2 => ?_) (fun hb2 => ?_)
            · refine me1 (pc' := 49) (L' := [(0, .ref 17), (1, .ref p), (2, ii ((n : Nat) : Int)), (3, ii (k : Int)), (4, ii (i : Int))]) (S' := [ii (i : Int)]) dm_X3_unlikePlaces_47 rfl rfl rfl rfl ?_
              refine me1 (pc' := 50) (L' := [(0, .ref 17), (1, .ref p), (2, ii ((n : Nat) : Int)), (3, ii (k : Int)), (4, ii (i : Int))]) (S' := [ii ((n : Nat) : Int), ii (i : Int)]) dm_X3_unlikePlaces_49 rfl rfl rfl rfl ?_
              refine y_2ne (a := (i : Int)) (b := ((n : Nat) : Int)) (t := 63) (pc' := 53) dm_X3_unlikePlaces_50 rfl rfl (by omega) (fun hb3 => ?_) (fun hb3 => ?_)
              · have hsaw : allN (unq (nsame v) k).1 (fun j => !(nsame v k ((unq (nsame v) k).2 j))) = false := by first | (exfalso; omega) | exact allN_f (k := i) (by omega) (by rw [show nsame v k ((unq (nsame v) k).2 i) = true from decide_eq_true (by rw [← hv1, ← hv2]; assumption)]; rfl)
                refine y_iinc (pc' := 66) (L' := [(3, ii ((k : Int) + 1)), (0, .ref 17), (1, .ref p), (2, ii ((n : Nat) : Int)), (4, ii (i : Int))]) dm_X3_unlikePlaces_63 (y_incp (a := (k : Int)) (c := 1) rfl rfl (by decide)) rfl ?_
                refine me2 (pc' := 4) (S' := []) dm_X3_unlikePlaces_66 rfl rfl rfl ?_
                exact pg_sub (L := [(0, .ref 17), (1, .ref p), (2, ii ((n : Nat) : Int)), (3, ii ((k + 1) : Int))]) rfl rfl rfl (ih4 (vm v - (k + 1)) (by omega) (k + 1) n P rfl (by omega) (by rw [unq_n hsaw]; exact hn) (fun j hj => by rw [unq_n hsaw]; exact hP j hj))
              · have hsaw : allN (unq (nsame v) k).1 (fun j => !(nsame v k ((unq (nsame v) k).2 j))) = true := allN_iff.mpr (fun j hj => by rw [hno j (by omega)]; rfl)
                refine me1 (pc' := 54) (L' := [(0, .ref 17), (1, .ref p), (2, ii ((n : Nat) : Int)), (3, ii (k : Int)), (4, ii (i : Int))]) (S' := [.ref 17]) dm_X3_unlikePlaces_53 rfl rfl rfl rfl ?_
                refine me3 (pc' := 57) (S' := [.ref 18]) dm_X3_unlikePlaces_54 (g_get (v := .ref 18) (hl_ne (by decide) h17) rfl rfl (by decide)) rfl rfl rfl ?_
                refine me1 (pc' := 58) (L' := [(0, .ref 17), (1, .ref p), (2, ii ((n : Nat) : Int)), (3, ii (k : Int)), (4, ii (i : Int))]) (S' := [ii ((n : Nat) : Int), .ref 18]) dm_X3_unlikePlaces_57 rfl rfl rfl rfl ?_
                refine me1 (pc' := 59) (L' := [(0, .ref 17), (1, .ref p), (2, ii ((n : Nat) : Int)), (3, ii (k : Int)), (4, ii (i : Int))]) (S' := [ii (k : Int), ii ((n : Nat) : Int), .ref 18]) dm_X3_unlikePlaces_58 rfl rfl rfl rfl ?_
                refine me3 (pc' := 60) (S' := []) (h1 := (h).set 18 (cI 144 (va_up P n (k : Int)))) dm_X3_unlikePlaces_59 (y_hs (yh_iast (j := ((n : Nat) : Int)) (hl_set (hl_lt h18)) (by omega) (by omega) (by omega) (by decide)) (by rw [show ((n : Nat) : Int).toNat = n from rfl]; rw [List.set_set])) rfl rfl rfl ?_
                refine y_iinc (pc' := 63) (L' := [(2, ii (((n : Nat) : Int) + 1)), (0, .ref 17), (1, .ref p), (3, ii (k : Int)), (4, ii (i : Int))]) dm_X3_unlikePlaces_60 (y_incp (a := ((n : Nat) : Int)) (c := 1) rfl rfl (by decide)) rfl ?_
                refine y_iinc (pc' := 66) (L' := [(3, ii ((k : Int) + 1)), (2, ii (((n : Nat) : Int) + 1)), (0, .ref 17), (1, .ref p), (4, ii (i : Int))]) dm_X3_unlikePlaces_63 (y_incp (a := (k : Int)) (c := 1) rfl rfl (by decide)) rfl ?_
                refine me2 (pc' := 4) (S' := []) dm_X3_unlikePlaces_66 rfl rfl rfl ?_
                exact pg_sub (L := [(0, .ref 17), (1, .ref p), (2, ii (((n + 1) : Nat) : Int)), (3, ii ((k + 1) : Int))]) rfl rfl rfl (ih4 (vm v - (k + 1)) (by omega) (k + 1) (n + 1) (va_up P n (k : Int)) rfl (by omega) (by rw [unq_s hsaw, hn]) (fun j hj => by rw [unq_s hsaw, up_at]; show _ = ((va_up (unq (nsame v) k).2 (unq (nsame v) k).1 k j : Nat) : Int); rw [up_at, ← hn]; by_cases z : j = n; (rw [if_pos z, if_pos z]); (rw [if_neg z, if_neg z]; exact hP j (by omega))))
            · have hui := hul i (by omega)
              have hPi := hP i (by omega)
              have hv1 : vnum v (k : Int) = vn v k := by rw [vnum_r (by omega) (by omega) (by omega)]; rfl
              have hv2 : vnum v ((((unq (nsame v) k).2 i : Nat)) : Int) = vn v ((unq (nsame v) k).2 i) := by rw [vnum_r (by omega) (by omega) (by omega)]; rfl
              refine me1 (pc' := 22) (L' := [(0, .ref 17), (1, .ref p), (2, ii ((n : Nat) : Int)), (3, ii (k : Int)), (4, ii (i : Int))]) (S' := [.ref p]) dm_X3_unlikePlaces_21 rfl rfl rfl rfl ?_
              refine me1 (pc' := 23) (L' := [(0, .ref 17), (1, .ref p), (2, ii ((n : Nat) : Int)), (3, ii (k : Int)), (4, ii (i : Int))]) (S' := [ii (k : Int), .ref p]) dm_X3_unlikePlaces_22 rfl rfl rfl rfl ?_
              refine x_cp (pc' := 26) (v := .long (vnum v (k : Int))) (rest := []) dm_X3_unlikePlaces_23 rfl (g_inv (As := [ii (k : Int)]) (S := []) (hl_ne (by omega) hp) rfl rfl rfl (by omega)) rfl rfl rfl (c_numberAt (i := (k : Int)) hx1 (by omega) (cv_set (nA hA (Or.inl (by decide))) hv) (by omega)) ?_
              refine me1 (pc' := 27) (L' := [(0, .ref 17), (1, .ref p), (2, ii ((n : Nat) : Int)), (3, ii (k : Int)), (4, ii (i : Int))]) (S' := [.ref p, .long (vnum v (k : Int))]) dm_X3_unlikePlaces_26 rfl rfl rfl rfl ?_
              refine me1 (pc' := 28) (L' := [(0, .ref 17), (1, .ref p), (2, ii ((n : Nat) : Int)), (3, ii (k : Int)), (4, ii (i : Int))]) (S' := [.ref 17, .ref p, .long (vnum v (k : Int))]) dm_X3_unlikePlaces_27 rfl rfl rfl rfl ?_
              refine me3 (pc' := 31) (S' := [.ref 18, .ref p, .long (vnum v (k : Int))]) dm_X3_unlikePlaces_28 (g_get (v := .ref 18) (hl_ne (by decide) h17) rfl rfl (by decide)) rfl rfl rfl ?_
              refine me1 (pc' := 33) (L' := [(0, .ref 17), (1, .ref p), (2, ii ((n : Nat) : Int)), (3, ii (k : Int)), (4, ii (i : Int))]) (S' := [ii (i : Int), .ref 18, .ref p, .long (vnum v (k : Int))]) dm_X3_unlikePlaces_31 rfl rfl rfl rfl ?_
              refine me3 (pc' := 34) (S' := [ii (P i), .ref p, .long (vnum v (k : Int))]) dm_X3_unlikePlaces_33 (yh_iald (v := P i) (hl_set (hl_lt h18)) (by omega) (by omega) (by omega) (by decide) rfl) rfl rfl rfl ?_
              refine pg_st0 (S' := [ii (((unq (nsame v) k).2 i : Nat) : Int), .ref p, .long (vnum v (k : Int))]) (congrArg (fun z => ii z :: [.ref p, .long (vnum v (k : Int))]) (hPi)) ?_
              refine x_cp (pc' := 37) (v := .long (vnum v (((unq (nsame v) k).2 i : Nat) : Int))) (rest := [.long (vnum v (k : Int))]) dm_X3_unlikePlaces_34 rfl (g_inv (As := [ii (((unq (nsame v) k).2 i : Nat) : Int)]) (S := [.long (vnum v (k : Int))]) (hl_ne (by omega) hp) rfl rfl rfl (by omega)) rfl rfl rfl (c_numberAt (i := (((unq (nsame v) k).2 i : Nat) : Int)) hx1 (by omega) (cv_set (nA hA (Or.inl (by decide))) hv) (by omega)) ?_
              refine y_leq (x := vnum v (k : Int)) (y := vnum v (((unq (nsame v) k).2 i : Nat) : Int)) (t := 47) (pc1 := 38) (pc' := 41) dm_X3_unlikePlaces_37 rfl dm_X3_unlikePlaces_38 rfl rfl (fun hb4 => ?_) (fun hb4 => ?_)
              · refine me1 (pc' := 49) (L' := [(0, .ref 17), (1, .ref p), (2, ii ((n : Nat) : Int)), (3, ii (k : Int)), (4, ii (i : Int))]) (S' := [ii (i : Int)]) dm_X3_unlikePlaces_47 rfl rfl rfl rfl ?_
                refine me1 (pc' := 50) (L' := [(0, .ref 17), (1, .ref p), (2, ii ((n : Nat) : Int)), (3, ii (k : Int)), (4, ii (i : Int))]) (S' := [ii ((n : Nat) : Int), ii (i : Int)]) dm_X3_unlikePlaces_49 rfl rfl rfl rfl ?_
                refine y_2ne (a := (i : Int)) (b := ((n : Nat) : Int)) (t := 63) (pc' := 53) dm_X3_unlikePlaces_50 rfl rfl (by omega) (fun hb5 => ?_) (fun hb5 => ?_)
                · have hsaw : allN (unq (nsame v) k).1 (fun j => !(nsame v k ((unq (nsame v) k).2 j))) = false := by first | (exfalso; omega) | exact allN_f (k := i) (by omega) (by rw [show nsame v k ((unq (nsame v) k).2 i) = true from decide_eq_true (by rw [← hv1, ← hv2]; assumption)]; rfl)
                  refine y_iinc (pc' := 66) (L' := [(3, ii ((k : Int) + 1)), (0, .ref 17), (1, .ref p), (2, ii ((n : Nat) : Int)), (4, ii (i : Int))]) dm_X3_unlikePlaces_63 (y_incp (a := (k : Int)) (c := 1) rfl rfl (by decide)) rfl ?_
                  refine me2 (pc' := 4) (S' := []) dm_X3_unlikePlaces_66 rfl rfl rfl ?_
                  exact pg_sub (L := [(0, .ref 17), (1, .ref p), (2, ii ((n : Nat) : Int)), (3, ii ((k + 1) : Int))]) rfl rfl rfl (ih4 (vm v - (k + 1)) (by omega) (k + 1) n P rfl (by omega) (by rw [unq_n hsaw]; exact hn) (fun j hj => by rw [unq_n hsaw]; exact hP j hj))
                · have hsaw : allN (unq (nsame v) k).1 (fun j => !(nsame v k ((unq (nsame v) k).2 j))) = true := allN_iff.mpr (fun j hj => by rw [hno j (by omega)]; rfl)
                  refine me1 (pc' := 54) (L' := [(0, .ref 17), (1, .ref p), (2, ii ((n : Nat) : Int)), (3, ii (k : Int)), (4, ii (i : Int))]) (S' := [.ref 17]) dm_X3_unlikePlaces_53 rfl rfl rfl rfl ?_
                  refine me3 (pc' := 57) (S' := [.ref 18]) dm_X3_unlikePlaces_54 (g_get (v := .ref 18) (hl_ne (by decide) h17) rfl rfl (by decide)) rfl rfl rfl ?_
                  refine me1 (pc' := 58) (L' := [(0, .ref 17), (1, .ref p), (2, ii ((n : Nat) : Int)), (3, ii (k : Int)), (4, ii (i : Int))]) (S' := [ii ((n : Nat) : Int), .ref 18]) dm_X3_unlikePlaces_57 rfl rfl rfl rfl ?_
                  refine me1 (pc' := 59) (L' := [(0, .ref 17), (1, .ref p), (2, ii ((n : Nat) : Int)), (3, ii (k : Int)), (4, ii (i : Int))]) (S' := [ii (k : Int), ii ((n : Nat) : Int), .ref 18]) dm_X3_unlikePlaces_58 rfl rfl rfl rfl ?_
                  refine me3 (pc' := 60) (S' := []) (h1 := (h).set 18 (cI 144 (va_up P n (k : Int)))) dm_X3_unlikePlaces_59 (y_hs (yh_iast (j := ((n : Nat) : Int)) (hl_set (hl_lt h18)) (by omega) (by omega) (by omega) (by decide)) (by rw [show ((n : Nat) : Int).toNat = n from rfl]; rw [List.set_set])) rfl rfl rfl ?_
                  refine y_iinc (pc' := 63) (L' := [(2, ii (((n : Nat) : Int) + 1)), (0, .ref 17), (1, .ref p), (3, ii (k : Int)), (4, ii (i : Int))]) dm_X3_unlikePlaces_60 (y_incp (a := ((n : Nat) : Int)) (c := 1) rfl rfl (by decide)) rfl ?_
                  refine y_iinc (pc' := 66) (L' := [(3, ii ((k : Int) + 1)), (2, ii (((n : Nat) : Int) + 1)), (0, .ref 17), (1, .ref p), (4, ii (i : Int))]) dm_X3_unlikePlaces_63 (y_incp (a := (k : Int)) (c := 1) rfl rfl (by decide)) rfl ?_
                  refine me2 (pc' := 4) (S' := []) dm_X3_unlikePlaces_66 rfl rfl rfl ?_
                  exact pg_sub (L := [(0, .ref 17), (1, .ref p), (2, ii (((n + 1) : Nat) : Int)), (3, ii ((k + 1) : Int))]) rfl rfl rfl (ih4 (vm v - (k + 1)) (by omega) (k + 1) (n + 1) (va_up P n (k : Int)) rfl (by omega) (by rw [unq_s hsaw, hn]) (fun j hj => by rw [unq_s hsaw, up_at]; show _ = ((va_up (unq (nsame v) k).2 (unq (nsame v) k).1 k j : Nat) : Int); rw [up_at, ← hn]; by_cases z : j = n; (rw [if_pos z, if_pos z]); (rw [if_neg z, if_neg z]; exact hP j (by omega))))
              · refine y_iinc (pc' := 44) (L' := [(4, ii ((i : Int) + 1)), (0, .ref 17), (1, .ref p), (2, ii ((n : Nat) : Int)), (3, ii (k : Int))]) dm_X3_unlikePlaces_41 (y_incp (a := (i : Int)) (c := 1) rfl rfl (by decide)) rfl ?_
                refine me2 (pc' := 15) (S' := []) dm_X3_unlikePlaces_44 rfl rfl rfl ?_
                exact pg_sub (L := [(0, .ref 17), (1, .ref p), (2, ii ((n : Nat) : Int)), (3, ii (k : Int)), (4, ii ((i + 1) : Int))]) rfl rfl rfl (ih15 (n - (i + 1)) (by omega) (i + 1) rfl (by omega) (fun j hj => by by_cases z : j = i; (subst z; exact decide_eq_false (by rw [← hv1, ← hv2]; assumption)); exact hno j (by omega)))
        exact pg_sub (L := [(0, .ref 17), (1, .ref p), (2, ii ((n : Nat) : Int)), (3, ii (k : Int)), (4, ii (0 : Int))]) rfl rfl rfl (lp15 _ 0 rfl (Nat.zero_le _) (fun j hj => absurd hj (Nat.not_lt_zero j)))
  refine pg_cast (h2 := (h).set 18 (cI 144 pf0)) (hl_self h18).symm ?_
  exact pg_sub (L := [(0, .ref 17), (1, .ref p), (2, ii ((0 : Nat) : Int)), (3, ii (0 : Int))]) rfl rfl rfl (lp4 _ 0 0 pf0 rfl (Nat.zero_le _) rfl (fun j hj => absurd hj (Nat.not_lt_zero j)))
