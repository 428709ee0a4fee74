theorem vnum_q {v : VV} {k : Nat} (hw : vw1 v) (h7 : vk v ≠ 7) (hk : k < vq v) : vnum v ((k : Nat) : Int) = vn v k := by
  by_cases h : vk v ≤ 1
  · rw [vq_1 hw h] at hk
    rw [vnum_1 h, show k = 0 by omega]
  · rw [vnum_r (by omega) (by omega) (by omega)]
    rfl
/-- , with two: the numbers of both -/
def jnF (v w : VV) : Nat → Int64 := fun j => if j < vq v then vn v j else vn w (j - vq v)
abbrev ofN (v : VV) : Prop := vk v = 0 ∨ 2 ≤ vk v ∧ vk v ≤ 5 ∧ vk v ≠ 3
abbrev ofS (v : VV) : Prop := vk v = 1 ∨ vk v = 3
abbrev jflat (v w : VV) : Prop := (ofN v ∧ ofN w) ∨ (ofS v ∧ ofS w)
/-- the items of both -/
def jch (v w : VV) : Nat → VV := fun k => if k < vm v then vit v k else vit w (k - vm v)
theorem jch_l {v w : VV} {k : Nat} (h : k < vm v) : jch v w k = vit v k := if_pos h
theorem jch_r {v w : VV} {k : Nat} (h : ¬ k < vm v) : jch v w k = vit w (k - vm v) := if_neg h
def d_join (v w : VV) : Nat ⊕ VV := if jflat v w then (if 120 < vm v + vm w then .inl 8 else .inr (vrow (if vk v = 2 ∧ vk w = 2 then 2 else if ofN v ∧ ofN w then vform (vq v + vq w) (jnF v w) else 3) (vq v + vq w) (jnF v w))) else if vk v = 6 ∧ vk w = 6 ∧ vc v = vc w then (if 12 < vm v + vm w then .inl 8 else .inr (vtab (vm v + vm w) (vc v) (jnF v w))) else if 24 < vm v + vm w then .inl 8 else .inr (vnest (vm v + vm w) (jch v w))
theorem jnF_l {v w : VV} {j : Nat} (h : j < vq v) : jnF v w j = vn v j := if_pos h
theorem jnF_r {v w : VV} {j : Nat} (h : ¬ j < vq v) : jnF v w j = vn w (j - vq v) := if_neg h
theorem vq_m {v : VV} (h : vk v ≤ 5) : vq v = vm v := by unfold vq; rw [if_neg (by omega), if_neg (by omega)]
theorem vq_tb {v : VV} (h : vk v = 6) : vq v = vm v * vc v := by unfold vq; rw [if_pos h]
/-- bits of two rows of bits are bits -/
theorem jn_bits {v w : VV} (hv : vw1 v) (hw : vw1 w) (h1 : vk v = 2) (h2 : vk w = 2) : ∀ k, k < vq v + vq w → jnF v w k = 0 ∨ jnF v w k = 1 := by
  intro k hk
  by_cases z : k < vq v
  · rw [jnF_l z]; exact hv.2.2.2.2.2 h1 k (by rw [← vq_m (by omega)]; exact z)
  · rw [jnF_r z]; exact hw.2.2.2.2.2 h2 _ (by rw [← vq_m (by omega)]; omega)
theorem jn_fits {v w : VV} (hv : vw1 v) (hw : vw1 w) (h1 : vk v = 6) (h2 : vk w = 6) : ∀ k, k < vq v + vq w → fits (jnF v w k) := by
  intro k hk
  by_cases z : k < vq v
  · rw [jnF_l z]; exact (hv.2.2.2.1 h1).2.2.2.2 k (by rw [← vq_tb h1]; exact z)
  · rw [jnF_r z]; exact (hw.2.2.2.1 h2).2.2.2.2 _ (by rw [← vq_tb h2]; omega)
theorem vres_bits {A : Nat → Prop} {h : mj_H} {e n a b : Nat} {f g : Nat → Int64} (hl : 127 ≤ h.length) (hn : n ≤ 120) (hb : ∀ j, j < n → g j = 0 ∨ g j = 1) (hf : ∀ j, j < n → f j = g j) (ha : 2 ≤ a) (hb9 : n + 9 ≤ b) : vres A h (e + 1) (vrow 2 n g) a b (.ref (h.length + 1)) ((h ++ [cJ n f]) ++ [cVal 2 0 h.length 0 (n : Int) 0]) :=
  vres_flat (w := vrow 2 n g) hl (vw1_bits hn hb) (by show 2 ≤ 2; omega) (by show 2 ≤ 6; omega) (vq_row (by omega)) hf ha hb9
set_option maxRecDepth 20000 in
theorem pm_X9_joinedNumbers : mj_mmof pg_ms 145 = some ((⟨"ArrayCalculator$TwoAct", "joinedNumbers", "(LArrayCalculator$Value;LArrayCalculator$Value;)[J"⟩, prog_11_method_4_code, 5, (Option.some (Jvm.ClassFile.FieldType.array Jvm.ClassFile.FieldType.long))), 9, false, mj_dec prog_11_method_4_code) := rfl
theorem dm_X9_joinedNumbers_0 : mj_dec prog_11_method_4_code 0 = some (.aload_n 0, 1) := by decide +kernel
theorem dm_X9_joinedNumbers_1 : mj_dec prog_11_method_4_code 1 = some (.invokevirtual 127, 3) := by decide +kernel
theorem dm_X9_joinedNumbers_4 : mj_dec prog_11_method_4_code 4 = some (.istore_n 2, 1) := by decide +kernel
theorem dm_X9_joinedNumbers_5 : mj_dec prog_11_method_4_code 5 = some (.iload_n 2, 1) := by decide +kernel
theorem dm_X9_joinedNumbers_6 : mj_dec prog_11_method_4_code 6 = some (.aload_n 1, 1) := by decide +kernel
theorem dm_X9_joinedNumbers_7 : mj_dec prog_11_method_4_code 7 = some (.invokevirtual 127, 3) := by decide +kernel
theorem dm_X9_joinedNumbers_10 : mj_dec prog_11_method_4_code 10 = some (.iadd, 1) := by decide +kernel
theorem dm_X9_joinedNumbers_11 : mj_dec prog_11_method_4_code 11 = some (.newarray .long, 2) := by decide +kernel
theorem dm_X9_joinedNumbers_13 : mj_dec prog_11_method_4_code 13 = some (.astore_n 3, 1) := by decide +kernel
theorem dm_X9_joinedNumbers_14 : mj_dec prog_11_method_4_code 14 = some (.iconst 0, 1) := by decide +kernel
theorem dm_X9_joinedNumbers_15 : mj_dec prog_11_method_4_code 15 = some (.istore 4, 2) := by decide +kernel
theorem dm_X9_joinedNumbers_17 : mj_dec prog_11_method_4_code 17 = some (.iload 4, 2) := by decide +kernel
theorem dm_X9_joinedNumbers_19 : mj_dec prog_11_method_4_code 19 = some (.aload_n 3, 1) := by decide +kernel
theorem dm_X9_joinedNumbers_20 : mj_dec prog_11_method_4_code 20 = some (.arraylength, 1) := by decide +kernel
theorem dm_X9_joinedNumbers_21 : mj_dec prog_11_method_4_code 21 = some (.if_icmp .ge 36, 3) := by decide +kernel
theorem dm_X9_joinedNumbers_24 : mj_dec prog_11_method_4_code 24 = some (.aload_n 3, 1) := by decide +kernel
theorem dm_X9_joinedNumbers_25 : mj_dec prog_11_method_4_code 25 = some (.iload 4, 2) := by decide +kernel
theorem dm_X9_joinedNumbers_27 : mj_dec prog_11_method_4_code 27 = some (.iload 4, 2) := by decide +kernel
theorem dm_X9_joinedNumbers_29 : mj_dec prog_11_method_4_code 29 = some (.iload_n 2, 1) := by decide +kernel
theorem dm_X9_joinedNumbers_30 : mj_dec prog_11_method_4_code 30 = some (.if_icmp .ge 12, 3) := by decide +kernel
theorem dm_X9_joinedNumbers_33 : mj_dec prog_11_method_4_code 33 = some (.aload_n 0, 1) := by decide +kernel
theorem dm_X9_joinedNumbers_34 : mj_dec prog_11_method_4_code 34 = some (.iload 4, 2) := by decide +kernel
theorem dm_X9_joinedNumbers_36 : mj_dec prog_11_method_4_code 36 = some (.invokevirtual 129, 3) := by decide +kernel
theorem dm_X9_joinedNumbers_39 : mj_dec prog_11_method_4_code 39 = some (.goto 11, 3) := by decide +kernel
theorem dm_X9_joinedNumbers_42 : mj_dec prog_11_method_4_code 42 = some (.aload_n 1, 1) := by decide +kernel
theorem dm_X9_joinedNumbers_43 : mj_dec prog_11_method_4_code 43 = some (.iload 4, 2) := by decide +kernel
theorem dm_X9_joinedNumbers_45 : mj_dec prog_11_method_4_code 45 = some (.iload_n 2, 1) := by decide +kernel
theorem dm_X9_joinedNumbers_46 : mj_dec prog_11_method_4_code 46 = some (.isub, 1) := by decide +kernel
theorem dm_X9_joinedNumbers_47 : mj_dec prog_11_method_4_code 47 = some (.invokevirtual 129, 3) := by decide +kernel
theorem dm_X9_joinedNumbers_50 : mj_dec prog_11_method_4_code 50 = some (.lastore, 1) := by decide +kernel
theorem dm_X9_joinedNumbers_51 : mj_dec prog_11_method_4_code 51 = some (.iinc 4 1, 3) := by decide +kernel
theorem dm_X9_joinedNumbers_54 : mj_dec prog_11_method_4_code 54 = some (.goto (-37), 3) := by decide +kernel
theorem dm_X9_joinedNumbers_57 : mj_dec prog_11_method_4_code 57 = some (.aload_n 3, 1) := by decide +kernel
theorem dm_X9_joinedNumbers_58 : mj_dec prog_11_method_4_code 58 = some (.areturn, 1) := by decide +kernel
theorem t_joinedNumbers {xt : mj_X} {d e p q q1 : Nat} {A : Nat → Prop} {h : mj_H} {v w : VV} {f1 : Nat → Value} (hx1 : xt 1 = some (.long, 0, f1)) (hd : 3 ≤ d) (hl : 2 ≤ h.length) (hq1 : h.length = q1) (hv : cv A h (e + 1) p v) (hw : cv A h (e + 1) q w) (hv7 : vk v ≠ 7) (hw7 : vk w ≠ 7) : pgV xt d 145 [.ref p, .ref q] h (fun x h' => ∃ F, x = .ref q1 ∧ h' = h ++ [cJ (vq v + vq w) F] ∧ ∀ j, j < vq v + vq w → F j = jnF v w j) := by
  subst hq1
  obtain ⟨row, fr, vals, hp, hp2, hpA, hvk, hvm, hvc, hvs, hvl⟩ := cv_val hv
  obtain ⟨row2, fr2, vals2, hq, hq2, hqA, hwk, hwm, hwc, hws, hwl⟩ := cv_val hw
  have hvq9 := vq_le hv.1
  have hwq9 := vq_le hw.1
  refine x_enter pm_X9_joinedNumbers (L0 := [(0, .ref p), (1, .ref q)]) rfl (Nat.le_of_ble_eq_true rfl) (by omega) ?_
  refine me1 (pc' := 1) (L' := [(0, .ref p), (1, .ref q)]) (S' := [.ref p]) dm_X9_joinedNumbers_0 rfl rfl rfl rfl ?_
  refine x_cp (pc' := 4) (v := ii (vq v : Int)) (rest := []) dm_X9_joinedNumbers_1 rfl (g_inv (As := []) (S := []) hp rfl rfl rfl (by omega)) rfl rfl rfl (c_numbers (by omega) hv) ?_
  refine me1 (pc' := 5) (L' := [(2, ii (vq v : Int)), (0, .ref p), (1, .ref q)]) (S' := []) dm_X9_joinedNumbers_4 rfl rfl rfl rfl ?_
  refine me1 (pc' := 6) (L' := [(2, ii (vq v : Int)), (0, .ref p), (1, .ref q)]) (S' := [ii (vq v : Int)]) dm_X9_joinedNumbers_5 rfl rfl rfl rfl ?_
  refine me1 (pc' := 7) (L' := [(2, ii (vq v : Int)), (0, .ref p), (1, .ref q)]) (S' := [.ref q, ii (vq v : Int)]) dm_X9_joinedNumbers_6 rfl rfl rfl rfl ?_
  refine x_cp (pc' := 10) (v := ii (vq w : Int)) (rest := [ii (vq v : Int)]) dm_X9_joinedNumbers_7 rfl (g_inv (As := []) (S := [ii (vq v : Int)]) hq rfl rfl rfl (by omega)) rfl rfl rfl (c_numbers (by omega) hw) ?_
  refine y_iadd (a := (vq v : Int)) (b := (vq w : Int)) dm_X9_joinedNumbers_10 (pc' := 11) rfl ?_
  refine pg_st0 (S' := [ii ((vq v + vq w : Nat) : Int)]) (congrArg (fun z => ii z :: []) (by push_cast; rfl)) ?_
  refine me3 (pc' := 13) (S' := [.ref h.length]) (h1 := h ++ [cJ (vq v + vq w) (fun _ => 0)]) dm_X9_joinedNumbers_11 (yh_newJ (by omega) (by omega) (by omega) rfl) rfl rfl rfl ?_
  refine me1 (pc' := 14) (L' := [(3, .ref h.length), (2, ii (vq v : Int)), (0, .ref p), (1, .ref q)]) (S' := []) dm_X9_joinedNumbers_13 rfl rfl rfl rfl ?_
  refine me0 (pc' := 15) (S' := [ii 0]) dm_X9_joinedNumbers_14 rfl rfl rfl rfl ?_
  refine me1 (pc' := 17) (L' := [(4, ii 0), (3, .ref h.length), (2, ii (vq v : Int)), (0, .ref p), (1, .ref q)]) (S' := []) dm_X9_joinedNumbers_15 rfl rfl rfl rfl ?_
  have lp17 : ∀ (n17 : Nat) (k : Nat) (G : Nat → Int64), vq v + vq w - k = n17 → (k ≤ vq v + vq w) → (∀ j, j < k → G j = jnF v w j) → pgE xt (d - 1) 9 5 false (Option.some (Jvm.ClassFile.FieldType.array Jvm.ClassFile.FieldType.long)) (mj_dec prog_11_method_4_code) 17 [(0, .ref p), (1, .ref q), (2, ii (vq v : Int)), (3, .ref h.length), (4, ii ((k : Nat) : Int))] [] (h ++ [cJ (vq v + vq w) G]) (fun r h' => ∃ x, r = some x ∧ (fun x h' => ∃ F, x = .ref h.length ∧ h' = h ++ [cJ (vq v + vq w) F] ∧ ∀ j, j < vq v + vq w → F j = jnF v w j) x h') := by
    intro n17
    induction n17 using Nat.strongRecOn with
    | ind n17 ih17 =>
      intro k G hm17 hk hG
      refine me1 (pc' := 19) (L' := [(0, .ref p), (1, .ref q), (2, ii (vq v : Int)), (3, .ref h.length), (4, ii ((k : Nat) : Int))]) (S' := [ii ((k : Nat) : Int)]) dm_X9_joinedNumbers_17 rfl rfl rfl rfl ?_
      refine me1 (pc' := 20) (L' := [(0, .ref p), (1, .ref q), (2, ii (vq v : Int)), (3, .ref h.length), (4, ii ((k : Nat) : Int))]) (S' := [.ref h.length, ii ((k : Nat) : Int)]) dm_X9_joinedNumbers_19 rfl rfl rfl rfl ?_
      refine me3 (pc' := 21) (S' := [ii (vq v + vq w), ii ((k : Nat) : Int)]) dm_X9_joinedNumbers_20 (yh_len (n := vq v + vq w) rfl hl_new (by omega)) rfl rfl rfl ?_
      refine y_2ge (a := ((k : Nat) : Int)) (b := vq v + vq w) (t := 57) (pc' := 24) dm_X9_joinedNumbers_21 rfl rfl (by omega) (fun hb1 => ?_) (fun hb1 => ?_)
      · refine me1 (pc' := 58) (L' := [(0, .ref p), (1, .ref q), (2, ii (vq v : Int)), (3, .ref h.length), (4, ii ((k : Nat) : Int))]) (S' := [.ref h.length]) dm_X9_joinedNumbers_57 rfl rfl rfl rfl ?_
        refine y_ret (r := some (.ref h.length)) dm_X9_joinedNumbers_58 rfl rfl rfl ?_
        exact ⟨_, rfl, G, rfl, rfl, fun j hj => hG j (by omega)⟩
      · refine me1 (pc' := 25) (L' := [(0, .ref p), (1, .ref q), (2, ii (vq v : Int)), (3, .ref h.length), (4, ii ((k : Nat) : Int))]) (S' := [.ref h.length]) dm_X9_joinedNumbers_24 rfl rfl rfl rfl ?_
        refine me1 (pc' := 27) (L' := [(0, .ref p), (1, .ref q), (2, ii (vq v : Int)), (3, .ref h.length), (4, ii ((k : Nat) : Int))]) (S' := [ii ((k : Nat) : Int), .ref h.length]) dm_X9_joinedNumbers_25 rfl rfl rfl rfl ?_
        refine me1 (pc' := 29) (L' := [(0, .ref p), (1, .ref q), (2, ii (vq v : Int)), (3, .ref h.length), (4, ii ((k : Nat) : Int))]) (S' := [ii ((k : Nat) : Int), ii ((k : Nat) : Int), .ref h.length]) dm_X9_joinedNumbers_27 rfl rfl rfl rfl ?_
        refine me1 (pc' := 30) (L' := [(0, .ref p), (1, .ref q), (2, ii (vq v : Int)), (3, .ref h.length), (4, ii ((k : Nat) : Int))]) (S' := [ii (vq v : Int), ii ((k : Nat) : Int), ii ((k : Nat) : Int), .ref h.length]) dm_X9_joinedNumbers_29 rfl rfl rfl rfl ?_
        refine y_2ge (a := ((k : Nat) : Int)) (b := (vq v : Int)) (t := 42) (pc' := 33) dm_X9_joinedNumbers_30 rfl rfl (by omega) (fun hb2 => ?_) (fun hb2 => ?_)
        · refine me1 (pc' := 43) (L' := [(0, .ref p), (1, .ref q), (2, ii (vq v : Int)), (3, .ref h.length), (4, ii ((k : Nat) : Int))]) (S' := [.ref q, ii ((k : Nat) : Int), .ref h.length]) dm_X9_joinedNumbers_42 rfl rfl rfl rfl ?_
          refine me1 (pc' := 45) (L' := [(0, .ref p), (1, .ref q), (2, ii (vq v : Int)), (3, .ref h.length), (4, ii ((k : Nat) : Int))]) (S' := [ii ((k : Nat) : Int), .ref q, ii ((k : Nat) : Int), .ref h.length]) dm_X9_joinedNumbers_43 rfl rfl rfl rfl ?_
          refine me1 (pc' := 46) (L' := [(0, .ref p), (1, .ref q), (2, ii (vq v : Int)), (3, .ref h.length), (4, ii ((k : Nat) : Int))]) (S' := [ii (vq v : Int), ii ((k : Nat) : Int), .ref q, ii ((k : Nat) : Int), .ref h.length]) dm_X9_joinedNumbers_45 rfl rfl rfl rfl ?_
          refine y_isub (a := ((k : Nat) : Int)) (b := (vq v : Int)) dm_X9_joinedNumbers_46 (pc' := 47) rfl ?_
          refine pg_st0 (S' := [ii ((k - vq v : Nat) : Int), .ref q, ii ((k : Nat) : Int), .ref h.length]) (congrArg (fun z => ii z :: [.ref q, ii ((k : Nat) : Int), .ref h.length]) (by omega)) ?_
          refine x_cp (pc' := 50) (v := .long (vn w (k - vq v))) (rest := [ii ((k : Nat) : Int), .ref h.length]) dm_X9_joinedNumbers_47 rfl (g_inv (As := [ii ((k - vq v : Nat) : Int)]) (S := [ii ((k : Nat) : Int), .ref h.length]) (hl_app hq) rfl rfl rfl (by omega)) rfl rfl rfl ((show pgP xt (d - 1) _ _ _ (.long (vn w (k - vq v))) from vnum_q (v := w) (k := k - vq v) hw.1 (by omega) (by omega) ▸ c_numberAt (i := ((k - vq v : Nat) : Int)) hx1 (by omega) (cv_app hw) (by omega))) ?_
          refine me3 (pc' := 51) (S' := []) (h1 := h ++ [cJ (vq v + vq w) (va_up G k (vn w (k - vq v)))]) dm_X9_joinedNumbers_50 (y_hs (yh_last (j := ((k : Nat) : Int)) hl_new (by omega) (by omega) (by omega) (by omega)) (by rw [show ((k : Nat) : Int).toNat = k from rfl]; exact (hl_setl))) rfl rfl rfl ?_
          refine y_iinc (pc' := 54) (L' := [(4, ii (((k : Nat) : Int) + 1)), (0, .ref p), (1, .ref q), (2, ii (vq v : Int)), (3, .ref h.length)]) dm_X9_joinedNumbers_51 (y_incp (a := ((k : Nat) : Int)) (c := 1) rfl rfl (by decide)) rfl ?_
          refine me2 (pc' := 17) (S' := []) dm_X9_joinedNumbers_54 rfl rfl rfl ?_
          exact pg_sub (L := [(0, .ref p), (1, .ref q), (2, ii (vq v : Int)), (3, .ref h.length), (4, ii (((k + 1) : Nat) : Int))]) rfl rfl rfl (ih17 (vq v + vq w - (k + 1)) (by omega) (k + 1) (va_up G k (vn w (k - vq v))) rfl (by omega) (fun j hj => by rw [up_at]; by_cases z : j = k; (rw [if_pos z, z]; first | exact (jnF_l (by omega)).symm | exact (jnF_r (by omega)).symm); (rw [if_neg z]; exact hG j (by omega))))
        · refine me1 (pc' := 34) (L' := [(0, .ref p), (1, .ref q), (2, ii (vq v : Int)), (3, .ref h.length), (4, ii ((k : Nat) : Int))]) (S' := [.ref p, ii ((k : Nat) : Int), .ref h.length]) dm_X9_joinedNumbers_33 rfl rfl rfl rfl ?_
          refine me1 (pc' := 36) (L' := [(0, .ref p), (1, .ref q), (2, ii (vq v : Int)), (3, .ref h.length), (4, ii ((k : Nat) : Int))]) (S' := [ii ((k : Nat) : Int), .ref p, ii ((k : Nat) : Int), .ref h.length]) dm_X9_joinedNumbers_34 rfl rfl rfl rfl ?_
          refine x_cp (pc' := 39) (v := .long (vn v (k))) (rest := [ii ((k : Nat) : Int), .ref h.length]) dm_X9_joinedNumbers_36 rfl (g_inv (As := [ii ((k : Nat) : Int)]) (S := [ii ((k : Nat) : Int), .ref h.length]) (hl_app hp) rfl rfl rfl (by omega)) rfl rfl rfl ((show pgP xt (d - 1) _ _ _ (.long (vn v (k))) from vnum_q (v := v) (k := k) hv.1 (by omega) (by omega) ▸ c_numberAt (i := ((k : Nat) : Int)) hx1 (by omega) (cv_app hv) (by omega))) ?_
          refine me2 (pc' := 50) (S' := [.long (vn v (k)), ii ((k : Nat) : Int), .ref h.length]) dm_X9_joinedNumbers_39 rfl rfl rfl ?_
          refine me3 (pc' := 51) (S' := []) (h1 := h ++ [cJ (vq v + vq w) (va_up G k (vn v (k)))]) dm_X9_joinedNumbers_50 (y_hs (yh_last (j := ((k : Nat) : Int)) hl_new (by omega) (by omega) (by omega) (by omega)) (by rw [show ((k : Nat) : Int).toNat = k from rfl]; exact (hl_setl))) rfl rfl rfl ?_
          refine y_iinc (pc' := 54) (L' := [(4, ii (((k : Nat) : Int) + 1)), (0, .ref p), (1, .ref q), (2, ii (vq v : Int)), (3, .ref h.length)]) dm_X9_joinedNumbers_51 (y_incp (a := ((k : Nat) : Int)) (c := 1) rfl rfl (by decide)) rfl ?_
          refine me2 (pc' := 17) (S' := []) dm_X9_joinedNumbers_54 rfl rfl rfl ?_
          exact pg_sub (L := [(0, .ref p), (1, .ref q), (2, ii (vq v : Int)), (3, .ref h.length), (4, ii (((k + 1) : Nat) : Int))]) rfl rfl rfl (ih17 (vq v + vq w - (k + 1)) (by omega) (k + 1) (va_up G k (vn v (k))) rfl (by omega) (fun j hj => by rw [up_at]; by_cases z : j = k; (rw [if_pos z, z]; first | exact (jnF_l (by omega)).symm | exact (jnF_r (by omega)).symm); (rw [if_neg z]; exact hG j (by omega))))
  exact pg_sub (L := [(0, .ref p), (1, .ref q), (2, ii (vq v : Int)), (3, .ref h.length), (4, ii ((0 : Nat) : Int))]) rfl rfl rfl (lp17 _ 0 (fun _ => 0) rfl (Nat.zero_le _) (fun j hj => absurd hj (Nat.not_lt_zero j)))
set_option maxRecDepth 20000 in
theorem pm_X9_joined : mj_mmof pg_ms 143 = some ((⟨"ArrayCalculator$TwoAct", "joined", "(LArrayCalculator$Value;LArrayCalculator$Value;)LArrayCalculator$Value;"⟩, prog_11_method_3_code, 5, (Option.some (Jvm.ClassFile.FieldType.object "ArrayCalculator$Value"))), 9, false, mj_dec prog_11_method_3_code) := rfl
theorem dm_X9_joined_0 : mj_dec prog_11_method_3_code 0 = some (.aload_n 0, 1) := by decide +kernel
theorem dm_X9_joined_1 : mj_dec prog_11_method_3_code 1 = some (.invokevirtual 88, 3) := by decide +kernel
theorem dm_X9_joined_4 : mj_dec prog_11_method_3_code 4 = some (.ifCond .eq 14, 3) := by decide +kernel
theorem dm_X9_joined_7 : mj_dec prog_11_method_3_code 7 = some (.aload_n 1, 1) := by decide +kernel
theorem dm_X9_joined_8 : mj_dec prog_11_method_3_code 8 = some (.invokevirtual 88, 3) := by decide +kernel
theorem dm_X9_joined_11 : mj_dec prog_11_method_3_code 11 = some (.ifCond .eq 7, 3) := by decide +kernel
theorem dm_X9_joined_14 : mj_dec prog_11_method_3_code 14 = some (.iconst 1, 1) := by decide +kernel
theorem dm_X9_joined_15 : mj_dec prog_11_method_3_code 15 = some (.goto 4, 3) := by decide +kernel
theorem dm_X9_joined_18 : mj_dec prog_11_method_3_code 18 = some (.iconst 0, 1) := by decide +kernel
theorem dm_X9_joined_19 : mj_dec prog_11_method_3_code 19 = some (.istore_n 2, 1) := by decide +kernel
theorem dm_X9_joined_20 : mj_dec prog_11_method_3_code 20 = some (.iload_n 2, 1) := by decide +kernel
theorem dm_X9_joined_21 : mj_dec prog_11_method_3_code 21 = some (.ifCond .ne 17, 3) := by decide +kernel
theorem dm_X9_joined_24 : mj_dec prog_11_method_3_code 24 = some (.aload_n 0, 1) := by decide +kernel
theorem dm_X9_joined_25 : mj_dec prog_11_method_3_code 25 = some (.invokevirtual 91, 3) := by decide +kernel
theorem dm_X9_joined_28 : mj_dec prog_11_method_3_code 28 = some (.ifCond .eq 75, 3) := by decide +kernel
theorem dm_X9_joined_31 : mj_dec prog_11_method_3_code 31 = some (.aload_n 1, 1) := by decide +kernel
theorem dm_X9_joined_32 : mj_dec prog_11_method_3_code 32 = some (.invokevirtual 91, 3) := by decide +kernel
theorem dm_X9_joined_35 : mj_dec prog_11_method_3_code 35 = some (.ifCond .eq 68, 3) := by decide +kernel
theorem dm_X9_joined_38 : mj_dec prog_11_method_3_code 38 = some (.aload_n 0, 1) := by decide +kernel
theorem dm_X9_joined_39 : mj_dec prog_11_method_3_code 39 = some (.getfield 94, 3) := by decide +kernel
theorem dm_X9_joined_42 : mj_dec prog_11_method_3_code 42 = some (.aload_n 1, 1) := by decide +kernel
theorem dm_X9_joined_43 : mj_dec prog_11_method_3_code 43 = some (.getfield 94, 3) := by decide +kernel
theorem dm_X9_joined_46 : mj_dec prog_11_method_3_code 46 = some (.iadd, 1) := by decide +kernel
theorem dm_X9_joined_47 : mj_dec prog_11_method_3_code 47 = some (.bipush 120, 2) := by decide +kernel
theorem dm_X9_joined_49 : mj_dec prog_11_method_3_code 49 = some (.if_icmp .le 9, 3) := by decide +kernel
theorem dm_X9_joined_52 : mj_dec prog_11_method_3_code 52 = some (.bipush 8, 2) := by decide +kernel
theorem dm_X9_joined_54 : mj_dec prog_11_method_3_code 54 = some (.invokestatic 81, 3) := by decide +kernel
theorem dm_X9_joined_57 : mj_dec prog_11_method_3_code 57 = some (.areturn, 1) := by decide +kernel
theorem dm_X9_joined_58 : mj_dec prog_11_method_3_code 58 = some (.aload_n 0, 1) := by decide +kernel
theorem dm_X9_joined_59 : mj_dec prog_11_method_3_code 59 = some (.aload_n 1, 1) := by decide +kernel
theorem dm_X9_joined_60 : mj_dec prog_11_method_3_code 60 = some (.invokestatic 98, 3) := by decide +kernel
theorem dm_X9_joined_63 : mj_dec prog_11_method_3_code 63 = some (.astore_n 3, 1) := by decide +kernel
theorem dm_X9_joined_64 : mj_dec prog_11_method_3_code 64 = some (.aload_n 0, 1) := by decide +kernel
theorem dm_X9_joined_65 : mj_dec prog_11_method_3_code 65 = some (.getfield 102, 3) := by decide +kernel
theorem dm_X9_joined_68 : mj_dec prog_11_method_3_code 68 = some (.iconst 2, 1) := by decide +kernel
theorem dm_X9_joined_69 : mj_dec prog_11_method_3_code 69 = some (.if_icmp .ne 17, 3) := by decide +kernel
theorem dm_X9_joined_72 : mj_dec prog_11_method_3_code 72 = some (.aload_n 1, 1) := by decide +kernel
theorem dm_X9_joined_73 : mj_dec prog_11_method_3_code 73 = some (.getfield 102, 3) := by decide +kernel
theorem dm_X9_joined_76 : mj_dec prog_11_method_3_code 76 = some (.iconst 2, 1) := by decide +kernel
theorem dm_X9_joined_77 : mj_dec prog_11_method_3_code 77 = some (.if_icmp .ne 9, 3) := by decide +kernel
theorem dm_X9_joined_80 : mj_dec prog_11_method_3_code 80 = some (.iconst 2, 1) := by decide +kernel
theorem dm_X9_joined_81 : mj_dec prog_11_method_3_code 81 = some (.aload_n 3, 1) := by decide +kernel
theorem dm_X9_joined_82 : mj_dec prog_11_method_3_code 82 = some (.invokestatic 105, 3) := by decide +kernel
theorem dm_X9_joined_85 : mj_dec prog_11_method_3_code 85 = some (.areturn, 1) := by decide +kernel
theorem dm_X9_joined_86 : mj_dec prog_11_method_3_code 86 = some (.iload_n 2, 1) := by decide +kernel
theorem dm_X9_joined_87 : mj_dec prog_11_method_3_code 87 = some (.ifCond .eq 10, 3) := by decide +kernel
theorem dm_X9_joined_90 : mj_dec prog_11_method_3_code 90 = some (.aload_n 3, 1) := by decide +kernel
theorem dm_X9_joined_91 : mj_dec prog_11_method_3_code 91 = some (.invokestatic 109, 3) := by decide +kernel
theorem dm_X9_joined_94 : mj_dec prog_11_method_3_code 94 = some (.goto 8, 3) := by decide +kernel
theorem dm_X9_joined_97 : mj_dec prog_11_method_3_code 97 = some (.iconst 3, 1) := by decide +kernel
theorem dm_X9_joined_98 : mj_dec prog_11_method_3_code 98 = some (.aload_n 3, 1) := by decide +kernel
theorem dm_X9_joined_99 : mj_dec prog_11_method_3_code 99 = some (.invokestatic 105, 3) := by decide +kernel
theorem dm_X9_joined_102 : mj_dec prog_11_method_3_code 102 = some (.areturn, 1) := by decide +kernel
theorem dm_X9_joined_103 : mj_dec prog_11_method_3_code 103 = some (.aload_n 0, 1) := by decide +kernel
theorem dm_X9_joined_104 : mj_dec prog_11_method_3_code 104 = some (.getfield 102, 3) := by decide +kernel
theorem dm_X9_joined_107 : mj_dec prog_11_method_3_code 107 = some (.bipush 6, 2) := by decide +kernel
theorem dm_X9_joined_109 : mj_dec prog_11_method_3_code 109 = some (.if_icmp .ne 67, 3) := by decide +kernel
theorem dm_X9_joined_112 : mj_dec prog_11_method_3_code 112 = some (.aload_n 1, 1) := by decide +kernel
theorem dm_X9_joined_113 : mj_dec prog_11_method_3_code 113 = some (.getfield 102, 3) := by decide +kernel
theorem dm_X9_joined_116 : mj_dec prog_11_method_3_code 116 = some (.bipush 6, 2) := by decide +kernel
theorem dm_X9_joined_118 : mj_dec prog_11_method_3_code 118 = some (.if_icmp .ne 58, 3) := by decide +kernel
theorem dm_X9_joined_121 : mj_dec prog_11_method_3_code 121 = some (.aload_n 0, 1) := by decide +kernel
theorem dm_X9_joined_122 : mj_dec prog_11_method_3_code 122 = some (.getfield 113, 3) := by decide +kernel
theorem dm_X9_joined_125 : mj_dec prog_11_method_3_code 125 = some (.aload_n 1, 1) := by decide +kernel
theorem dm_X9_joined_126 : mj_dec prog_11_method_3_code 126 = some (.getfield 113, 3) := by decide +kernel
theorem dm_X9_joined_129 : mj_dec prog_11_method_3_code 129 = some (.if_icmp .ne 47, 3) := by decide +kernel
theorem dm_X9_joined_132 : mj_dec prog_11_method_3_code 132 = some (.aload_n 0, 1) := by decide +kernel
theorem dm_X9_joined_133 : mj_dec prog_11_method_3_code 133 = some (.getfield 94, 3) := by decide +kernel
theorem dm_X9_joined_136 : mj_dec prog_11_method_3_code 136 = some (.aload_n 1, 1) := by decide +kernel
theorem dm_X9_joined_137 : mj_dec prog_11_method_3_code 137 = some (.getfield 94, 3) := by decide +kernel
theorem dm_X9_joined_140 : mj_dec prog_11_method_3_code 140 = some (.iadd, 1) := by decide +kernel
theorem dm_X9_joined_141 : mj_dec prog_11_method_3_code 141 = some (.bipush 12, 2) := by decide +kernel
theorem dm_X9_joined_143 : mj_dec prog_11_method_3_code 143 = some (.if_icmp .le 11, 3) := by decide +kernel
theorem dm_X9_joined_146 : mj_dec prog_11_method_3_code 146 = some (.bipush 8, 2) := by decide +kernel
theorem dm_X9_joined_148 : mj_dec prog_11_method_3_code 148 = some (.invokestatic 81, 3) := by decide +kernel
theorem dm_X9_joined_151 : mj_dec prog_11_method_3_code 151 = some (.goto 24, 3) := by decide +kernel
theorem dm_X9_joined_154 : mj_dec prog_11_method_3_code 154 = some (.aload_n 0, 1) := by decide +kernel
theorem dm_X9_joined_155 : mj_dec prog_11_method_3_code 155 = some (.aload_n 1, 1) := by decide +kernel
theorem dm_X9_joined_156 : mj_dec prog_11_method_3_code 156 = some (.invokestatic 98, 3) := by decide +kernel
theorem dm_X9_joined_159 : mj_dec prog_11_method_3_code 159 = some (.aload_n 0, 1) := by decide +kernel
theorem dm_X9_joined_160 : mj_dec prog_11_method_3_code 160 = some (.getfield 94, 3) := by decide +kernel
theorem dm_X9_joined_163 : mj_dec prog_11_method_3_code 163 = some (.aload_n 1, 1) := by decide +kernel
theorem dm_X9_joined_164 : mj_dec prog_11_method_3_code 164 = some (.getfield 94, 3) := by decide +kernel
theorem dm_X9_joined_167 : mj_dec prog_11_method_3_code 167 = some (.iadd, 1) := by decide +kernel
theorem dm_X9_joined_168 : mj_dec prog_11_method_3_code 168 = some (.aload_n 0, 1) := by decide +kernel
theorem dm_X9_joined_169 : mj_dec prog_11_method_3_code 169 = some (.getfield 113, 3) := by decide +kernel
theorem dm_X9_joined_172 : mj_dec prog_11_method_3_code 172 = some (.invokestatic 116, 3) := by decide +kernel
theorem dm_X9_joined_175 : mj_dec prog_11_method_3_code 175 = some (.areturn, 1) := by decide +kernel
theorem dm_X9_joined_176 : mj_dec prog_11_method_3_code 176 = some (.aload_n 0, 1) := by decide +kernel
theorem dm_X9_joined_177 : mj_dec prog_11_method_3_code 177 = some (.getfield 94, 3) := by decide +kernel
theorem dm_X9_joined_180 : mj_dec prog_11_method_3_code 180 = some (.aload_n 1, 1) := by decide +kernel
theorem dm_X9_joined_181 : mj_dec prog_11_method_3_code 181 = some (.getfield 94, 3) := by decide +kernel
theorem dm_X9_joined_184 : mj_dec prog_11_method_3_code 184 = some (.iadd, 1) := by decide +kernel
theorem dm_X9_joined_185 : mj_dec prog_11_method_3_code 185 = some (.bipush 24, 2) := by decide +kernel
theorem dm_X9_joined_187 : mj_dec prog_11_method_3_code 187 = some (.if_icmp .le 9, 3) := by decide +kernel
theorem dm_X9_joined_190 : mj_dec prog_11_method_3_code 190 = some (.bipush 8, 2) := by decide +kernel
theorem dm_X9_joined_192 : mj_dec prog_11_method_3_code 192 = some (.invokestatic 81, 3) := by decide +kernel
theorem dm_X9_joined_195 : mj_dec prog_11_method_3_code 195 = some (.areturn, 1) := by decide +kernel
theorem dm_X9_joined_196 : mj_dec prog_11_method_3_code 196 = some (.aload_n 0, 1) := by decide +kernel
theorem dm_X9_joined_197 : mj_dec prog_11_method_3_code 197 = some (.getfield 94, 3) := by decide +kernel
theorem dm_X9_joined_200 : mj_dec prog_11_method_3_code 200 = some (.aload_n 1, 1) := by decide +kernel
theorem dm_X9_joined_201 : mj_dec prog_11_method_3_code 201 = some (.getfield 94, 3) := by decide +kernel
theorem dm_X9_joined_204 : mj_dec prog_11_method_3_code 204 = some (.iadd, 1) := by decide +kernel
theorem dm_X9_joined_205 : mj_dec prog_11_method_3_code 205 = some (.anewarray 26, 3) := by decide +kernel
theorem dm_X9_joined_208 : mj_dec prog_11_method_3_code 208 = some (.astore_n 3, 1) := by decide +kernel
theorem dm_X9_joined_209 : mj_dec prog_11_method_3_code 209 = some (.iconst 0, 1) := by decide +kernel
theorem dm_X9_joined_210 : mj_dec prog_11_method_3_code 210 = some (.istore 4, 2) := by decide +kernel
theorem dm_X9_joined_212 : mj_dec prog_11_method_3_code 212 = some (.iload 4, 2) := by decide +kernel
theorem dm_X9_joined_214 : mj_dec prog_11_method_3_code 214 = some (.aload_n 3, 1) := by decide +kernel
theorem dm_X9_joined_215 : mj_dec prog_11_method_3_code 215 = some (.arraylength, 1) := by decide +kernel
theorem dm_X9_joined_216 : mj_dec prog_11_method_3_code 216 = some (.if_icmp .ge 42, 3) := by decide +kernel
theorem dm_X9_joined_219 : mj_dec prog_11_method_3_code 219 = some (.aload_n 3, 1) := by decide +kernel
theorem dm_X9_joined_220 : mj_dec prog_11_method_3_code 220 = some (.iload 4, 2) := by decide +kernel
theorem dm_X9_joined_222 : mj_dec prog_11_method_3_code 222 = some (.iload 4, 2) := by decide +kernel
theorem dm_X9_joined_224 : mj_dec prog_11_method_3_code 224 = some (.aload_n 0, 1) := by decide +kernel
theorem dm_X9_joined_225 : mj_dec prog_11_method_3_code 225 = some (.getfield 94, 3) := by decide +kernel
theorem dm_X9_joined_228 : mj_dec prog_11_method_3_code 228 = some (.if_icmp .ge 12, 3) := by decide +kernel
theorem dm_X9_joined_231 : mj_dec prog_11_method_3_code 231 = some (.aload_n 0, 1) := by decide +kernel
theorem dm_X9_joined_232 : mj_dec prog_11_method_3_code 232 = some (.iload 4, 2) := by decide +kernel
theorem dm_X9_joined_234 : mj_dec prog_11_method_3_code 234 = some (.invokevirtual 120, 3) := by decide +kernel
theorem dm_X9_joined_237 : mj_dec prog_11_method_3_code 237 = some (.goto 14, 3) := by decide +kernel
theorem dm_X9_joined_240 : mj_dec prog_11_method_3_code 240 = some (.aload_n 1, 1) := by decide +kernel
theorem dm_X9_joined_241 : mj_dec prog_11_method_3_code 241 = some (.iload 4, 2) := by decide +kernel
theorem dm_X9_joined_243 : mj_dec prog_11_method_3_code 243 = some (.aload_n 0, 1) := by decide +kernel
theorem dm_X9_joined_244 : mj_dec prog_11_method_3_code 244 = some (.getfield 94, 3) := by decide +kernel
theorem dm_X9_joined_247 : mj_dec prog_11_method_3_code 247 = some (.isub, 1) := by decide +kernel
theorem dm_X9_joined_248 : mj_dec prog_11_method_3_code 248 = some (.invokevirtual 120, 3) := by decide +kernel
theorem dm_X9_joined_251 : mj_dec prog_11_method_3_code 251 = some (.aastore, 1) := by decide +kernel
theorem dm_X9_joined_252 : mj_dec prog_11_method_3_code 252 = some (.iinc 4 1, 3) := by decide +kernel
theorem dm_X9_joined_255 : mj_dec prog_11_method_3_code 255 = some (.goto (-43), 3) := by decide +kernel
theorem dm_X9_joined_258 : mj_dec prog_11_method_3_code 258 = some (.aload_n 3, 1) := by decide +kernel
theorem dm_X9_joined_259 : mj_dec prog_11_method_3_code 259 = some (.invokestatic 123, 3) := by decide +kernel
theorem dm_X9_joined_262 : mj_dec prog_11_method_3_code 262 = some (.areturn, 1) := by decide +kernel
theorem t_joined {xt : mj_X} {d e p q : Nat} {A : Nat → Prop} {h : mj_H} {v w : VV} {f1 : Nat → Value} (hx1 : xt 1 = some (.long, 0, f1)) (hd : 8 ≤ d) (hl : 127 ≤ h.length) (hA : okA A h) (hH : actH h) (hv : cv A h (e + 1) p v) (hw : cv A h (e + 1) q w) (he : e ≤ 19) (hset : vsz (e + 1) v ≤ 1000) (hset2 : vsz (e + 1) w ≤ 1000) : pgV xt d 143 [.ref p, .ref q] h (aact A h (e + 2) (d_join v w) (vm v + vm w + 2) (10 * (vm v + vm w) + vq v + vq w + 9)) := by
  obtain ⟨-, -, -, -, -, -, -, -, ⟨ft0, h26⟩, -, -, ⟨pf0, h29⟩, ⟨nf0, h30⟩, ⟨uf0, h31⟩⟩ := id hH
  have hcv := vw1_c hv.1
  have hcw := vw1_c hw.1
  obtain ⟨row, fr, vals, hp, hp2, hpA, hvk, hvm, hvc, hvs, hvl⟩ := cv_val hv
  obtain ⟨row2, fr2, vals2, hq, hq2, hqA, hwk, hwm, hwc, hws, hwl⟩ := cv_val hw
  have hpb := hA p hpA
  have hqb := hA q hqA
  have hvq9 := vq_le hv.1
  have hwq9 := vq_le hw.1
  have hm5 : vk v ≤ 5 → vq v = vm v := vq_m
  have hm6 : vk w ≤ 5 → vq w = vm w := vq_m
  refine x_enter pm_X9_joined (L0 := [(0, .ref p), (1, .ref q)]) rfl (Nat.le_of_ble_eq_true rfl) (by omega) ?_
  have cut103 : (¬ jflat v w) → pgE xt (d - 1) 9 5 false (Option.some (Jvm.ClassFile.FieldType.object "ArrayCalculator$Value")) (mj_dec prog_11_method_3_code) 103 [(0, .ref p), (1, .ref q)] [] h (fun r h' => ∃ x, r = some x ∧ aact A h (e + 2) (d_join v w) (vm v + vm w + 2) (10 * (vm v + vm w) + vq v + vq w + 9) x h') := by
    intro hnf
    refine me1 (pc' := 104) (L' := [(0, .ref p), (1, .ref q)]) (S' := [.ref p]) dm_X9_joined_103 rfl rfl rfl rfl ?_
    refine me3 (pc' := 107) (S' := [ii (vk v : Int)]) dm_X9_joined_104 (g_get (v := ii (vk v : Int)) hp rfl rfl (by omega)) rfl rfl rfl ?_
    refine me0 (pc' := 109) (S' := [ii 6, ii (vk v : Int)]) dm_X9_joined_107 rfl rfl rfl rfl ?_
    refine y_2ne (a := (vk v : Int)) (b := 6) (t := 176) (pc' := 112) dm_X9_joined_109 rfl rfl (by omega) (fun hb1 => ?_) (fun hb1 => ?_)
    · refine me1 (pc' := 177) (L' := [(0, .ref p), (1, .ref q)]) (S' := [.ref p]) dm_X9_joined_176 rfl rfl rfl rfl ?_
      refine me3 (pc' := 180) (S' := [ii (vm v : Int)]) dm_X9_joined_177 (g_get (v := ii (vm v : Int)) hp rfl rfl (by omega)) rfl rfl rfl ?_
      refine me1 (pc' := 181) (L' := [(0, .ref p), (1, .ref q)]) (S' := [.ref q, ii (vm v : Int)]) dm_X9_joined_180 rfl rfl rfl rfl ?_
      refine me3 (pc' := 184) (S' := [ii (vm w : Int), ii (vm v : Int)]) dm_X9_joined_181 (g_get (v := ii (vm w : Int)) hq rfl rfl (by omega)) rfl rfl rfl ?_
      refine y_iadd (a := (vm v : Int)) (b := (vm w : Int)) dm_X9_joined_184 (pc' := 185) rfl ?_
      refine me0 (pc' := 187) (S' := [ii 24, ii ((vm v : Int) + (vm w : Int))]) dm_X9_joined_185 rfl rfl rfl rfl ?_
      refine y_2le (a := (vm v : Int) + (vm w : Int)) (b := 24) (t := 196) (pc' := 190) dm_X9_joined_187 rfl rfl (by omega) (fun hb2 => ?_) (fun hb2 => ?_)
      · refine me1 (pc' := 197) (L' := [(0, .ref p), (1, .ref q)]) (S' := [.ref p]) dm_X9_joined_196 rfl rfl rfl rfl ?_
        refine me3 (pc' := 200) (S' := [ii (vm v : Int)]) dm_X9_joined_197 (g_get (v := ii (vm v : Int)) hp rfl rfl (by omega)) rfl rfl rfl ?_
        refine me1 (pc' := 201) (L' := [(0, .ref p), (1, .ref q)]) (S' := [.ref q, ii (vm v : Int)]) dm_X9_joined_200 rfl rfl rfl rfl ?_
        refine me3 (pc' := 204) (S' := [ii (vm w : Int), ii (vm v : Int)]) dm_X9_joined_201 (g_get (v := ii (vm w : Int)) hq rfl rfl (by omega)) rfl rfl rfl ?_
        refine y_iadd (a := (vm v : Int)) (b := (vm w : Int)) dm_X9_joined_204 (pc' := 205) rfl ?_
        have hS : sumN (vm v + vm w) (fun k => vsz (e + 1) ((jch v w) k)) ≤ 29999 := by have h9 := sumN_bd (n := vm v + vm w) (b := 1000) (f := fun k => vsz (e + 1) ((jch v w) k)) (fun k hk => by by_cases z : k < vm v; (rw [jch_l z]; exact vsz_vit (cv_wf hv) hset (Or.inr z)); (rw [jch_r z]; exact vsz_vit (cv_wf hw) hset2 (Or.inr (by omega)))); have := Nat.mul_le_mul_right 1000 (show vm v + vm w ≤ 24 by omega); omega
        refine pg_st0 (S' := [ii ((vm v + vm w : Nat) : Int)]) (congrArg (fun z => ii z :: []) (by push_cast; rfl)) ?_
        refine me3 (pc' := 208) (S' := [.ref h.length]) (h1 := h ++ [cA 4 (vm v + vm w) (fun _ => none)]) dm_X9_joined_205 (yh_newA rfl (by omega) (by omega) (by omega) rfl) rfl rfl rfl ?_
        refine me1 (pc' := 209) (L' := [(3, .ref h.length), (0, .ref p), (1, .ref q)]) (S' := []) dm_X9_joined_208 rfl rfl rfl rfl ?_
        refine me0 (pc' := 210) (S' := [ii 0]) dm_X9_joined_209 rfl rfl rfl rfl ?_
        refine me1 (pc' := 212) (L' := [(4, ii 0), (3, .ref h.length), (0, .ref p), (1, .ref q)]) (S' := []) dm_X9_joined_210 rfl rfl rfl rfl ?_
        have lp212 : ∀ (n212 : Nat) (t : Nat) (hh : mj_H) (V : Nat → Option Nat), (vm v + vm w) - t = n212 → (t ≤ (vm v + vm w)) → (vfl A h h.length hh (vm v + vm w) V t (e + 1) (jch v w) t (9 * t)) → pgE xt (d - 1) 9 5 false (Option.some (Jvm.ClassFile.FieldType.object "ArrayCalculator$Value")) (mj_dec prog_11_method_3_code) 212 [(0, .ref p), (1, .ref q), (3, .ref h.length), (4, ii ((t : Nat) : Int))] [] hh (fun r h' => ∃ x, r = some x ∧ aact A h (e + 2) (d_join v w) (vm v + vm w + 2) (10 * (vm v + vm w) + vq v + vq w + 9) x h') := by
          intro n212
          induction n212 using Nat.strongRecOn with
          | ind n212 ih212 =>
            intro t hh V hm212 ht hV
            have hlh := vfl_len hV
            refine me1 (pc' := 214) (L' := [(0, .ref p), (1, .ref q), (3, .ref h.length), (4, ii ((t : Nat) : Int))]) (S' := [ii ((t : Nat) : Int)]) dm_X9_joined_212 rfl rfl rfl rfl ?_
            refine me1 (pc' := 215) (L' := [(0, .ref p), (1, .ref q), (3, .ref h.length), (4, ii ((t : Nat) : Int))]) (S' := [.ref h.length, ii ((t : Nat) : Int)]) dm_X9_joined_214 rfl rfl rfl rfl ?_
            refine me3 (pc' := 216) (S' := [ii (vm v + vm w), ii ((t : Nat) : Int)]) dm_X9_joined_215 (yh_len (n := vm v + vm w) rfl (vfl_arr hV) (by omega)) rfl rfl rfl ?_
            refine y_2ge (a := ((t : Nat) : Int)) (b := vm v + vm w) (t := 258) (pc' := 219) dm_X9_joined_216 rfl rfl (by omega) (fun hb3 => ?_) (fun hb3 => ?_)
            · refine me1 (pc' := 259) (L' := [(0, .ref p), (1, .ref q), (3, .ref h.length), (4, ii ((t : Nat) : Int))]) (S' := [.ref h.length]) dm_X9_joined_258 rfl rfl rfl rfl ?_
              have hVn : vfl A h h.length hh (vm v + vm w) V (vm v + vm w) (e + 1) (jch v w) (vm v + vm w) (9 * (vm v + vm w)) := (show t = vm v + vm w by omega) ▸ hV
              have hA1 := hA
              refine x_cv (pc' := 262) (rest := []) dm_X9_joined_259 rfl (g_invs (As := [.ref h.length]) (S := []) rfl rfl rfl) rfl rfl rfl (c_nest (A := newA A (h ++ [cA 4 (vm v + vm w) V]) hh) (e := e + 1) (n := (vm v + vm w)) (g := V) (ch := (jch v w)) (q := hh.length) (by omega) (by omega) rfl (fun z => by have z1 := vfl_okA hVn hA1 (by omega) _ z; omega) (vfl_arr hVn) (by omega) (by omega) (by omega) hS (vfl_kid hVn)) ?_
              rintro _ _ ⟨rfl, rfl⟩
              refine y_ret (r := some (.ref hh.length)) dm_X9_joined_262 rfl rfl rfl ?_
              refine ⟨_, rfl, h, scrS_rf h, hH, ?_⟩
              rw [show d_join v w = .inr (vnest (vm v + vm w) (jch v w)) by unfold d_join; rw [if_neg hnf, if_neg (by omega), if_neg (by omega)]]
              exact vfl_end hVn hA hl (by omega) (by omega) hS (by omega) (by omega)
            · refine me1 (pc' := 220) (L' := [(0, .ref p), (1, .ref q), (3, .ref h.length), (4, ii ((t : Nat) : Int))]) (S' := [.ref h.length]) dm_X9_joined_219 rfl rfl rfl rfl ?_
              refine me1 (pc' := 222) (L' := [(0, .ref p), (1, .ref q), (3, .ref h.length), (4, ii ((t : Nat) : Int))]) (S' := [ii ((t : Nat) : Int), .ref h.length]) dm_X9_joined_220 rfl rfl rfl rfl ?_
              refine me1 (pc' := 224) (L' := [(0, .ref p), (1, .ref q), (3, .ref h.length), (4, ii ((t : Nat) : Int))]) (S' := [ii ((t : Nat) : Int), ii ((t : Nat) : Int), .ref h.length]) dm_X9_joined_222 rfl rfl rfl rfl ?_
              refine me1 (pc' := 225) (L' := [(0, .ref p), (1, .ref q), (3, .ref h.length), (4, ii ((t : Nat) : Int))]) (S' := [.ref p, ii ((t : Nat) : Int), ii ((t : Nat) : Int), .ref h.length]) dm_X9_joined_224 rfl rfl rfl rfl ?_
              refine me3 (pc' := 228) (S' := [ii (vm v : Int), ii ((t : Nat) : Int), ii ((t : Nat) : Int), .ref h.length]) dm_X9_joined_225 (g_get (v := ii (vm v : Int)) (vfl_get hV hp) rfl rfl (by omega)) rfl rfl rfl ?_
              refine y_2ge (a := ((t : Nat) : Int)) (b := (vm v : Int)) (t := 240) (pc' := 231) dm_X9_joined_228 rfl rfl (by omega) (fun hb4 => ?_) (fun hb4 => ?_)
              · refine me1 (pc' := 241) (L' := [(0, .ref p), (1, .ref q), (3, .ref h.length), (4, ii ((t : Nat) : Int))]) (S' := [.ref q, ii ((t : Nat) : Int), .ref h.length]) dm_X9_joined_240 rfl rfl rfl rfl ?_
                refine me1 (pc' := 243) (L' := [(0, .ref p), (1, .ref q), (3, .ref h.length), (4, ii ((t : Nat) : Int))]) (S' := [ii ((t : Nat) : Int), .ref q, ii ((t : Nat) : Int), .ref h.length]) dm_X9_joined_241 rfl rfl rfl rfl ?_
                refine me1 (pc' := 244) (L' := [(0, .ref p), (1, .ref q), (3, .ref h.length), (4, ii ((t : Nat) : Int))]) (S' := [.ref p, ii ((t : Nat) : Int), .ref q, ii ((t : Nat) : Int), .ref h.length]) dm_X9_joined_243 rfl rfl rfl rfl ?_
                refine me3 (pc' := 247) (S' := [ii (vm v : Int), ii ((t : Nat) : Int), .ref q, ii ((t : Nat) : Int), .ref h.length]) dm_X9_joined_244 (g_get (v := ii (vm v : Int)) (vfl_get hV hp) rfl rfl (by omega)) rfl rfl rfl ?_
                refine y_isub (a := ((t : Nat) : Int)) (b := (vm v : Int)) dm_X9_joined_247 (pc' := 248) rfl ?_
                refine pg_st0 (S' := [ii ((t - vm v : Nat) : Int), .ref q, ii ((t : Nat) : Int), .ref h.length]) (congrArg (fun z => ii z :: [.ref q, ii ((t : Nat) : Int), .ref h.length]) (by omega)) ?_
                refine x_cv (pc' := 251) (rest := [ii ((t : Nat) : Int), .ref h.length]) dm_X9_joined_248 rfl (g_inv (As := [ii ((t - vm v : Nat) : Int)]) (S := [ii ((t : Nat) : Int), .ref h.length]) (vfl_get hV hq) rfl rfl rfl (by omega)) rfl rfl rfl ((show pgV xt (d - 1) _ _ _ (vres (newA A (h ++ [cA 4 (vm v + vm w) V]) hh) hh (e + 1) ((jch v w) t) 1 9) from (jch_r (show ¬ t < vm v by omega) : (jch v w) t = vit w (t - vm v)) ▸ c_itemAt hx1 (by omega) (by omega) (vfl_cv hV hw) (Or.inr (by omega)) (by omega))) ?_
                rintro x h3 hres
                obtain ⟨q3, rfl⟩ := vres_ref hres
                obtain ⟨row3, fr3, vals3, hq3, hq32, -⟩ := cv_valE (vres_cv hres)
                refine me3 (pc' := 252) (S' := []) (h1 := (h3).set h.length (cA 4 (vm v + vm w) (va_up V t (some q3)))) dm_X9_joined_251 (yh_aasr (j := ((t : Nat) : Int)) rfl (vres_get hres (vfl_arr hV)) hq3 (by omega) (by omega) (by omega) (by omega) (by omega)) rfl rfl rfl ?_
                refine y_iinc (pc' := 255) (L' := [(4, ii (((t : Nat) : Int) + 1)), (0, .ref p), (1, .ref q), (3, .ref h.length)]) dm_X9_joined_252 (y_incp (a := ((t : Nat) : Int)) (c := 1) rfl rfl (by decide)) rfl ?_
                refine me2 (pc' := 212) (S' := []) dm_X9_joined_255 rfl rfl rfl ?_
                exact pg_sub (L := [(0, .ref p), (1, .ref q), (3, .ref h.length), (4, ii (((t + 1) : Nat) : Int))]) rfl rfl rfl (ih212 ((vm v + vm w) - (t + 1)) (by omega) (t + 1) ((h3).set h.length (cA 4 (vm v + vm w) (va_up V t (some q3)))) (va_up V t (some q3)) rfl (by omega) (vfl_s hV hA hres))
              · refine me1 (pc' := 232) (L' := [(0, .ref p), (1, .ref q), (3, .ref h.length), (4, ii ((t : Nat) : Int))]) (S' := [.ref p, ii ((t : Nat) : Int), .ref h.length]) dm_X9_joined_231 rfl rfl rfl rfl ?_
                refine me1 (pc' := 234) (L' := [(0, .ref p), (1, .ref q), (3, .ref h.length), (4, ii ((t : Nat) : Int))]) (S' := [ii ((t : Nat) : Int), .ref p, ii ((t : Nat) : Int), .ref h.length]) dm_X9_joined_232 rfl rfl rfl rfl ?_
                refine x_cv (pc' := 237) (rest := [ii ((t : Nat) : Int), .ref h.length]) dm_X9_joined_234 rfl (g_inv (As := [ii ((t : Nat) : Int)]) (S := [ii ((t : Nat) : Int), .ref h.length]) (vfl_get hV hp) rfl rfl rfl (by omega)) rfl rfl rfl ((show pgV xt (d - 1) _ _ _ (vres (newA A (h ++ [cA 4 (vm v + vm w) V]) hh) hh (e + 1) ((jch v w) t) 1 9) from (jch_l (show t < vm v by omega) : (jch v w) t = vit v t) ▸ c_itemAt hx1 (by omega) (by omega) (vfl_cv hV hv) (Or.inr (by omega)) (by omega))) ?_
                rintro x h3 hres
                obtain ⟨q3, rfl⟩ := vres_ref hres
                obtain ⟨row3, fr3, vals3, hq3, hq32, -⟩ := cv_valE (vres_cv hres)
                refine me2 (pc' := 251) (S' := [.ref q3, ii ((t : Nat) : Int), .ref h.length]) dm_X9_joined_237 rfl rfl rfl ?_
                refine me3 (pc' := 252) (S' := []) (h1 := (h3).set h.length (cA 4 (vm v + vm w) (va_up V t (some q3)))) dm_X9_joined_251 (yh_aasr (j := ((t : Nat) : Int)) rfl (vres_get hres (vfl_arr hV)) hq3 (by omega) (by omega) (by omega) (by omega) (by omega)) rfl rfl rfl ?_
                refine y_iinc (pc' := 255) (L' := [(4, ii (((t : Nat) : Int) + 1)), (0, .ref p), (1, .ref q), (3, .ref h.length)]) dm_X9_joined_252 (y_incp (a := ((t : Nat) : Int)) (c := 1) rfl rfl (by decide)) rfl ?_
                refine me2 (pc' := 212) (S' := []) dm_X9_joined_255 rfl rfl rfl ?_
                exact pg_sub (L := [(0, .ref p), (1, .ref q), (3, .ref h.length), (4, ii (((t + 1) : Nat) : Int))]) rfl rfl rfl (ih212 ((vm v + vm w) - (t + 1)) (by omega) (t + 1) ((h3).set h.length (cA 4 (vm v + vm w) (va_up V t (some q3)))) (va_up V t (some q3)) rfl (by omega) (vfl_s hV hA hres))
        exact pg_sub (L := [(0, .ref p), (1, .ref q), (3, .ref h.length), (4, ii ((0 : Nat) : Int))]) rfl rfl rfl (lp212 _ 0 (h ++ [cA 4 (vm v + vm w) (fun _ => none)]) (fun _ => none) rfl (Nat.zero_le _) (vfl_0 rfl))
      · refine me0 (pc' := 192) (S' := [ii 8]) dm_X9_joined_190 rfl rfl rfl rfl ?_
        refine x_cv (pc' := 195) (rest := []) dm_X9_joined_192 rfl (g_invs (As := [ii 8]) (S := []) rfl rfl rfl) rfl rfl rfl (c_fault (q := h.length) (by omega) (by omega) rfl (by omega)) ?_
        rintro _ _ ⟨rfl, rfl⟩
        refine y_ret (r := some (.ref h.length)) dm_X9_joined_195 rfl rfl rfl ?_
        refine ⟨_, rfl, h, scrS_rf h, hH, ?_⟩
        rw [show d_join v w = .inl 8 by unfold d_join; rw [if_neg hnf, if_neg (by omega), if_pos (by omega)]]
        exact ares_f 8 (by omega) (by omega) (by omega)
    · refine me1 (pc' := 113) (L' := [(0, .ref p), (1, .ref q)]) (S' := [.ref q]) dm_X9_joined_112 rfl rfl rfl rfl ?_
      refine me3 (pc' := 116) (S' := [ii (vk w : Int)]) dm_X9_joined_113 (g_get (v := ii (vk w : Int)) hq rfl rfl (by omega)) rfl rfl rfl ?_
      refine me0 (pc' := 118) (S' := [ii 6, ii (vk w : Int)]) dm_X9_joined_116 rfl rfl rfl rfl ?_
      refine y_2ne (a := (vk w : Int)) (b := 6) (t := 176) (pc' := 121) dm_X9_joined_118 rfl rfl (by omega) (fun hb5 => ?_) (fun hb5 => ?_)
      · refine me1 (pc' := 177) (L' := [(0, .ref p), (1, .ref q)]) (S' := [.ref p]) dm_X9_joined_176 rfl rfl rfl rfl ?_
        refine me3 (pc' := 180) (S' := [ii (vm v : Int)]) dm_X9_joined_177 (g_get (v := ii (vm v : Int)) hp rfl rfl (by omega)) rfl rfl rfl ?_
        refine me1 (pc' := 181) (L' := [(0, .ref p), (1, .ref q)]) (S' := [.ref q, ii (vm v : Int)]) dm_X9_joined_180 rfl rfl rfl rfl ?_
        refine me3 (pc' := 184) (S' := [ii (vm w : Int), ii (vm v : Int)]) dm_X9_joined_181 (g_get (v := ii (vm w : Int)) hq rfl rfl (by omega)) rfl rfl rfl ?_
        refine y_iadd (a := (vm v : Int)) (b := (vm w : Int)) dm_X9_joined_184 (pc' := 185) rfl ?_
        refine me0 (pc' := 187) (S' := [ii 24, ii ((vm v : Int) + (vm w : Int))]) dm_X9_joined_185 rfl rfl rfl rfl ?_
        refine y_2le (a := (vm v : Int) + (vm w : Int)) (b := 24) (t := 196) (pc' := 190) dm_X9_joined_187 rfl rfl (by omega) (fun hb6 => ?_) (fun hb6 => ?_)
        · refine me1 (pc' := 197) (L' := [(0, .ref p), (1, .ref q)]) (S' := [.ref p]) dm_X9_joined_196 rfl rfl rfl rfl ?_
          refine me3 (pc' := 200) (S' := [ii (vm v : Int)]) dm_X9_joined_197 (g_get (v := ii (vm v : Int)) hp rfl rfl (by omega)) rfl rfl rfl ?_
          refine me1 (pc' := 201) (L' := [(0, .ref p), (1, .ref q)]) (S' := [.ref q, ii (vm v : Int)]) dm_X9_joined_200 rfl rfl rfl rfl ?_
          refine me3 (pc' := 204) (S' := [ii (vm w : Int), ii (vm v : Int)]) dm_X9_joined_201 (g_get (v := ii (vm w : Int)) hq rfl rfl (by omega)) rfl rfl rfl ?_
          refine y_iadd (a := (vm v : Int)) (b := (vm w : Int)) dm_X9_joined_204 (pc' := 205) rfl ?_
          have hS : sumN (vm v + vm w) (fun k => vsz (e + 1) ((jch v w) k)) ≤ 29999 := by have h9 := sumN_bd (n := vm v + vm w) (b := 1000) (f := fun k => vsz (e + 1) ((jch v w) k)) (fun k hk => by by_cases z : k < vm v; (rw [jch_l z]; exact vsz_vit (cv_wf hv) hset (Or.inr z)); (rw [jch_r z]; exact vsz_vit (cv_wf hw) hset2 (Or.inr (by omega)))); have := Nat.mul_le_mul_right 1000 (show vm v + vm w ≤ 24 by omega); omega
          refine pg_st0 (S' := [ii ((vm v + vm w : Nat) : Int)]) (congrArg (fun z => ii z :: []) (by push_cast; rfl)) ?_
          refine me3 (pc' := 208) (S' := [.ref h.length]) (h1 := h ++ [cA 4 (vm v + vm w) (fun _ => none)]) dm_X9_joined_205 (yh_newA rfl (by omega) (by omega) (by omega) rfl) rfl rfl rfl ?_
          refine me1 (pc' := 209) (L' := [(3, .ref h.length), (0, .ref p), (1, .ref q)]) (S' := []) dm_X9_joined_208 rfl rfl rfl rfl ?_
          refine me0 (pc' := 210) (S' := [ii 0]) dm_X9_joined_209 rfl rfl rfl rfl ?_
          refine me1 (pc' := 212) (L' := [(4, ii 0), (3, .ref h.length), (0, .ref p), (1, .ref q)]) (S' := []) dm_X9_joined_210 rfl rfl rfl rfl ?_
          have lp212 : ∀ (n212 : Nat) (t : Nat) (hh : mj_H) (V : Nat → Option Nat), (vm v + vm w) - t = n212 → (t ≤ (vm v + vm w)) → (vfl A h h.length hh (vm v + vm w) V t (e + 1) (jch v w) t (9 * t)) → pgE xt (d - 1) 9 5 false (Option.some (Jvm.ClassFile.FieldType.object "ArrayCalculator$Value")) (mj_dec prog_11_method_3_code) 212 [(0, .ref p), (1, .ref q), (3, .ref h.length), (4, ii ((t : Nat) : Int))] [] hh (fun r h' => ∃ x, r = some x ∧ aact A h (e + 2) (d_join v w) (vm v + vm w + 2) (10 * (vm v + vm w) + vq v + vq w + 9) x h') := by
            intro n212
            induction n212 using Nat.strongRecOn with
            | ind n212 ih212 =>
              intro t hh V hm212 ht hV
              have hlh := vfl_len hV
              refine me1 (pc' := 214) (L' := [(0, .ref p), (1, .ref q), (3, .ref h.length), (4, ii ((t : Nat) : Int))]) (S' := [ii ((t : Nat) : Int)]) dm_X9_joined_212 rfl rfl rfl rfl ?_
              refine me1 (pc' := 215) (L' := [(0, .ref p), (1, .ref q), (3, .ref h.length), (4, ii ((t : Nat) : Int))]) (S' := [.ref h.length, ii ((t : Nat) : Int)]) dm_X9_joined_214 rfl rfl rfl rfl ?_
              refine me3 (pc' := 216) (S' := [ii (vm v + vm w), ii ((t : Nat) : Int)]) dm_X9_joined_215 (yh_len (n := vm v + vm w) rfl (vfl_arr hV) (by omega)) rfl rfl rfl ?_
              refine y_2ge (a := ((t : Nat) : Int)) (b := vm v + vm w) (t := 258) (pc' := 219) dm_X9_joined_216 rfl rfl (by omega) (fun hb7 => ?_) (fun hb7 => ?_)
              · refine me1 (pc' := 259) (L' := [(0, .ref p), (1, .ref q), (3, .ref h.length), (4, ii ((t : Nat) : Int))]) (S' := [.ref h.length]) dm_X9_joined_258 rfl rfl rfl rfl ?_
                have hVn : vfl A h h.length hh (vm v + vm w) V (vm v + vm w) (e + 1) (jch v w) (vm v + vm w) (9 * (vm v + vm w)) := (show t = vm v + vm w by omega) ▸ hV
                have hA1 := hA
                refine x_cv (pc' := 262) (rest := []) dm_X9_joined_259 rfl (g_invs (As := [.ref h.length]) (S := []) rfl rfl rfl) rfl rfl rfl (c_nest (A := newA A (h ++ [cA 4 (vm v + vm w) V]) hh) (e := e + 1) (n := (vm v + vm w)) (g := V) (ch := (jch v w)) (q := hh.length) (by omega) (by omega) rfl (fun z => by have z1 := vfl_okA hVn hA1 (by omega) _ z; omega) (vfl_arr hVn) (by omega) (by omega) (by omega) hS (vfl_kid hVn)) ?_
                rintro _ _ ⟨rfl, rfl⟩
                refine y_ret (r := some (.ref hh.length)) dm_X9_joined_262 rfl rfl rfl ?_
                refine ⟨_, rfl, h, scrS_rf h, hH, ?_⟩
                rw [show d_join v w = .inr (vnest (vm v + vm w) (jch v w)) by unfold d_join; rw [if_neg hnf, if_neg (by omega), if_neg (by omega)]]
                exact vfl_end hVn hA hl (by omega) (by omega) hS (by omega) (by omega)
              · refine me1 (pc' := 220) (L' := [(0, .ref p), (1, .ref q), (3, .ref h.length), (4, ii ((t : Nat) : Int))]) (S' := [.ref h.length]) dm_X9_joined_219 rfl rfl rfl rfl ?_
                refine me1 (pc' := 222) (L' := [(0, .ref p), (1, .ref q), (3, .ref h.length), (4, ii ((t : Nat) : Int))]) (S' := [ii ((t : Nat) : Int), .ref h.length]) dm_X9_joined_220 rfl rfl rfl rfl ?_
                refine me1 (pc' := 224) (L' := [(0, .ref p), (1, .ref q), (3, .ref h.length), (4, ii ((t : Nat) : Int))]) (S' := [ii ((t : Nat) : Int), ii ((t : Nat) : Int), .ref h.length]) dm_X9_joined_222 rfl rfl rfl rfl ?_
                refine me1 (pc' := 225) (L' := [(0, .ref p), (1, .ref q), (3, .ref h.length), (4, ii ((t : Nat) : Int))]) (S' := [.ref p, ii ((t : Nat) : Int), ii ((t : Nat) : Int), .ref h.length]) dm_X9_joined_224 rfl rfl rfl rfl ?_
                refine me3 (pc' := 228) (S' := [ii (vm v : Int), ii ((t : Nat) : Int), ii ((t : Nat) : Int), .ref h.length]) dm_X9_joined_225 (g_get (v := ii (vm v : Int)) (vfl_get hV hp) rfl rfl (by omega)) rfl rfl rfl ?_
                refine y_2ge (a := ((t : Nat) : Int)) (b := (vm v : Int)) (t := 240) (pc' := 231) dm_X9_joined_228 rfl rfl (by omega) (fun hb8 => ?_) (fun hb8 => ?_)
                · refine me1 (pc' := 241) (L' := [(0, .ref p), (1, .ref q), (3, .ref h.length), (4, ii ((t : Nat) : Int))]) (S' := [.ref q, ii ((t : Nat) : Int), .ref h.length]) dm_X9_joined_240 rfl rfl rfl rfl ?_
                  refine me1 (pc' := 243) (L' := [(0, .ref p), (1, .ref q), (3, .ref h.length), (4, ii ((t : Nat) : Int))]) (S' := [ii ((t : Nat) : Int), .ref q, ii ((t : Nat) : Int), .ref h.length]) dm_X9_joined_241 rfl rfl rfl rfl ?_
                  refine me1 (pc' := 244) (L' := [(0, .ref p), (1, .ref q), (3, .ref h.length), (4, ii ((t : Nat) : Int))]) (S' := [.ref p, ii ((t : Nat) : Int), .ref q, ii ((t : Nat) : Int), .ref h.length]) dm_X9_joined_243 rfl rfl rfl rfl ?_
                  refine me3 (pc' := 247) (S' := [ii (vm v : Int), ii ((t : Nat) : Int), .ref q, ii ((t : Nat) : Int), .ref h.length]) dm_X9_joined_244 (g_get (v := ii (vm v : Int)) (vfl_get hV hp) rfl rfl (by omega)) rfl rfl rfl ?_
                  refine y_isub (a := ((t : Nat) : Int)) (b := (vm v : Int)) dm_X9_joined_247 (pc' := 248) rfl ?_
                  refine pg_st0 (S' := [ii ((t - vm v : Nat) : Int), .ref q, ii ((t : Nat) : Int), .ref h.length]) (congrArg (fun z => ii z :: [.ref q, ii ((t : Nat) : Int), .ref h.length]) (by omega)) ?_
                  refine x_cv (pc' := 251) (rest := [ii ((t : Nat) : Int), .ref h.length]) dm_X9_joined_248 rfl (g_inv (As := [ii ((t - vm v : Nat) : Int)]) (S := [ii ((t : Nat) : Int), .ref h.length]) (vfl_get hV hq) rfl rfl rfl (by omega)) rfl rfl rfl ((show pgV xt (d - 1) _ _ _ (vres (newA A (h ++ [cA 4 (vm v + vm w) V]) hh) hh (e + 1) ((jch v w) t) 1 9) from (jch_r (show ¬ t < vm v by omega) : (jch v w) t = vit w (t - vm v)) ▸ c_itemAt hx1 (by omega) (by omega) (vfl_cv hV hw) (Or.inr (by omega)) (by omega))) ?_
                  rintro x h3 hres
                  obtain ⟨q3, rfl⟩ := vres_ref hres
                  obtain ⟨row3, fr3, vals3, hq3, hq32, -⟩ := cv_valE (vres_cv hres)
                  refine me3 (pc' := 252) (S' := []) (h1 := (h3).set h.length (cA 4 (vm v + vm w) (va_up V t (some q3)))) dm_X9_joined_251 (yh_aasr (j := ((t : Nat) : Int)) rfl (vres_get hres (vfl_arr hV)) hq3 (by omega) (by omega) (by omega) (by omega) (by omega)) rfl rfl rfl ?_
                  refine y_iinc (pc' := 255) (L' := [(4, ii (((t : Nat) : Int) + 1)), (0, .ref p), (1, .ref q), (3, .ref h.length)]) dm_X9_joined_252 (y_incp (a := ((t : Nat) : Int)) (c := 1) rfl rfl (by decide)) rfl ?_
                  refine me2 (pc' := 212) (S' := []) dm_X9_joined_255 rfl rfl rfl ?_
                  exact pg_sub (L := [(0, .ref p), (1, .ref q), (3, .ref h.length), (4, ii (((t + 1) : Nat) : Int))]) rfl rfl rfl (ih212 ((vm v + vm w) - (t + 1)) (by omega) (t + 1) ((h3).set h.length (cA 4 (vm v + vm w) (va_up V t (some q3)))) (va_up V t (some q3)) rfl (by omega) (vfl_s hV hA hres))
                · refine me1 (pc' := 232) (L' := [(0, .ref p), (1, .ref q), (3, .ref h.length), (4, ii ((t : Nat) : Int))]) (S' := [.ref p, ii ((t : Nat) : Int), .ref h.length]) dm_X9_joined_231 rfl rfl rfl rfl ?_
                  refine me1 (pc' := 234) (L' := [(0, .ref p), (1, .ref q), (3, .ref h.length), (4, ii ((t : Nat) : Int))]) (S' := [ii ((t : Nat) : Int), .ref p, ii ((t : Nat) : Int), .ref h.length]) dm_X9_joined_232 rfl rfl rfl rfl ?_
                  refine x_cv (pc' := 237) (rest := [ii ((t : Nat) : Int), .ref h.length]) dm_X9_joined_234 rfl (g_inv (As := [ii ((t : Nat) : Int)]) (S := [ii ((t : Nat) : Int), .ref h.length]) (vfl_get hV hp) rfl rfl rfl (by omega)) rfl rfl rfl ((show pgV xt (d - 1) _ _ _ (vres (newA A (h ++ [cA 4 (vm v + vm w) V]) hh) hh (e + 1) ((jch v w) t) 1 9) from (jch_l (show t < vm v by omega) : (jch v w) t = vit v t) ▸ c_itemAt hx1 (by omega) (by omega) (vfl_cv hV hv) (Or.inr (by omega)) (by omega))) ?_
                  rintro x h3 hres
                  obtain ⟨q3, rfl⟩ := vres_ref hres
                  obtain ⟨row3, fr3, vals3, hq3, hq32, -⟩ := cv_valE (vres_cv hres)
                  refine me2 (pc' := 251) (S' := [.ref q3, ii ((t : Nat) : Int), .ref h.length]) dm_X9_joined_237 rfl rfl rfl ?_
                  refine me3 (pc' := 252) (S' := []) (h1 := (h3).set h.length (cA 4 (vm v + vm w) (va_up V t (some q3)))) dm_X9_joined_251 (yh_aasr (j := ((t : Nat) : Int)) rfl (vres_get hres (vfl_arr hV)) hq3 (by omega) (by omega) (by omega) (by omega) (by omega)) rfl rfl rfl ?_
                  refine y_iinc (pc' := 255) (L' := [(4, ii (((t : Nat) : Int) + 1)), (0, .ref p), (1, .ref q), (3, .ref h.length)]) dm_X9_joined_252 (y_incp (a := ((t : Nat) : Int)) (c := 1) rfl rfl (by decide)) rfl ?_
                  refine me2 (pc' := 212) (S' := []) dm_X9_joined_255 rfl rfl rfl ?_
                  exact pg_sub (L := [(0, .ref p), (1, .ref q), (3, .ref h.length), (4, ii (((t + 1) : Nat) : Int))]) rfl rfl rfl (ih212 ((vm v + vm w) - (t + 1)) (by omega) (t + 1) ((h3).set h.length (cA 4 (vm v + vm w) (va_up V t (some q3)))) (va_up V t (some q3)) rfl (by omega) (vfl_s hV hA hres))
          exact pg_sub (L := [(0, .ref p), (1, .ref q), (3, .ref h.length), (4, ii ((0 : Nat) : Int))]) rfl rfl rfl (lp212 _ 0 (h ++ [cA 4 (vm v + vm w) (fun _ => none)]) (fun _ => none) rfl (Nat.zero_le _) (vfl_0 rfl))
        · refine me0 (pc' := 192) (S' := [ii 8]) dm_X9_joined_190 rfl rfl rfl rfl ?_
          refine x_cv (pc' := 195) (rest := []) dm_X9_joined_192 rfl (g_invs (As := [ii 8]) (S := []) rfl rfl rfl) rfl rfl rfl (c_fault (q := h.length) (by omega) (by omega) rfl (by omega)) ?_
          rintro _ _ ⟨rfl, rfl⟩
          refine y_ret (r := some (.ref h.length)) dm_X9_joined_195 rfl rfl rfl ?_
          refine ⟨_, rfl, h, scrS_rf h, hH, ?_⟩
          rw [show d_join v w = .inl 8 by unfold d_join; rw [if_neg hnf, if_neg (by omega), if_pos (by omega)]]
          exact ares_f 8 (by omega) (by omega) (by omega)
      · refine me1 (pc' := 122) (L' := [(0, .ref p), (1, .ref q)]) (S' := [.ref p]) dm_X9_joined_121 rfl rfl rfl rfl ?_
        refine me3 (pc' := 125) (S' := [ii (vc v : Int)]) dm_X9_joined_122 (g_get (v := ii (vc v : Int)) hp rfl rfl (by omega)) rfl rfl rfl ?_
        refine me1 (pc' := 126) (L' := [(0, .ref p), (1, .ref q)]) (S' := [.ref q, ii (vc v : Int)]) dm_X9_joined_125 rfl rfl rfl rfl ?_
        refine me3 (pc' := 129) (S' := [ii (vc w : Int), ii (vc v : Int)]) dm_X9_joined_126 (g_get (v := ii (vc w : Int)) hq rfl rfl (by omega)) rfl rfl rfl ?_
        refine y_2ne (a := (vc v : Int)) (b := (vc w : Int)) (t := 176) (pc' := 132) dm_X9_joined_129 rfl rfl (by omega) (fun hb9 => ?_) (fun hb9 => ?_)
        · refine me1 (pc' := 177) (L' := [(0, .ref p), (1, .ref q)]) (S' := [.ref p]) dm_X9_joined_176 rfl rfl rfl rfl ?_
          refine me3 (pc' := 180) (S' := [ii (vm v : Int)]) dm_X9_joined_177 (g_get (v := ii (vm v : Int)) hp rfl rfl (by omega)) rfl rfl rfl ?_
          refine me1 (pc' := 181) (L' := [(0, .ref p), (1, .ref q)]) (S' := [.ref q, ii (vm v : Int)]) dm_X9_joined_180 rfl rfl rfl rfl ?_
          refine me3 (pc' := 184) (S' := [ii (vm w : Int), ii (vm v : Int)]) dm_X9_joined_181 (g_get (v := ii (vm w : Int)) hq rfl rfl (by omega)) rfl rfl rfl ?_
          refine y_iadd (a := (vm v : Int)) (b := (vm w : Int)) dm_X9_joined_184 (pc' := 185) rfl ?_
          refine me0 (pc' := 187) (S' := [ii 24, ii ((vm v : Int) + (vm w : Int))]) dm_X9_joined_185 rfl rfl rfl rfl ?_
          refine y_2le (a := (vm v : Int) + (vm w : Int)) (b := 24) (t := 196) (pc' := 190) dm_X9_joined_187 rfl rfl (by omega) (fun hb10 => ?_) (fun hb10 => ?_)
          · refine me1 (pc' := 197) (L' := [(0, .ref p), (1, .ref q)]) (S' := [.ref p]) dm_X9_joined_196 rfl rfl rfl rfl ?_
            refine me3 (pc' := 200) (S' := [ii (vm v : Int)]) dm_X9_joined_197 (g_get (v := ii (vm v : Int)) hp rfl rfl (by omega)) rfl rfl rfl ?_
            refine me1 (pc' := 201) (L' := [(0, .ref p), (1, .ref q)]) (S' := [.ref q, ii (vm v : Int)]) dm_X9_joined_200 rfl rfl rfl rfl ?_
            refine me3 (pc' := 204) (S' := [ii (vm w : Int), ii (vm v : Int)]) dm_X9_joined_201 (g_get (v := ii (vm w : Int)) hq rfl rfl (by omega)) rfl rfl rfl ?_
            refine y_iadd (a := (vm v : Int)) (b := (vm w : Int)) dm_X9_joined_204 (pc' := 205) rfl ?_
            have hS : sumN (vm v + vm w) (fun k => vsz (e + 1) ((jch v w) k)) ≤ 29999 := by have h9 := sumN_bd (n := vm v + vm w) (b := 1000) (f := fun k => vsz (e + 1) ((jch v w) k)) (fun k hk => by by_cases z : k < vm v; (rw [jch_l z]; exact vsz_vit (cv_wf hv) hset (Or.inr z)); (rw [jch_r z]; exact vsz_vit (cv_wf hw) hset2 (Or.inr (by omega)))); have := Nat.mul_le_mul_right 1000 (show vm v + vm w ≤ 24 by omega); omega
            refine pg_st0 (S' := [ii ((vm v + vm w : Nat) : Int)]) (congrArg (fun z => ii z :: []) (by push_cast; rfl)) ?_
            refine me3 (pc' := 208) (S' := [.ref h.length]) (h1 := h ++ [cA 4 (vm v + vm w) (fun _ => none)]) dm_X9_joined_205 (yh_newA rfl (by omega) (by omega) (by omega) rfl) rfl rfl rfl ?_
            refine me1 (pc' := 209) (L' := [(3, .ref h.length), (0, .ref p), (1, .ref q)]) (S' := []) dm_X9_joined_208 rfl rfl rfl rfl ?_
            refine me0 (pc' := 210) (S' := [ii 0]) dm_X9_joined_209 rfl rfl rfl rfl ?_
            refine me1 (pc' := 212) (L' := [(4, ii 0), (3, .ref h.length), (0, .ref p), (1, .ref q)]) (S' := []) dm_X9_joined_210 rfl rfl rfl rfl ?_
            have lp212 : ∀ (n212 : Nat) (t : Nat) (hh : mj_H) (V : Nat → Option Nat), (vm v + vm w) - t = n212 → (t ≤ (vm v + vm w)) → (vfl A h h.length hh (vm v + vm w) V t (e + 1) (jch v w) t (9 * t)) → pgE xt (d - 1) 9 5 false (Option.some (Jvm.ClassFile.FieldType.object "ArrayCalculator$Value")) (mj_dec prog_11_method_3_code) 212 [(0, .ref p), (1, .ref q), (3, .ref h.length), (4, ii ((t : Nat) : Int))] [] hh (fun r h' => ∃ x, r = some x ∧ aact A h (e + 2) (d_join v w) (vm v + vm w + 2) (10 * (vm v + vm w) + vq v + vq w + 9) x h') := by
              intro n212
              induction n212 using Nat.strongRecOn with
              | ind n212 ih212 =>
                intro t hh V hm212 ht hV
                have hlh := vfl_len hV
                refine me1 (pc' := 214) (L' := [(0, .ref p), (1, .ref q), (3, .ref h.length), (4, ii ((t : Nat) : Int))]) (S' := [ii ((t : Nat) : Int)]) dm_X9_joined_212 rfl rfl rfl rfl ?_
                refine me1 (pc' := 215) (L' := [(0, .ref p), (1, .ref q), (3, .ref h.length), (4, ii ((t : Nat) : Int))]) (S' := [.ref h.length, ii ((t : Nat) : Int)]) dm_X9_joined_214 rfl rfl rfl rfl ?_
                refine me3 (pc' := 216) (S' := [ii (vm v + vm w), ii ((t : Nat) : Int)]) dm_X9_joined_215 (yh_len (n := vm v + vm w) rfl (vfl_arr hV) (by omega)) rfl rfl rfl ?_
                refine y_2ge (a := ((t : Nat) : Int)) (b := vm v + vm w) (t := 258) (pc' := 219) dm_X9_joined_216 rfl rfl (by omega) (fun hb11 => ?_) (fun hb11 => ?_)
                · refine me1 (pc' := 259) (L' := [(0, .ref p), (1, .ref q), (3, .ref h.length), (4, ii ((t : Nat) : Int))]) (S' := [.ref h.length]) dm_X9_joined_258 rfl rfl rfl rfl ?_
                  have hVn : vfl A h h.length hh (vm v + vm w) V (vm v + vm w) (e + 1) (jch v w) (vm v + vm w) (9 * (vm v + vm w)) := (show t = vm v + vm w by omega) ▸ hV
                  have hA1 := hA
                  refine x_cv (pc' := 262) (rest := []) dm_X9_joined_259 rfl (g_invs (As := [.ref h.length]) (S := []) rfl rfl rfl) rfl rfl rfl (c_nest (A := newA A (h ++ [cA 4 (vm v + vm w) V]) hh) (e := e + 1) (n := (vm v + vm w)) (g := V) (ch := (jch v w)) (q := hh.length) (by omega) (by omega) rfl (fun z => by have z1 := vfl_okA hVn hA1 (by omega) _ z; omega) (vfl_arr hVn) (by omega) (by omega) (by omega) hS (vfl_kid hVn)) ?_
                  rintro _ _ ⟨rfl, rfl⟩
                  refine y_ret (r := some (.ref hh.length)) dm_X9_joined_262 rfl rfl rfl ?_
                  refine ⟨_, rfl, h, scrS_rf h, hH, ?_⟩
                  rw [show d_join v w = .inr (vnest (vm v + vm w) (jch v w)) by unfold d_join; rw [if_neg hnf, if_neg (by omega), if_neg (by omega)]]
                  exact vfl_end hVn hA hl (by omega) (by omega) hS (by omega) (by omega)
                · refine me1 (pc' := 220) (L' := [(0, .ref p), (1, .ref q), (3, .ref h.length), (4, ii ((t : Nat) : Int))]) (S' := [.ref h.length]) dm_X9_joined_219 rfl rfl rfl rfl ?_
                  refine me1 (pc' := 222) (L' := [(0, .ref p), (1, .ref q), (3, .ref h.length), (4, ii ((t : Nat) : Int))]) (S' := [ii ((t : Nat) : Int), .ref h.length]) dm_X9_joined_220 rfl rfl rfl rfl ?_
                  refine me1 (pc' := 224) (L' := [(0, .ref p), (1, .ref q), (3, .ref h.length), (4, ii ((t : Nat) : Int))]) (S' := [ii ((t : Nat) : Int), ii ((t : Nat) : Int), .ref h.length]) dm_X9_joined_222 rfl rfl rfl rfl ?_
                  refine me1 (pc' := 225) (L' := [(0, .ref p), (1, .ref q), (3, .ref h.length), (4, ii ((t : Nat) : Int))]) (S' := [.ref p, ii ((t : Nat) : Int), ii ((t : Nat) : Int), .ref h.length]) dm_X9_joined_224 rfl rfl rfl rfl ?_
                  refine me3 (pc' := 228) (S' := [ii (vm v : Int), ii ((t : Nat) : Int), ii ((t : Nat) : Int), .ref h.length]) dm_X9_joined_225 (g_get (v := ii (vm v : Int)) (vfl_get hV hp) rfl rfl (by omega)) rfl rfl rfl ?_
                  refine y_2ge (a := ((t : Nat) : Int)) (b := (vm v : Int)) (t := 240) (pc' := 231) dm_X9_joined_228 rfl rfl (by omega) (fun hb12 => ?_) (fun hb12 => ?_)
                  · refine me1 (pc' := 241) (L' := [(0, .ref p), (1, .ref q), (3, .ref h.length), (4, ii ((t : Nat) : Int))]) (S' := [.ref q, ii ((t : Nat) : Int), .ref h.length]) dm_X9_joined_240 rfl rfl rfl rfl ?_
                    refine me1 (pc' := 243) (L' := [(0, .ref p), (1, .ref q), (3, .ref h.length), (4, ii ((t : Nat) : Int))]) (S' := [ii ((t : Nat) : Int), .ref q, ii ((t : Nat) : Int), .ref h.length]) dm_X9_joined_241 rfl rfl rfl rfl ?_
                    refine me1 (pc' := 244) (L' := [(0, .ref p), (1, .ref q), (3, .ref h.length), (4, ii ((t : Nat) : Int))]) (S' := [.ref p, ii ((t : Nat) : Int), .ref q, ii ((t : Nat) : Int), .ref h.length]) dm_X9_joined_243 rfl rfl rfl rfl ?_
                    refine me3 (pc' := 247) (S' := [ii (vm v : Int), ii ((t : Nat) : Int), .ref q, ii ((t : Nat) : Int), .ref h.length]) dm_X9_joined_244 (g_get (v := ii (vm v : Int)) (vfl_get hV hp) rfl rfl (by omega)) rfl rfl rfl ?_
                    refine y_isub (a := ((t : Nat) : Int)) (b := (vm v : Int)) dm_X9_joined_247 (pc' := 248) rfl ?_
                    refine pg_st0 (S' := [ii ((t - vm v : Nat) : Int), .ref q, ii ((t : Nat) : Int), .ref h.length]) (congrArg (fun z => ii z :: [.ref q, ii ((t : Nat) : Int), .ref h.length]) (by omega)) ?_
                    refine x_cv (pc' := 251) (rest := [ii ((t : Nat) : Int), .ref h.length]) dm_X9_joined_248 rfl (g_inv (As := [ii ((t - vm v : Nat) : Int)]) (S := [ii ((t : Nat) : Int), .ref h.length]) (vfl_get hV hq) rfl rfl rfl (by omega)) rfl rfl rfl ((show pgV xt (d - 1) _ _ _ (vres (newA A (h ++ [cA 4 (vm v + vm w) V]) hh) hh (e + 1) ((jch v w) t) 1 9) from (jch_r (show ¬ t < vm v by omega) : (jch v w) t = vit w (t - vm v)) ▸ c_itemAt hx1 (by omega) (by omega) (vfl_cv hV hw) (Or.inr (by omega)) (by omega))) ?_
                    rintro x h3 hres
                    obtain ⟨q3, rfl⟩ := vres_ref hres
                    obtain ⟨row3, fr3, vals3, hq3, hq32, -⟩ := cv_valE (vres_cv hres)
                    refine me3 (pc' := 252) (S' := []) (h1 := (h3).set h.length (cA 4 (vm v + vm w) (va_up V t (some q3)))) dm_X9_joined_251 (yh_aasr (j := ((t : Nat) : Int)) rfl (vres_get hres (vfl_arr hV)) hq3 (by omega) (by omega) (by omega) (by omega) (by omega)) rfl rfl rfl ?_
                    refine y_iinc (pc' := 255) (L' := [(4, ii (((t : Nat) : Int) + 1)), (0, .ref p), (1, .ref q), (3, .ref h.length)]) dm_X9_joined_252 (y_incp (a := ((t : Nat) : Int)) (c := 1) rfl rfl (by decide)) rfl ?_
                    refine me2 (pc' := 212) (S' := []) dm_X9_joined_255 rfl rfl rfl ?_
                    exact pg_sub (L := [(0, .ref p), (1, .ref q), (3, .ref h.length), (4, ii (((t + 1) : Nat) : Int))]) rfl rfl rfl (ih212 ((vm v + vm w) - (t + 1)) (by omega) (t + 1) ((h3).set h.length (cA 4 (vm v + vm w) (va_up V t (some q3)))) (va_up V t (some q3)) rfl (by omega) (vfl_s hV hA hres))
                  · refine me1 (pc' := 232) (L' := [(0, .ref p), (1, .ref q), (3, .ref h.length), (4, ii ((t : Nat) : Int))]) (S' := [.ref p, ii ((t : Nat) : Int), .ref h.length]) dm_X9_joined_231 rfl rfl rfl rfl ?_
                    refine me1 (pc' := 234) (L' := [(0, .ref p), (1, .ref q), (3, .ref h.length), (4, ii ((t : Nat) : Int))]) (S' := [ii ((t : Nat) : Int), .ref p, ii ((t : Nat) : Int), .ref h.length]) dm_X9_joined_232 rfl rfl rfl rfl ?_
                    refine x_cv (pc' := 237) (rest := [ii ((t : Nat) : Int), .ref h.length]) dm_X9_joined_234 rfl (g_inv (As := [ii ((t : Nat) : Int)]) (S := [ii ((t : Nat) : Int), .ref h.length]) (vfl_get hV hp) rfl rfl rfl (by omega)) rfl rfl rfl ((show pgV xt (d - 1) _ _ _ (vres (newA A (h ++ [cA 4 (vm v + vm w) V]) hh) hh (e + 1) ((jch v w) t) 1 9) from (jch_l (show t < vm v by omega) : (jch v w) t = vit v t) ▸ c_itemAt hx1 (by omega) (by omega) (vfl_cv hV hv) (Or.inr (by omega)) (by omega))) ?_
                    rintro x h3 hres
                    obtain ⟨q3, rfl⟩ := vres_ref hres
                    obtain ⟨row3, fr3, vals3, hq3, hq32, -⟩ := cv_valE (vres_cv hres)
                    refine me2 (pc' := 251) (S' := [.ref q3, ii ((t : Nat) : Int), .ref h.length]) dm_X9_joined_237 rfl rfl rfl ?_
                    refine me3 (pc' := 252) (S' := []) (h1 := (h3).set h.length (cA 4 (vm v + vm w) (va_up V t (some q3)))) dm_X9_joined_251 (yh_aasr (j := ((t : Nat) : Int)) rfl (vres_get hres (vfl_arr hV)) hq3 (by omega) (by omega) (by omega) (by omega) (by omega)) rfl rfl rfl ?_
                    refine y_iinc (pc' := 255) (L' := [(4, ii (((t : Nat) : Int) + 1)), (0, .ref p), (1, .ref q), (3, .ref h.length)]) dm_X9_joined_252 (y_incp (a := ((t : Nat) : Int)) (c := 1) rfl rfl (by decide)) rfl ?_
                    refine me2 (pc' := 212) (S' := []) dm_X9_joined_255 rfl rfl rfl ?_
                    exact pg_sub (L := [(0, .ref p), (1, .ref q), (3, .ref h.length), (4, ii (((t + 1) : Nat) : Int))]) rfl rfl rfl (ih212 ((vm v + vm w) - (t + 1)) (by omega) (t + 1) ((h3).set h.length (cA 4 (vm v + vm w) (va_up V t (some q3)))) (va_up V t (some q3)) rfl (by omega) (vfl_s hV hA hres))
            exact pg_sub (L := [(0, .ref p), (1, .ref q), (3, .ref h.length), (4, ii ((0 : Nat) : Int))]) rfl rfl rfl (lp212 _ 0 (h ++ [cA 4 (vm v + vm w) (fun _ => none)]) (fun _ => none) rfl (Nat.zero_le _) (vfl_0 rfl))
          · refine me0 (pc' := 192) (S' := [ii 8]) dm_X9_joined_190 rfl rfl rfl rfl ?_
            refine x_cv (pc' := 195) (rest := []) dm_X9_joined_192 rfl (g_invs (As := [ii 8]) (S := []) rfl rfl rfl) rfl rfl rfl (c_fault (q := h.length) (by omega) (by omega) rfl (by omega)) ?_
            rintro _ _ ⟨rfl, rfl⟩
            refine y_ret (r := some (.ref h.length)) dm_X9_joined_195 rfl rfl rfl ?_
            refine ⟨_, rfl, h, scrS_rf h, hH, ?_⟩
            rw [show d_join v w = .inl 8 by unfold d_join; rw [if_neg hnf, if_neg (by omega), if_pos (by omega)]]
            exact ares_f 8 (by omega) (by omega) (by omega)
        · refine me1 (pc' := 133) (L' := [(0, .ref p), (1, .ref q)]) (S' := [.ref p]) dm_X9_joined_132 rfl rfl rfl rfl ?_
          refine me3 (pc' := 136) (S' := [ii (vm v : Int)]) dm_X9_joined_133 (g_get (v := ii (vm v : Int)) hp rfl rfl (by omega)) rfl rfl rfl ?_
          refine me1 (pc' := 137) (L' := [(0, .ref p), (1, .ref q)]) (S' := [.ref q, ii (vm v : Int)]) dm_X9_joined_136 rfl rfl rfl rfl ?_
          refine me3 (pc' := 140) (S' := [ii (vm w : Int), ii (vm v : Int)]) dm_X9_joined_137 (g_get (v := ii (vm w : Int)) hq rfl rfl (by omega)) rfl rfl rfl ?_
          refine y_iadd (a := (vm v : Int)) (b := (vm w : Int)) dm_X9_joined_140 (pc' := 141) rfl ?_
          refine me0 (pc' := 143) (S' := [ii 12, ii ((vm v : Int) + (vm w : Int))]) dm_X9_joined_141 rfl rfl rfl rfl ?_
          refine y_2le (a := (vm v : Int) + (vm w : Int)) (b := 12) (t := 154) (pc' := 146) dm_X9_joined_143 rfl rfl (by omega) (fun hb13 => ?_) (fun hb13 => ?_)
          · refine me1 (pc' := 155) (L' := [(0, .ref p), (1, .ref q)]) (S' := [.ref p]) dm_X9_joined_154 rfl rfl rfl rfl ?_
            refine me1 (pc' := 156) (L' := [(0, .ref p), (1, .ref q)]) (S' := [.ref q, .ref p]) dm_X9_joined_155 rfl rfl rfl rfl ?_
            refine x_cv (pc' := 159) (rest := []) dm_X9_joined_156 rfl (g_invs (As := [.ref p, .ref q]) (S := []) rfl rfl rfl) rfl rfl rfl (t_joinedNumbers (A := A) (e := e) (q1 := h.length) hx1 (by omega) (by omega) rfl hv hw (by omega) (by omega)) ?_
            rintro _ _ ⟨F, rfl, rfl, hF⟩
            refine me1 (pc' := 160) (L' := [(0, .ref p), (1, .ref q)]) (S' := [.ref p, .ref h.length]) dm_X9_joined_159 rfl rfl rfl rfl ?_
            refine me3 (pc' := 163) (S' := [ii (vm v : Int), .ref h.length]) dm_X9_joined_160 (g_get (v := ii (vm v : Int)) (hl_app hp) rfl rfl (by omega)) rfl rfl rfl ?_
            refine me1 (pc' := 164) (L' := [(0, .ref p), (1, .ref q)]) (S' := [.ref q, ii (vm v : Int), .ref h.length]) dm_X9_joined_163 rfl rfl rfl rfl ?_
            refine me3 (pc' := 167) (S' := [ii (vm w : Int), ii (vm v : Int), .ref h.length]) dm_X9_joined_164 (g_get (v := ii (vm w : Int)) (hl_app hq) rfl rfl (by omega)) rfl rfl rfl ?_
            refine y_iadd (a := (vm v : Int)) (b := (vm w : Int)) dm_X9_joined_167 (pc' := 168) rfl ?_
            refine me1 (pc' := 169) (L' := [(0, .ref p), (1, .ref q)]) (S' := [.ref p, ii ((vm v : Int) + (vm w : Int)), .ref h.length]) dm_X9_joined_168 rfl rfl rfl rfl ?_
            refine me3 (pc' := 172) (S' := [ii (vc v : Int), ii ((vm v : Int) + (vm w : Int)), .ref h.length]) dm_X9_joined_169 (g_get (v := ii (vc v : Int)) (hl_app hp) rfl rfl (by omega)) rfl rfl rfl ?_
            refine x_cv (pc' := 175) (rest := []) dm_X9_joined_172 rfl (g_invs (As := [.ref h.length, ii ((vm v : Int) + (vm w : Int)), ii (vc v : Int)]) (S := []) rfl rfl rfl) rfl rfl rfl (c_table (q := h.length + 1) (by omega) (by simp; omega) (by simp) (by omega) (by omega)) ?_
            rintro _ _ ⟨rfl, rfl⟩
            refine y_ret (r := some (.ref (h.length + 1))) dm_X9_joined_175 rfl rfl rfl ?_
            refine ⟨_, rfl, h, scrS_rf h, hH, ?_⟩
            rw [show d_join v w = .inr (vtab (vm v + vm w) (vc v) (jnF v w)) by unfold d_join; rw [if_neg hnf, if_pos (by omega), if_neg (by omega)]]
            have hqq : (vm v + vm w) * vc v = vq v + vq w := by rw [vq_tb (by omega), vq_tb (by omega), Nat.add_mul, show vc w = vc v by omega]
            exact vres_up (by omega) (by omega) (vres_flat (e := e + 1) (w := vtab (vm v + vm w) (vc v) (jnF v w)) hl (vw1_tab (by omega) (by omega) (by omega) (by omega) (fun k hk => jn_fits hv.1 hw.1 (by omega) (by omega) k (by omega))) (by show 2 ≤ 6; omega) (by show 6 ≤ 6; omega) (by rw [vq_tab]; exact hqq) hF (Nat.le_refl _) (Nat.le_refl _))
          · refine me0 (pc' := 148) (S' := [ii 8]) dm_X9_joined_146 rfl rfl rfl rfl ?_
            refine x_cv (pc' := 151) (rest := []) dm_X9_joined_148 rfl (g_invs (As := [ii 8]) (S := []) rfl rfl rfl) rfl rfl rfl (c_fault (q := h.length) (by omega) (by omega) rfl (by omega)) ?_
            rintro _ _ ⟨rfl, rfl⟩
            refine me2 (pc' := 175) (S' := [.ref h.length]) dm_X9_joined_151 rfl rfl rfl ?_
            refine y_ret (r := some (.ref h.length)) dm_X9_joined_175 rfl rfl rfl ?_
            refine ⟨_, rfl, h, scrS_rf h, hH, ?_⟩
            rw [show d_join v w = .inl 8 by unfold d_join; rw [if_neg hnf, if_pos (by omega), if_pos (by omega)]]
            exact ares_f 8 (by omega) (by omega) (by omega)
  have cut38 : (jflat v w) → pgE xt (d - 1) 9 5 false (Option.some (Jvm.ClassFile.FieldType.object "ArrayCalculator$Value")) (mj_dec prog_11_method_3_code) 38 [(0, .ref p), (1, .ref q), (2, zz (decide (ofN v ∧ ofN w)))] [] h (fun r h' => ∃ x, r = some x ∧ aact A h (e + 2) (d_join v w) (vm v + vm w + 2) (10 * (vm v + vm w) + vq v + vq w + 9) x h') := by
    intro hfl
    have hk5 : vk v ≤ 5 ∧ vk w ≤ 5 := by omega
    have hm7 := hm5 hk5.1
    have hm8 := hm6 hk5.2
    refine me1 (pc' := 39) (L' := [(0, .ref p), (1, .ref q), (2, zz (decide (ofN v ∧ ofN w)))]) (S' := [.ref p]) dm_X9_joined_38 rfl rfl rfl rfl ?_
    refine me3 (pc' := 42) (S' := [ii (vm v : Int)]) dm_X9_joined_39 (g_get (v := ii (vm v : Int)) hp rfl rfl (by omega)) rfl rfl rfl ?_
    refine me1 (pc' := 43) (L' := [(0, .ref p), (1, .ref q), (2, zz (decide (ofN v ∧ ofN w)))]) (S' := [.ref q, ii (vm v : Int)]) dm_X9_joined_42 rfl rfl rfl rfl ?_
    refine me3 (pc' := 46) (S' := [ii (vm w : Int), ii (vm v : Int)]) dm_X9_joined_43 (g_get (v := ii (vm w : Int)) hq rfl rfl (by omega)) rfl rfl rfl ?_
    refine y_iadd (a := (vm v : Int)) (b := (vm w : Int)) dm_X9_joined_46 (pc' := 47) rfl ?_
    refine me0 (pc' := 49) (S' := [ii 120, ii ((vm v : Int) + (vm w : Int))]) dm_X9_joined_47 rfl rfl rfl rfl ?_
    refine y_2le (a := (vm v : Int) + (vm w : Int)) (b := 120) (t := 58) (pc' := 52) dm_X9_joined_49 rfl rfl (by omega) (fun hb14 => ?_) (fun hb14 => ?_)
    · refine me1 (pc' := 59) (L' := [(0, .ref p), (1, .ref q), (2, zz (decide (ofN v ∧ ofN w)))]) (S' := [.ref p]) dm_X9_joined_58 rfl rfl rfl rfl ?_
      refine me1 (pc' := 60) (L' := [(0, .ref p), (1, .ref q), (2, zz (decide (ofN v ∧ ofN w)))]) (S' := [.ref q, .ref p]) dm_X9_joined_59 rfl rfl rfl rfl ?_
      refine x_cv (pc' := 63) (rest := []) dm_X9_joined_60 rfl (g_invs (As := [.ref p, .ref q]) (S := []) rfl rfl rfl) rfl rfl rfl (t_joinedNumbers (A := A) (e := e) (q1 := h.length) hx1 (by omega) (by omega) rfl hv hw (by omega) (by omega)) ?_
      rintro _ _ ⟨F, rfl, rfl, hF⟩
      refine me1 (pc' := 64) (L' := [(3, .ref h.length), (0, .ref p), (1, .ref q), (2, zz (decide (ofN v ∧ ofN w)))]) (S' := []) dm_X9_joined_63 rfl rfl rfl rfl ?_
      refine me1 (pc' := 65) (L' := [(3, .ref h.length), (0, .ref p), (1, .ref q), (2, zz (decide (ofN v ∧ ofN w)))]) (S' := [.ref p]) dm_X9_joined_64 rfl rfl rfl rfl ?_
      refine me3 (pc' := 68) (S' := [ii (vk v : Int)]) dm_X9_joined_65 (g_get (v := ii (vk v : Int)) (hl_app hp) rfl rfl (by omega)) rfl rfl rfl ?_
      refine me0 (pc' := 69) (S' := [ii 2, ii (vk v : Int)]) dm_X9_joined_68 rfl rfl rfl rfl ?_
      refine y_2ne (a := (vk v : Int)) (b := 2) (t := 86) (pc' := 72) dm_X9_joined_69 rfl rfl (by omega) (fun hb15 => ?_) (fun hb15 => ?_)
      · refine me1 (pc' := 87) (L' := [(3, .ref h.length), (0, .ref p), (1, .ref q), (2, zz (decide (ofN v ∧ ofN w)))]) (S' := [zz (decide (ofN v ∧ ofN w))]) dm_X9_joined_86 rfl rfl rfl rfl ?_
        refine y_zeq (c := decide (ofN v ∧ ofN w)) (t := 97) (pc' := 90) dm_X9_joined_87 rfl rfl (fun hb16 => ?_) (fun hb16 => ?_)
        · replace hb16 := dF hb16
          refine me0 (pc' := 98) (S' := [ii 3]) dm_X9_joined_97 rfl rfl rfl rfl ?_
          refine me1 (pc' := 99) (L' := [(3, .ref h.length), (0, .ref p), (1, .ref q), (2, zz (decide (ofN v ∧ ofN w)))]) (S' := [.ref h.length, ii 3]) dm_X9_joined_98 rfl rfl rfl rfl ?_
          refine x_cv (pc' := 102) (rest := []) dm_X9_joined_99 rfl (g_invs (As := [ii 3, .ref h.length]) (S := []) rfl rfl rfl) rfl rfl rfl (c_row (hx1 := hx1) (q := h.length + 1) (by omega) (by simp; omega) (by simp) (by omega) (show rowAt (fun _ => True) _ _ _ _ from Or.inr ⟨by omega, hl_new, by omega, trivial⟩) (by omega)) ?_
          rintro _ _ ⟨rfl, rfl⟩
          refine y_ret (r := some (.ref (h.length + 1))) dm_X9_joined_102 rfl rfl rfl ?_
          refine ⟨_, rfl, h, scrS_rf h, hH, ?_⟩
          rw [show d_join v w = .inr (vrow 3 (vq v + vq w) (jnF v w)) by unfold d_join; rw [if_pos hfl, if_neg (by omega), if_neg (by omega), if_neg (by assumption)]]
          exact vres_rowL (e := e + 1) (k := 3) rfl hl (by omega) (by omega) (by omega) rfl hF (by omega) (by omega)
        · replace hb16 := dT hb16
          refine me1 (pc' := 91) (L' := [(3, .ref h.length), (0, .ref p), (1, .ref q), (2, zz (decide (ofN v ∧ ofN w)))]) (S' := [.ref h.length]) dm_X9_joined_90 rfl rfl rfl rfl ?_
          refine x_cv (pc' := 94) (rest := []) dm_X9_joined_91 rfl (g_invs (As := [.ref h.length]) (S := []) rfl rfl rfl) rfl rfl rfl (c_numberRow (hx1 := hx1) (q := h.length + 1) (by omega) (by simp; omega) (by simp) (show rowAt (fun _ => True) _ _ _ _ from Or.inr ⟨by omega, hl_new, by omega, trivial⟩) (by omega)) ?_
          rintro _ _ ⟨rfl, rfl⟩
          refine me2 (pc' := 102) (S' := [.ref (h.length + 1)]) dm_X9_joined_94 rfl rfl rfl ?_
          refine y_ret (r := some (.ref (h.length + 1))) dm_X9_joined_102 rfl rfl rfl ?_
          refine ⟨_, rfl, h, scrS_rf h, hH, ?_⟩
          have hvf := vform_le (m := vq v + vq w) (f := jnF v w)
          rw [show d_join v w = .inr (vrow (vform (vq v + vq w) (jnF v w)) (vq v + vq w) (jnF v w)) by unfold d_join; rw [if_pos hfl, if_neg (by omega), if_neg (by omega), if_pos (by assumption)]]
          exact vres_rowL (e := e + 1) rfl hl (by omega) (by omega) (by omega) (by rw [vform_congr hF]) hF (by omega) (by omega)
      · refine me1 (pc' := 73) (L' := [(3, .ref h.length), (0, .ref p), (1, .ref q), (2, zz (decide (ofN v ∧ ofN w)))]) (S' := [.ref q]) dm_X9_joined_72 rfl rfl rfl rfl ?_
        refine me3 (pc' := 76) (S' := [ii (vk w : Int)]) dm_X9_joined_73 (g_get (v := ii (vk w : Int)) (hl_app hq) rfl rfl (by omega)) rfl rfl rfl ?_
        refine me0 (pc' := 77) (S' := [ii 2, ii (vk w : Int)]) dm_X9_joined_76 rfl rfl rfl rfl ?_
        refine y_2ne (a := (vk w : Int)) (b := 2) (t := 86) (pc' := 80) dm_X9_joined_77 rfl rfl (by omega) (fun hb17 => ?_) (fun hb17 => ?_)
        · refine me1 (pc' := 87) (L' := [(3, .ref h.length), (0, .ref p), (1, .ref q), (2, zz (decide (ofN v ∧ ofN w)))]) (S' := [zz (decide (ofN v ∧ ofN w))]) dm_X9_joined_86 rfl rfl rfl rfl ?_
          refine y_zeq (c := decide (ofN v ∧ ofN w)) (t := 97) (pc' := 90) dm_X9_joined_87 rfl rfl (fun hb18 => ?_) (fun hb18 => ?_)
          · replace hb18 := dF hb18
            refine me0 (pc' := 98) (S' := [ii 3]) dm_X9_joined_97 rfl rfl rfl rfl ?_
            refine me1 (pc' := 99) (L' := [(3, .ref h.length), (0, .ref p), (1, .ref q), (2, zz (decide (ofN v ∧ ofN w)))]) (S' := [.ref h.length, ii 3]) dm_X9_joined_98 rfl rfl rfl rfl ?_
            refine x_cv (pc' := 102) (rest := []) dm_X9_joined_99 rfl (g_invs (As := [ii 3, .ref h.length]) (S := []) rfl rfl rfl) rfl rfl rfl (c_row (hx1 := hx1) (q := h.length + 1) (by omega) (by simp; omega) (by simp) (by omega) (show rowAt (fun _ => True) _ _ _ _ from Or.inr ⟨by omega, hl_new, by omega, trivial⟩) (by omega)) ?_
            rintro _ _ ⟨rfl, rfl⟩
            refine y_ret (r := some (.ref (h.length + 1))) dm_X9_joined_102 rfl rfl rfl ?_
            refine ⟨_, rfl, h, scrS_rf h, hH, ?_⟩
            rw [show d_join v w = .inr (vrow 3 (vq v + vq w) (jnF v w)) by unfold d_join; rw [if_pos hfl, if_neg (by omega), if_neg (by omega), if_neg (by assumption)]]
            exact vres_rowL (e := e + 1) (k := 3) rfl hl (by omega) (by omega) (by omega) rfl hF (by omega) (by omega)
          · replace hb18 := dT hb18
            refine me1 (pc' := 91) (L' := [(3, .ref h.length), (0, .ref p), (1, .ref q), (2, zz (decide (ofN v ∧ ofN w)))]) (S' := [.ref h.length]) dm_X9_joined_90 rfl rfl rfl rfl ?_
            refine x_cv (pc' := 94) (rest := []) dm_X9_joined_91 rfl (g_invs (As := [.ref h.length]) (S := []) rfl rfl rfl) rfl rfl rfl (c_numberRow (hx1 := hx1) (q := h.length + 1) (by omega) (by simp; omega) (by simp) (show rowAt (fun _ => True) _ _ _ _ from Or.inr ⟨by omega, hl_new, by omega, trivial⟩) (by omega)) ?_
            rintro _ _ ⟨rfl, rfl⟩
            refine me2 (pc' := 102) (S' := [.ref (h.length + 1)]) dm_X9_joined_94 rfl rfl rfl ?_
            refine y_ret (r := some (.ref (h.length + 1))) dm_X9_joined_102 rfl rfl rfl ?_
            refine ⟨_, rfl, h, scrS_rf h, hH, ?_⟩
            have hvf := vform_le (m := vq v + vq w) (f := jnF v w)
            rw [show d_join v w = .inr (vrow (vform (vq v + vq w) (jnF v w)) (vq v + vq w) (jnF v w)) by unfold d_join; rw [if_pos hfl, if_neg (by omega), if_neg (by omega), if_pos (by assumption)]]
            exact vres_rowL (e := e + 1) rfl hl (by omega) (by omega) (by omega) (by rw [vform_congr hF]) hF (by omega) (by omega)
        · refine me0 (pc' := 81) (S' := [ii 2]) dm_X9_joined_80 rfl rfl rfl rfl ?_
          refine me1 (pc' := 82) (L' := [(3, .ref h.length), (0, .ref p), (1, .ref q), (2, zz (decide (ofN v ∧ ofN w)))]) (S' := [.ref h.length, ii 2]) dm_X9_joined_81 rfl rfl rfl rfl ?_
          refine x_cv (pc' := 85) (rest := []) dm_X9_joined_82 rfl (g_invs (As := [ii 2, .ref h.length]) (S := []) rfl rfl rfl) rfl rfl rfl (c_row (hx1 := hx1) (q := h.length + 1) (by omega) (by simp; omega) (by simp) (by omega) (show rowAt (fun _ => True) _ _ _ _ from Or.inr ⟨by omega, hl_new, by omega, trivial⟩) (by omega)) ?_
          rintro _ _ ⟨rfl, rfl⟩
          refine y_ret (r := some (.ref (h.length + 1))) dm_X9_joined_85 rfl rfl rfl ?_
          refine ⟨_, rfl, h, scrS_rf h, hH, ?_⟩
          rw [show d_join v w = .inr (vrow 2 (vq v + vq w) (jnF v w)) by unfold d_join; rw [if_pos hfl, if_neg (by omega), if_pos (by omega)]]
          exact vres_up (by omega) (by omega) (vres_bits (e := e + 1) hl (by omega) (jn_bits hv.1 hw.1 (by omega) (by omega)) hF (Nat.le_refl _) (Nat.le_refl _))
    · refine me0 (pc' := 54) (S' := [ii 8]) dm_X9_joined_52 rfl rfl rfl rfl ?_
      refine x_cv (pc' := 57) (rest := []) dm_X9_joined_54 rfl (g_invs (As := [ii 8]) (S := []) rfl rfl rfl) rfl rfl rfl (c_fault (q := h.length) (by omega) (by omega) rfl (by omega)) ?_
      rintro _ _ ⟨rfl, rfl⟩
      refine y_ret (r := some (.ref h.length)) dm_X9_joined_57 rfl rfl rfl ?_
      refine ⟨_, rfl, h, scrS_rf h, hH, ?_⟩
      rw [show d_join v w = .inl 8 by unfold d_join; rw [if_pos hfl, if_pos (by omega)]]
      exact ares_f 8 (by omega) (by omega) (by omega)
  have cut20 : pgE xt (d - 1) 9 5 false (Option.some (Jvm.ClassFile.FieldType.object "ArrayCalculator$Value")) (mj_dec prog_11_method_3_code) 20 [(0, .ref p), (1, .ref q), (2, zz (decide (ofN v ∧ ofN w)))] [] h (fun r h' => ∃ x, r = some x ∧ aact A h (e + 2) (d_join v w) (vm v + vm w + 2) (10 * (vm v + vm w) + vq v + vq w + 9) x h') := by
    refine me1 (pc' := 21) (L' := [(0, .ref p), (1, .ref q), (2, zz (decide (ofN v ∧ ofN w)))]) (S' := [zz (decide (ofN v ∧ ofN w))]) dm_X9_joined_20 rfl rfl rfl rfl ?_
    refine y_zne (c := decide (ofN v ∧ ofN w)) (t := 38) (pc' := 24) dm_X9_joined_21 rfl rfl (fun hb19 => ?_) (fun hb19 => ?_)
    · replace hb19 := dT hb19
      exact pg_sub (L := [(0, .ref p), (1, .ref q), (2, zz (decide (ofN v ∧ ofN w)))]) rfl rfl rfl (cut38 (by omega))
    · replace hb19 := dF hb19
      refine me1 (pc' := 25) (L' := [(0, .ref p), (1, .ref q), (2, zz (decide (ofN v ∧ ofN w)))]) (S' := [.ref p]) dm_X9_joined_24 rfl rfl rfl rfl ?_
      refine x_cp (pc' := 28) (v := zz (decide (vk v = 1 ∨ vk v = 3))) (rest := []) dm_X9_joined_25 rfl (g_inv (As := []) (S := []) hp rfl rfl rfl (by omega)) rfl rfl rfl (c_ofSigns (by omega) hv) ?_
      refine y_zeq (c := decide (vk v = 1 ∨ vk v = 3)) (t := 103) (pc' := 31) dm_X9_joined_28 rfl rfl (fun hb20 => ?_) (fun hb20 => ?_)
      · replace hb20 := dF hb20
        exact pg_sub (L := [(0, .ref p), (1, .ref q)]) rfl rfl rfl (cut103 (by omega))
      · replace hb20 := dT hb20
        refine me1 (pc' := 32) (L' := [(0, .ref p), (1, .ref q), (2, zz (decide (ofN v ∧ ofN w)))]) (S' := [.ref q]) dm_X9_joined_31 rfl rfl rfl rfl ?_
        refine x_cp (pc' := 35) (v := zz (decide (vk w = 1 ∨ vk w = 3))) (rest := []) dm_X9_joined_32 rfl (g_inv (As := []) (S := []) hq rfl rfl rfl (by omega)) rfl rfl rfl (c_ofSigns (by omega) hw) ?_
        refine y_zeq (c := decide (vk w = 1 ∨ vk w = 3)) (t := 103) (pc' := 38) dm_X9_joined_35 rfl rfl (fun hb21 => ?_) (fun hb21 => ?_)
        · replace hb21 := dF hb21
          exact pg_sub (L := [(0, .ref p), (1, .ref q)]) rfl rfl rfl (cut103 (by omega))
        · replace hb21 := dT hb21
          exact pg_sub (L := [(0, .ref p), (1, .ref q), (2, zz (decide (ofN v ∧ ofN w)))]) rfl rfl rfl (cut38 (by omega))
  refine me1 (pc' := 1) (L' := [(0, .ref p), (1, .ref q)]) (S' := [.ref p]) dm_X9_joined_0 rfl rfl rfl rfl ?_
  refine x_cp (pc' := 4) (v := zz (decide (vk v = 0 ∨ 2 ≤ vk v ∧ vk v ≤ 5 ∧ vk v ≠ 3))) (rest := []) dm_X9_joined_1 rfl (g_inv (As := []) (S := []) hp rfl rfl rfl (by omega)) rfl rfl rfl (c_ofNumbers (by omega) hv) ?_
  refine y_zeq (c := decide (vk v = 0 ∨ 2 ≤ vk v ∧ vk v ≤ 5 ∧ vk v ≠ 3)) (t := 18) (pc' := 7) dm_X9_joined_4 rfl rfl (fun hb22 => ?_) (fun hb22 => ?_)
  · replace hb22 := dF hb22
    refine me0 (pc' := 19) (S' := [ii 0]) dm_X9_joined_18 rfl rfl rfl rfl ?_
    refine pg_st0 (S' := [zz (decide (ofN v ∧ ofN w))]) (congrArg (fun z => z :: []) (zf (by omega))) ?_
    refine me1 (pc' := 20) (L' := [(2, zz (decide (ofN v ∧ ofN w))), (0, .ref p), (1, .ref q)]) (S' := []) dm_X9_joined_19 rfl rfl rfl rfl ?_
    exact pg_sub (L := [(0, .ref p), (1, .ref q), (2, zz (decide (ofN v ∧ ofN w)))]) rfl rfl rfl (cut20 )
  · replace hb22 := dT hb22
    refine me1 (pc' := 8) (L' := [(0, .ref p), (1, .ref q)]) (S' := [.ref q]) dm_X9_joined_7 rfl rfl rfl rfl ?_
    refine x_cp (pc' := 11) (v := zz (decide (vk w = 0 ∨ 2 ≤ vk w ∧ vk w ≤ 5 ∧ vk w ≠ 3))) (rest := []) dm_X9_joined_8 rfl (g_inv (As := []) (S := []) hq rfl rfl rfl (by omega)) rfl rfl rfl (c_ofNumbers (by omega) hw) ?_
    refine y_zeq (c := decide (vk w = 0 ∨ 2 ≤ vk w ∧ vk w ≤ 5 ∧ vk w ≠ 3)) (t := 18) (pc' := 14) dm_X9_joined_11 rfl rfl (fun hb23 => ?_) (fun hb23 => ?_)
    · replace hb23 := dF hb23
      refine me0 (pc' := 19) (S' := [ii 0]) dm_X9_joined_18 rfl rfl rfl rfl ?_
      refine pg_st0 (S' := [zz (decide (ofN v ∧ ofN w))]) (congrArg (fun z => z :: []) (zf (by omega))) ?_
      refine me1 (pc' := 20) (L' := [(2, zz (decide (ofN v ∧ ofN w))), (0, .ref p), (1, .ref q)]) (S' := []) dm_X9_joined_19 rfl rfl rfl rfl ?_
      exact pg_sub (L := [(0, .ref p), (1, .ref q), (2, zz (decide (ofN v ∧ ofN w)))]) rfl rfl rfl (cut20 )
    · replace hb23 := dT hb23
      refine me0 (pc' := 15) (S' := [ii 1]) dm_X9_joined_14 rfl rfl rfl rfl ?_
      refine me2 (pc' := 19) (S' := [ii 1]) dm_X9_joined_15 rfl rfl rfl ?_
      refine pg_st0 (S' := [zz (decide (ofN v ∧ ofN w))]) (congrArg (fun z => z :: []) (zt (by omega))) ?_
      refine me1 (pc' := 20) (L' := [(2, zz (decide (ofN v ∧ ofN w))), (0, .ref p), (1, .ref q)]) (S' := []) dm_X9_joined_19 rfl rfl rfl rfl ?_
      exact pg_sub (L := [(0, .ref p), (1, .ref q), (2, zz (decide (ofN v ∧ ofN w)))]) rfl rfl rfl (cut20 )
