theorem n_l2i (x : Int64) {a : Int} (h : x.toInt = a) : x.toInt32 = Int32.ofInt a := by
  subst h
  conv => lhs; rw [← Int64.ofInt_toInt x, Int64.toInt32_ofInt]
/-- , -/
def m_more (v : VV) : Nat ⊕ VV := if vk v ≤ 1 then .inr (vpick v (fun _ => 0) 1) else .inr (vnest 1 (fun _ => v))
/-- + -/
def m_flip (v : VV) : Nat ⊕ VV := if vk v = 6 then .inr (vtab (vc v) (vm v) (fun j => vn v (j % vm v * vc v + j / vm v))) else .inr v
theorem mul_inj {m a b r t : Nat} (hr : r < m) (ht : t < m) (h : a * m + r = b * m + t) : a = b ∧ r = t := by
  have h1 : (a * m + r) / m = a := by rw [Nat.mul_comm, Nat.mul_add_div (by omega), Nat.div_eq_of_lt hr, Nat.add_zero]
  have h2 : (b * m + t) / m = b := by rw [Nat.mul_comm, Nat.mul_add_div (by omega), Nat.div_eq_of_lt ht, Nat.add_zero]
  have h3 : a = b := by rw [← h1, ← h2, h]
  subst h3
  exact ⟨rfl, by omega⟩
theorem mul_lt {a b m n : Nat} (h : a < n) (h2 : b < m) : a * m + b < n * m := by
  have := Nat.mul_le_mul_right m h
  rw [Nat.succ_mul] at this
  omega
/-- one's value in a nest of it alone -/
theorem vres_one7 {A : Nat → Prop} {h : mj_H} {e p a b : Nat} {v : VV} (hl : 127 ≤ h.length) (he : e ≤ 20) (hv : cv A h e p v) (hs : vsz e v ≤ 29999) (ha : 2 ≤ a) (hb : 10 ≤ b) : vres A h (e + 1) (vnest 1 (fun _ => v)) a b (.ref (h.length + 1)) ((h ++ [cA 4 1 (fun _ => some p)]) ++ [cNest (.ref h.length) 0 1 ((1 + (0 + vsz e v) : Nat) : Int) ((1 + max 0 (vlv e v) : Nat) : Int)]) := vres_nest (n := 1) (g := fun _ => some p) (ch := fun _ => v) hl (by omega) he (by show 0 + vsz e v ≤ 29999; omega) (fun k hk => ⟨p, rfl, hv⟩) ha hb
set_option maxRecDepth 20000 in
theorem pm_X3_placesBelow : mj_mmof pg_ms 127 = some ((⟨"ArrayCalculator$OneAct", "placesBelow", "(LArrayCalculator$Value;)LArrayCalculator$Value;"⟩, prog_5_method_12_code, 3, (Option.some (Jvm.ClassFile.FieldType.object "ArrayCalculator$Value"))), 3, false, mj_dec prog_5_method_12_code) := rfl
theorem dm_X3_placesBelow_0 : mj_dec prog_5_method_12_code 0 = some (.aload_n 0, 1) := by decide +kernel
theorem dm_X3_placesBelow_1 : mj_dec prog_5_method_12_code 1 = some (.invokevirtual 139, 3) := by decide +kernel
theorem dm_X3_placesBelow_4 : mj_dec prog_5_method_12_code 4 = some (.ifCond .ne 8, 3) := by decide +kernel
theorem dm_X3_placesBelow_7 : mj_dec prog_5_method_12_code 7 = some (.iconst 3, 1) := by decide +kernel
theorem dm_X3_placesBelow_8 : mj_dec prog_5_method_12_code 8 = some (.invokestatic 68, 3) := by decide +kernel
theorem dm_X3_placesBelow_11 : mj_dec prog_5_method_12_code 11 = some (.areturn, 1) := by decide +kernel
theorem dm_X3_placesBelow_12 : mj_dec prog_5_method_12_code 12 = some (.aload_n 0, 1) := by decide +kernel
theorem dm_X3_placesBelow_13 : mj_dec prog_5_method_12_code 13 = some (.getfield 45, 3) := by decide +kernel
theorem dm_X3_placesBelow_16 : mj_dec prog_5_method_12_code 16 = some (.iconst 1, 1) := by decide +kernel
theorem dm_X3_placesBelow_17 : mj_dec prog_5_method_12_code 17 = some (.if_icmp .eq 23, 3) := by decide +kernel
theorem dm_X3_placesBelow_20 : mj_dec prog_5_method_12_code 20 = some (.aload_n 0, 1) := by decide +kernel
theorem dm_X3_placesBelow_21 : mj_dec prog_5_method_12_code 21 = some (.getfield 173, 3) := by decide +kernel
theorem dm_X3_placesBelow_24 : mj_dec prog_5_method_12_code 24 = some (.lconst 0, 1) := by decide +kernel
theorem dm_X3_placesBelow_25 : mj_dec prog_5_method_12_code 25 = some (.lcmp, 1) := by decide +kernel
theorem dm_X3_placesBelow_26 : mj_dec prog_5_method_12_code 26 = some (.ifCond .lt 14, 3) := by decide +kernel
theorem dm_X3_placesBelow_29 : mj_dec prog_5_method_12_code 29 = some (.aload_n 0, 1) := by decide +kernel
theorem dm_X3_placesBelow_30 : mj_dec prog_5_method_12_code 30 = some (.getfield 173, 3) := by decide +kernel
theorem dm_X3_placesBelow_33 : mj_dec prog_5_method_12_code 33 = some (.ldc2_w 177, 3) := by decide +kernel
theorem dm_X3_placesBelow_36 : mj_dec prog_5_method_12_code 36 = some (.lcmp, 1) := by decide +kernel
theorem dm_X3_placesBelow_37 : mj_dec prog_5_method_12_code 37 = some (.ifCond .le 8, 3) := by decide +kernel
theorem dm_X3_placesBelow_40 : mj_dec prog_5_method_12_code 40 = some (.iconst 5, 1) := by decide +kernel
theorem dm_X3_placesBelow_41 : mj_dec prog_5_method_12_code 41 = some (.invokestatic 68, 3) := by decide +kernel
theorem dm_X3_placesBelow_44 : mj_dec prog_5_method_12_code 44 = some (.areturn, 1) := by decide +kernel
theorem dm_X3_placesBelow_45 : mj_dec prog_5_method_12_code 45 = some (.aload_n 0, 1) := by decide +kernel
theorem dm_X3_placesBelow_46 : mj_dec prog_5_method_12_code 46 = some (.getfield 173, 3) := by decide +kernel
theorem dm_X3_placesBelow_49 : mj_dec prog_5_method_12_code 49 = some (.l2i, 1) := by decide +kernel
theorem dm_X3_placesBelow_50 : mj_dec prog_5_method_12_code 50 = some (.newarray .long, 2) := by decide +kernel
theorem dm_X3_placesBelow_52 : mj_dec prog_5_method_12_code 52 = some (.astore_n 1, 1) := by decide +kernel
theorem dm_X3_placesBelow_53 : mj_dec prog_5_method_12_code 53 = some (.iconst 0, 1) := by decide +kernel
theorem dm_X3_placesBelow_54 : mj_dec prog_5_method_12_code 54 = some (.istore_n 2, 1) := by decide +kernel
theorem dm_X3_placesBelow_55 : mj_dec prog_5_method_12_code 55 = some (.iload_n 2, 1) := by decide +kernel
theorem dm_X3_placesBelow_56 : mj_dec prog_5_method_12_code 56 = some (.aload_n 1, 1) := by decide +kernel
theorem dm_X3_placesBelow_57 : mj_dec prog_5_method_12_code 57 = some (.arraylength, 1) := by decide +kernel
theorem dm_X3_placesBelow_58 : mj_dec prog_5_method_12_code 58 = some (.if_icmp .ge 14, 3) := by decide +kernel
theorem dm_X3_placesBelow_61 : mj_dec prog_5_method_12_code 61 = some (.aload_n 1, 1) := by decide +kernel
theorem dm_X3_placesBelow_62 : mj_dec prog_5_method_12_code 62 = some (.iload_n 2, 1) := by decide +kernel
theorem dm_X3_placesBelow_63 : mj_dec prog_5_method_12_code 63 = some (.iload_n 2, 1) := by decide +kernel
theorem dm_X3_placesBelow_64 : mj_dec prog_5_method_12_code 64 = some (.i2l, 1) := by decide +kernel
theorem dm_X3_placesBelow_65 : mj_dec prog_5_method_12_code 65 = some (.lastore, 1) := by decide +kernel
theorem dm_X3_placesBelow_66 : mj_dec prog_5_method_12_code 66 = some (.iinc 2 1, 3) := by decide +kernel
theorem dm_X3_placesBelow_69 : mj_dec prog_5_method_12_code 69 = some (.goto (-14), 3) := by decide +kernel
theorem dm_X3_placesBelow_72 : mj_dec prog_5_method_12_code 72 = some (.iconst 4, 1) := by decide +kernel
theorem dm_X3_placesBelow_73 : mj_dec prog_5_method_12_code 73 = some (.aload_n 1, 1) := by decide +kernel
theorem dm_X3_placesBelow_74 : mj_dec prog_5_method_12_code 74 = some (.invokestatic 153, 3) := by decide +kernel
theorem dm_X3_placesBelow_77 : mj_dec prog_5_method_12_code 77 = some (.areturn, 1) := by decide +kernel
theorem o_placesBelow {xt : mj_X} {d e p : Nat} {A : Nat → Prop} {h : mj_H} {v : VV} {f1 : Nat → Value} (hx1 : xt 1 = some (.long, 0, f1)) (hd : 8 ≤ d) (hl : 127 ≤ h.length) (hA : okA A h) (hH : actH h) (hv : cv A h (e + 1) p v) (he : e ≤ 20) (hset : vsz (e + 1) v ≤ 1000) : pgV xt d 127 [.ref p] h (aact A h (e + 1) (m_upto v) 2 (min 120 (vn v 0).toInt.toNat + 9)) := by
  have h17 := hH.1
  obtain ⟨pf0, h18⟩ := hH.2.1
  obtain ⟨nf0, h19⟩ := hH.2.2.1
  have hcv := vw1_c hv.1
  obtain ⟨row, fr, vals, hp, hp2, hpA, hvk, hvm, hvc, hvs, hvl⟩ := cv_val hv
  have hpb := hA p hpA
  have h0 : (Int64.ofInt 0).toInt = 0 := by decide
  have h120 : (Int64.ofInt 120).toInt = 120 := by decide
  have hvn0 : vk v ≤ 1 → vn v 0 = cnum v := fun z => by unfold cnum; rw [if_pos z]
  refine x_enter pm_X3_placesBelow (L0 := [(0, .ref p)]) rfl (Nat.le_of_ble_eq_true rfl) (by omega) ?_
  refine me1 (pc' := 1) (L' := [(0, .ref p)]) (S' := [.ref p]) dm_X3_placesBelow_0 rfl rfl rfl rfl ?_
  refine x_cp (pc' := 4) (v := zz (decide (vk v ≤ 1))) (rest := []) dm_X3_placesBelow_1 rfl (g_inv (As := []) (S := []) hp rfl rfl rfl (by omega)) rfl rfl rfl (c_isOne (by omega) hv) ?_
  refine y_zne (c := decide (vk v ≤ 1)) (t := 12) (pc' := 7) dm_X3_placesBelow_4 rfl rfl (fun hb1 => ?_) (fun hb1 => ?_)
  · replace hb1 := dT hb1
    refine me1 (pc' := 13) (L' := [(0, .ref p)]) (S' := [.ref p]) dm_X3_placesBelow_12 rfl rfl rfl rfl ?_
    refine me3 (pc' := 16) (S' := [ii (vk v : Int)]) dm_X3_placesBelow_13 (g_get (v := ii (vk v : Int)) hp rfl rfl (by omega)) rfl rfl rfl ?_
    refine me0 (pc' := 17) (S' := [ii 1, ii (vk v : Int)]) dm_X3_placesBelow_16 rfl rfl rfl rfl ?_
    refine y_2eq (a := (vk v : Int)) (b := 1) (t := 40) (pc' := 20) dm_X3_placesBelow_17 rfl rfl (by omega) (fun hb2 => ?_) (fun hb2 => ?_)
    · refine me0 (pc' := 41) (S' := [ii 5]) dm_X3_placesBelow_40 rfl rfl rfl rfl ?_
      refine x_cv (pc' := 44) (rest := []) dm_X3_placesBelow_41 rfl (g_invs (As := [ii 5]) (S := []) rfl rfl rfl) rfl rfl rfl (c_fault (q := h.length) (by omega) (by omega) rfl (by omega)) ?_
      rintro _ _ ⟨rfl, rfl⟩
      refine y_ret (r := some (.ref h.length)) dm_X3_placesBelow_44 rfl rfl rfl ?_
      exact ⟨_, rfl, h, scrS_rf h, hH, by rw [show m_upto v = .inl 5 by unfold m_upto; rw [if_neg (by omega), if_pos (by rw [hvn0 (by omega)]; rw [h0, h120] at *; omega)]]; exact ares_f 5 (by omega) (by omega) (by first | omega | exact Nat.le_refl _)⟩
    · refine me1 (pc' := 21) (L' := [(0, .ref p)]) (S' := [.ref p]) dm_X3_placesBelow_20 rfl rfl rfl rfl ?_
      refine me3 (pc' := 24) (S' := [.long (cnum v)]) dm_X3_placesBelow_21 (g_get (v := .long (cnum v)) hp rfl rfl (by omega)) rfl rfl rfl ?_
      refine me0 (pc' := 25) (S' := [.long (Int64.ofInt 0), .long (cnum v)]) dm_X3_placesBelow_24 rfl rfl rfl rfl ?_
      refine y_llt (x := cnum v) (y := Int64.ofInt 0) (t := 40) (pc1 := 26) (pc' := 29) dm_X3_placesBelow_25 rfl dm_X3_placesBelow_26 rfl rfl (fun hb3 => ?_) (fun hb3 => ?_)
      · refine me0 (pc' := 41) (S' := [ii 5]) dm_X3_placesBelow_40 rfl rfl rfl rfl ?_
        refine x_cv (pc' := 44) (rest := []) dm_X3_placesBelow_41 rfl (g_invs (As := [ii 5]) (S := []) rfl rfl rfl) rfl rfl rfl (c_fault (q := h.length) (by omega) (by omega) rfl (by omega)) ?_
        rintro _ _ ⟨rfl, rfl⟩
        refine y_ret (r := some (.ref h.length)) dm_X3_placesBelow_44 rfl rfl rfl ?_
        exact ⟨_, rfl, h, scrS_rf h, hH, by rw [show m_upto v = .inl 5 by unfold m_upto; rw [if_neg (by omega), if_pos (by rw [hvn0 (by omega)]; rw [h0, h120] at *; omega)]]; exact ares_f 5 (by omega) (by omega) (by first | omega | exact Nat.le_refl _)⟩
      · refine me1 (pc' := 30) (L' := [(0, .ref p)]) (S' := [.ref p]) dm_X3_placesBelow_29 rfl rfl rfl rfl ?_
        refine me3 (pc' := 33) (S' := [.long (cnum v)]) dm_X3_placesBelow_30 (g_get (v := .long (cnum v)) hp rfl rfl (by omega)) rfl rfl rfl ?_
        refine me3 (pc' := 36) (S' := [.long (Int64.ofInt 120), .long (cnum v)]) dm_X3_placesBelow_33 rfl rfl rfl rfl ?_
        refine y_lle (x := cnum v) (y := Int64.ofInt 120) (t := 45) (pc1 := 37) (pc' := 40) dm_X3_placesBelow_36 rfl dm_X3_placesBelow_37 rfl rfl (fun hb4 => ?_) (fun hb4 => ?_)
        · refine me1 (pc' := 46) (L' := [(0, .ref p)]) (S' := [.ref p]) dm_X3_placesBelow_45 rfl rfl rfl rfl ?_
          refine me3 (pc' := 49) (S' := [.long (cnum v)]) dm_X3_placesBelow_46 (g_get (v := .long (cnum v)) hp rfl rfl (by omega)) rfl rfl rfl ?_
          have hvn : vn v 0 = cnum v := hvn0 (by omega)
          obtain ⟨n, hn⟩ : ∃ n : Nat, (cnum v).toInt = (n : Int) := ⟨_, (Int.toNat_of_nonneg (by rw [h0] at *; omega)).symm⟩
          have hn120 : n ≤ 120 := by have hn9 := hn; rw [h120] at *; omega
          refine y_l2i (a := (n : Int)) dm_X3_placesBelow_49 (pc' := 50) rfl (n_l2i _ hn) ?_
          refine me3 (pc' := 52) (S' := [.ref h.length]) (h1 := h ++ [cJ n (fun _ => 0)]) dm_X3_placesBelow_50 (yh_newJ (by omega) (by omega) (by omega) rfl) rfl rfl rfl ?_
          refine me1 (pc' := 53) (L' := [(1, .ref h.length), (0, .ref p)]) (S' := []) dm_X3_placesBelow_52 rfl rfl rfl rfl ?_
          refine me0 (pc' := 54) (S' := [ii 0]) dm_X3_placesBelow_53 rfl rfl rfl rfl ?_
          refine me1 (pc' := 55) (L' := [(2, ii 0), (1, .ref h.length), (0, .ref p)]) (S' := []) dm_X3_placesBelow_54 rfl rfl rfl rfl ?_
          have lp55 : ∀ (n55 : Nat) (k : Nat), n - k = n55 → (k ≤ n) → pgE xt (d - 1) 3 3 false (Option.some (Jvm.ClassFile.FieldType.object "ArrayCalculator$Value")) (mj_dec prog_5_method_12_code) 55 [(0, .ref p), (1, .ref h.length), (2, ii (k : Int))] [] (h ++ [cJ n (fl k (fun k : Nat => Int64.ofInt (k : Int)) (fun _ => 0))]) (fun r h' => ∃ x, r = some x ∧ aact A h (e + 1) (m_upto v) 2 (min 120 (vn v 0).toInt.toNat + 9) x h') := by
            intro n55
            induction n55 using Nat.strongRecOn with
            | ind n55 ih55 =>
              intro k hm55 hk
              refine me1 (pc' := 56) (L' := [(0, .ref p), (1, .ref h.length), (2, ii (k : Int))]) (S' := [ii (k : Int)]) dm_X3_placesBelow_55 rfl rfl rfl rfl ?_
              refine me1 (pc' := 57) (L' := [(0, .ref p), (1, .ref h.length), (2, ii (k : Int))]) (S' := [.ref h.length, ii (k : Int)]) dm_X3_placesBelow_56 rfl rfl rfl rfl ?_
              refine me3 (pc' := 58) (S' := [ii n, ii (k : Int)]) dm_X3_placesBelow_57 (yh_len (n := n) rfl hl_new (by omega)) rfl rfl rfl ?_
              refine y_2ge (a := (k : Int)) (b := n) (t := 72) (pc' := 61) dm_X3_placesBelow_58 rfl rfl (by omega) (fun hb5 => ?_) (fun hb5 => ?_)
              · refine me0 (pc' := 73) (S' := [ii 4]) dm_X3_placesBelow_72 rfl rfl rfl rfl ?_
                refine me1 (pc' := 74) (L' := [(0, .ref p), (1, .ref h.length), (2, ii (k : Int))]) (S' := [.ref h.length, ii 4]) dm_X3_placesBelow_73 rfl rfl rfl rfl ?_
                refine x_cv (pc' := 77) (rest := []) dm_X3_placesBelow_74 rfl (g_invs (As := [ii 4, .ref h.length]) (S := []) rfl rfl rfl) rfl rfl rfl (c_row (hx1 := hx1) (q := h.length + 1) (by omega) (by simp; omega) (by simp) (by omega) (show rowAt (fun _ => True) _ _ _ _ from Or.inr ⟨by omega, hl_new, by omega, trivial⟩) (by omega)) ?_
                rintro _ _ ⟨rfl, rfl⟩
                refine y_ret (r := some (.ref (h.length + 1))) dm_X3_placesBelow_77 rfl rfl rfl ?_
                have hkn : k = n := by omega
                subst hkn
                refine ⟨_, rfl, h, scrS_rf h, hH, ?_⟩
                have hsp : m_upto v = .inr (vrow 4 k (fun k : Nat => Int64.ofInt (k : Int))) := by unfold m_upto; rw [if_neg (by omega), if_neg (by rw [hvn, hn]; omega), hvn, hn]; rfl
                have hmn : (vn v 0).toInt.toNat = k := by rw [hvn, hn]; omega
                rw [hsp]
                exact vres_flat (w := vrow 4 k (fun k : Nat => Int64.ofInt (k : Int))) (by omega) (vw1_row (by omega) (by omega) hn120) (by show 2 ≤ 4; omega) (by show 4 ≤ 6; omega) (vq_row (by omega)) (fun j hj => fl_at _ _ hj) (by omega) (by omega)
              · refine me1 (pc' := 62) (L' := [(0, .ref p), (1, .ref h.length), (2, ii (k : Int))]) (S' := [.ref h.length]) dm_X3_placesBelow_61 rfl rfl rfl rfl ?_
                refine me1 (pc' := 63) (L' := [(0, .ref p), (1, .ref h.length), (2, ii (k : Int))]) (S' := [ii (k : Int), .ref h.length]) dm_X3_placesBelow_62 rfl rfl rfl rfl ?_
                refine me1 (pc' := 64) (L' := [(0, .ref p), (1, .ref h.length), (2, ii (k : Int))]) (S' := [ii (k : Int), ii (k : Int), .ref h.length]) dm_X3_placesBelow_63 rfl rfl rfl rfl ?_
                refine y_i2l (a := (k : Int)) dm_X3_placesBelow_64 (pc' := 65) rfl (by omega) (by omega) ?_
                refine me3 (pc' := 66) (S' := []) (h1 := h ++ [cJ n (va_up (fl k (fun k : Nat => Int64.ofInt (k : Int)) (fun _ => 0)) k (Int64.ofInt (k : Int)))]) dm_X3_placesBelow_65 (y_hs (yh_last (j := (k : Int)) hl_new (by omega) (by omega) (by omega) (by omega)) (by rw [show (k : Int).toNat = k from rfl]; exact (hl_setl))) rfl rfl rfl ?_
                refine y_iinc (pc' := 69) (L' := [(2, ii ((k : Int) + 1)), (0, .ref p), (1, .ref h.length)]) dm_X3_placesBelow_66 (y_incp (a := (k : Int)) (c := 1) rfl rfl (by decide)) rfl ?_
                refine me2 (pc' := 55) (S' := []) dm_X3_placesBelow_69 rfl rfl rfl ?_
                refine pg_cast (h2 := h ++ [cJ n (fl (k + 1) (fun k : Nat => Int64.ofInt (k : Int)) (fun _ => 0))]) (congrArg (fun z => h ++ [cJ n z]) (fl_s k (fun k : Nat => Int64.ofInt (k : Int)) (fun _ => 0))) ?_
                exact pg_sub (L := [(0, .ref p), (1, .ref h.length), (2, ii ((k + 1) : Int))]) rfl rfl rfl (ih55 (n - (k + 1)) (by omega) (k + 1) rfl (by omega))
          refine pg_cast (h2 := h ++ [cJ n (fl 0 (fun k : Nat => Int64.ofInt (k : Int)) (fun _ => 0))]) (congrArg (fun z => h ++ [cJ n z]) (fl_0 _ _).symm) ?_
          exact pg_sub (L := [(0, .ref p), (1, .ref h.length), (2, ii (0 : Int))]) rfl rfl rfl (lp55 _ 0 rfl (Nat.zero_le _))
        · refine me0 (pc' := 41) (S' := [ii 5]) dm_X3_placesBelow_40 rfl rfl rfl rfl ?_
          refine x_cv (pc' := 44) (rest := []) dm_X3_placesBelow_41 rfl (g_invs (As := [ii 5]) (S := []) rfl rfl rfl) rfl rfl rfl (c_fault (q := h.length) (by omega) (by omega) rfl (by omega)) ?_
          rintro _ _ ⟨rfl, rfl⟩
          refine y_ret (r := some (.ref h.length)) dm_X3_placesBelow_44 rfl rfl rfl ?_
          exact ⟨_, rfl, h, scrS_rf h, hH, by rw [show m_upto v = .inl 5 by unfold m_upto; rw [if_neg (by omega), if_pos (by rw [hvn0 (by omega)]; rw [h0, h120] at *; omega)]]; exact ares_f 5 (by omega) (by omega) (by first | omega | exact Nat.le_refl _)⟩
  · replace hb1 := dF hb1
    refine me0 (pc' := 8) (S' := [ii 3]) dm_X3_placesBelow_7 rfl rfl rfl rfl ?_
    refine x_cv (pc' := 11) (rest := []) dm_X3_placesBelow_8 rfl (g_invs (As := [ii 3]) (S := []) rfl rfl rfl) rfl rfl rfl (c_fault (q := h.length) (by omega) (by omega) rfl (by omega)) ?_
    rintro _ _ ⟨rfl, rfl⟩
    refine y_ret (r := some (.ref h.length)) dm_X3_placesBelow_11 rfl rfl rfl ?_
    exact ⟨_, rfl, h, scrS_rf h, hH, by rw [show m_upto v = .inl 3 by unfold m_upto; rw [if_pos (by omega)]]; exact ares_f 3 (by omega) (by omega) (by first | omega | exact Nat.le_refl _)⟩
set_option maxRecDepth 20000 in
theorem pm_X3_shape : mj_mmof pg_ms 132 = some ((⟨"ArrayCalculator$OneAct", "shape", "(LArrayCalculator$Value;)LArrayCalculator$Value;"⟩, prog_5_method_17_code, 2, (Option.some (Jvm.ClassFile.FieldType.object "ArrayCalculator$Value"))), 3, false, mj_dec prog_5_method_17_code) := rfl
theorem dm_X3_shape_0 : mj_dec prog_5_method_17_code 0 = some (.aload_n 0, 1) := by decide +kernel
theorem dm_X3_shape_1 : mj_dec prog_5_method_17_code 1 = some (.invokevirtual 139, 3) := by decide +kernel
theorem dm_X3_shape_4 : mj_dec prog_5_method_17_code 4 = some (.ifCond .eq 11, 3) := by decide +kernel
theorem dm_X3_shape_7 : mj_dec prog_5_method_17_code 7 = some (.iconst 4, 1) := by decide +kernel
theorem dm_X3_shape_8 : mj_dec prog_5_method_17_code 8 = some (.getstatic 202, 3) := by decide +kernel
theorem dm_X3_shape_11 : mj_dec prog_5_method_17_code 11 = some (.invokestatic 153, 3) := by decide +kernel
theorem dm_X3_shape_14 : mj_dec prog_5_method_17_code 14 = some (.areturn, 1) := by decide +kernel
theorem dm_X3_shape_15 : mj_dec prog_5_method_17_code 15 = some (.aload_n 0, 1) := by decide +kernel
theorem dm_X3_shape_16 : mj_dec prog_5_method_17_code 16 = some (.getfield 45, 3) := by decide +kernel
theorem dm_X3_shape_19 : mj_dec prog_5_method_17_code 19 = some (.bipush 6, 2) := by decide +kernel
theorem dm_X3_shape_21 : mj_dec prog_5_method_17_code 21 = some (.if_icmp .ne 29, 3) := by decide +kernel
theorem dm_X3_shape_24 : mj_dec prog_5_method_17_code 24 = some (.iconst 2, 1) := by decide +kernel
theorem dm_X3_shape_25 : mj_dec prog_5_method_17_code 25 = some (.newarray .long, 2) := by decide +kernel
theorem dm_X3_shape_27 : mj_dec prog_5_method_17_code 27 = some (.dup, 1) := by decide +kernel
theorem dm_X3_shape_28 : mj_dec prog_5_method_17_code 28 = some (.iconst 0, 1) := by decide +kernel
theorem dm_X3_shape_29 : mj_dec prog_5_method_17_code 29 = some (.aload_n 0, 1) := by decide +kernel
theorem dm_X3_shape_30 : mj_dec prog_5_method_17_code 30 = some (.getfield 76, 3) := by decide +kernel
theorem dm_X3_shape_33 : mj_dec prog_5_method_17_code 33 = some (.i2l, 1) := by decide +kernel
theorem dm_X3_shape_34 : mj_dec prog_5_method_17_code 34 = some (.lastore, 1) := by decide +kernel
theorem dm_X3_shape_35 : mj_dec prog_5_method_17_code 35 = some (.dup, 1) := by decide +kernel
theorem dm_X3_shape_36 : mj_dec prog_5_method_17_code 36 = some (.iconst 1, 1) := by decide +kernel
theorem dm_X3_shape_37 : mj_dec prog_5_method_17_code 37 = some (.aload_n 0, 1) := by decide +kernel
theorem dm_X3_shape_38 : mj_dec prog_5_method_17_code 38 = some (.getfield 115, 3) := by decide +kernel
theorem dm_X3_shape_41 : mj_dec prog_5_method_17_code 41 = some (.i2l, 1) := by decide +kernel
theorem dm_X3_shape_42 : mj_dec prog_5_method_17_code 42 = some (.lastore, 1) := by decide +kernel
theorem dm_X3_shape_43 : mj_dec prog_5_method_17_code 43 = some (.astore_n 1, 1) := by decide +kernel
theorem dm_X3_shape_44 : mj_dec prog_5_method_17_code 44 = some (.iconst 4, 1) := by decide +kernel
theorem dm_X3_shape_45 : mj_dec prog_5_method_17_code 45 = some (.aload_n 1, 1) := by decide +kernel
theorem dm_X3_shape_46 : mj_dec prog_5_method_17_code 46 = some (.invokestatic 153, 3) := by decide +kernel
theorem dm_X3_shape_49 : mj_dec prog_5_method_17_code 49 = some (.areturn, 1) := by decide +kernel
theorem dm_X3_shape_50 : mj_dec prog_5_method_17_code 50 = some (.iconst 1, 1) := by decide +kernel
theorem dm_X3_shape_51 : mj_dec prog_5_method_17_code 51 = some (.newarray .long, 2) := by decide +kernel
theorem dm_X3_shape_53 : mj_dec prog_5_method_17_code 53 = some (.dup, 1) := by decide +kernel
theorem dm_X3_shape_54 : mj_dec prog_5_method_17_code 54 = some (.iconst 0, 1) := by decide +kernel
theorem dm_X3_shape_55 : mj_dec prog_5_method_17_code 55 = some (.aload_n 0, 1) := by decide +kernel
theorem dm_X3_shape_56 : mj_dec prog_5_method_17_code 56 = some (.getfield 76, 3) := by decide +kernel
theorem dm_X3_shape_59 : mj_dec prog_5_method_17_code 59 = some (.i2l, 1) := by decide +kernel
theorem dm_X3_shape_60 : mj_dec prog_5_method_17_code 60 = some (.lastore, 1) := by decide +kernel
theorem dm_X3_shape_61 : mj_dec prog_5_method_17_code 61 = some (.astore_n 1, 1) := by decide +kernel
theorem dm_X3_shape_62 : mj_dec prog_5_method_17_code 62 = some (.iconst 4, 1) := by decide +kernel
theorem dm_X3_shape_63 : mj_dec prog_5_method_17_code 63 = some (.aload_n 1, 1) := by decide +kernel
theorem dm_X3_shape_64 : mj_dec prog_5_method_17_code 64 = some (.invokestatic 153, 3) := by decide +kernel
theorem dm_X3_shape_67 : mj_dec prog_5_method_17_code 67 = some (.areturn, 1) := by decide +kernel
theorem o_shape {xt : mj_X} {d e p : Nat} {A : Nat → Prop} {h : mj_H} {v : VV} {f1 : Nat → Value} (hx1 : xt 1 = some (.long, 0, f1)) (hd : 8 ≤ d) (hl : 127 ≤ h.length) (hA : okA A h) (hH : actH h) (hv : cv A h (e + 1) p v) (he : e ≤ 20) (hset : vsz (e + 1) v ≤ 1000) : pgV xt d 132 [.ref p] h (aact A h (e + 1) (m_shape v) 2 11) := by
  have h17 := hH.1
  obtain ⟨pf0, h18⟩ := hH.2.1
  obtain ⟨nf0, h19⟩ := hH.2.2.1
  have hcv := vw1_c hv.1
  obtain ⟨row, fr, vals, hp, hp2, hpA, hvk, hvm, hvc, hvs, hvl⟩ := cv_val hv
  have hpb := hA p hpA
  refine x_enter pm_X3_shape (L0 := [(0, .ref p)]) rfl (Nat.le_of_ble_eq_true rfl) (by omega) ?_
  refine me1 (pc' := 1) (L' := [(0, .ref p)]) (S' := [.ref p]) dm_X3_shape_0 rfl rfl rfl rfl ?_
  refine x_cp (pc' := 4) (v := zz (decide (vk v ≤ 1))) (rest := []) dm_X3_shape_1 rfl (g_inv (As := []) (S := []) hp rfl rfl rfl (by omega)) rfl rfl rfl (c_isOne (by omega) hv) ?_
  refine y_zeq (c := decide (vk v ≤ 1)) (t := 15) (pc' := 7) dm_X3_shape_4 rfl rfl (fun hb1 => ?_) (fun hb1 => ?_)
  · replace hb1 := dF hb1
    refine me1 (pc' := 16) (L' := [(0, .ref p)]) (S' := [.ref p]) dm_X3_shape_15 rfl rfl rfl rfl ?_
    refine me3 (pc' := 19) (S' := [ii (vk v : Int)]) dm_X3_shape_16 (g_get (v := ii (vk v : Int)) hp rfl rfl (by omega)) rfl rfl rfl ?_
    refine me0 (pc' := 21) (S' := [ii 6, ii (vk v : Int)]) dm_X3_shape_19 rfl rfl rfl rfl ?_
    refine y_2ne (a := (vk v : Int)) (b := 6) (t := 50) (pc' := 24) dm_X3_shape_21 rfl rfl (by omega) (fun hb2 => ?_) (fun hb2 => ?_)
    · refine me0 (pc' := 51) (S' := [ii 1]) dm_X3_shape_50 rfl rfl rfl rfl ?_
      refine me3 (pc' := 53) (S' := [.ref h.length]) (h1 := h ++ [cJ 1 (fun _ => 0)]) dm_X3_shape_51 (yh_newJ (by omega) (by omega) (by omega) rfl) rfl rfl rfl ?_
      refine me0 (pc' := 54) (S' := [.ref h.length, .ref h.length]) dm_X3_shape_53 rfl rfl rfl rfl ?_
      refine me0 (pc' := 55) (S' := [ii 0, .ref h.length, .ref h.length]) dm_X3_shape_54 rfl rfl rfl rfl ?_
      refine me1 (pc' := 56) (L' := [(0, .ref p)]) (S' := [.ref p, ii 0, .ref h.length, .ref h.length]) dm_X3_shape_55 rfl rfl rfl rfl ?_
      refine me3 (pc' := 59) (S' := [ii (vm v : Int), ii 0, .ref h.length, .ref h.length]) dm_X3_shape_56 (g_get (v := ii (vm v : Int)) (hl_app hp) rfl rfl (by omega)) rfl rfl rfl ?_
      refine y_i2l (a := (vm v : Int)) dm_X3_shape_59 (pc' := 60) rfl (by omega) (by omega) ?_
      refine me3 (pc' := 61) (S' := [.ref h.length]) (h1 := h ++ [cJ 1 (va_up (fun _ => 0) 0 (Int64.ofInt (vm v : Int)))]) dm_X3_shape_60 (y_hs (yh_last (j := 0) hl_new (by omega) (by omega) (by omega) (by omega)) (by rw [show (0 : Int).toNat = 0 from rfl]; exact (hl_setl))) rfl rfl rfl ?_
      refine me1 (pc' := 62) (L' := [(1, .ref h.length), (0, .ref p)]) (S' := []) dm_X3_shape_61 rfl rfl rfl rfl ?_
      refine me0 (pc' := 63) (S' := [ii 4]) dm_X3_shape_62 rfl rfl rfl rfl ?_
      refine me1 (pc' := 64) (L' := [(1, .ref h.length), (0, .ref p)]) (S' := [.ref h.length, ii 4]) dm_X3_shape_63 rfl rfl rfl rfl ?_
      refine x_cv (pc' := 67) (rest := []) dm_X3_shape_64 rfl (g_invs (As := [ii 4, .ref h.length]) (S := []) rfl rfl rfl) rfl rfl rfl (c_row (hx1 := hx1) (q := h.length + 1) (by omega) (by simp; omega) (by simp) (by omega) (show rowAt (fun _ => True) _ _ _ _ from Or.inr ⟨by omega, hl_new, by omega, trivial⟩) (by omega)) ?_
      rintro _ _ ⟨rfl, rfl⟩
      refine y_ret (r := some (.ref (h.length + 1))) dm_X3_shape_67 rfl rfl rfl ?_
      refine ⟨_, rfl, h, scrS_rf h, hH, ?_⟩
      unfold m_shape
      rw [if_neg (by omega), if_neg (by omega)]
      refine vres_flat (w := vrow 4 1 (fun k : Nat => Int64.ofInt (if k = 0 then (vm v : Int) else (vc v : Int)))) (by omega) (vw1_row (by omega) (by omega) (by omega)) (by show 2 ≤ 4; omega) (by show 4 ≤ 6; omega) (vq_row (by omega)) (fun k hk => ?_) (by omega) (by omega)
      show va_up _ _ _ k = Int64.ofInt (if k = 0 then (vm v : Int) else (vc v : Int))
      unfold va_up
      rcases (show k = 0 by omega) with rfl; rfl
    · refine me0 (pc' := 25) (S' := [ii 2]) dm_X3_shape_24 rfl rfl rfl rfl ?_
      refine me3 (pc' := 27) (S' := [.ref h.length]) (h1 := h ++ [cJ 2 (fun _ => 0)]) dm_X3_shape_25 (yh_newJ (by omega) (by omega) (by omega) rfl) rfl rfl rfl ?_
      refine me0 (pc' := 28) (S' := [.ref h.length, .ref h.length]) dm_X3_shape_27 rfl rfl rfl rfl ?_
      refine me0 (pc' := 29) (S' := [ii 0, .ref h.length, .ref h.length]) dm_X3_shape_28 rfl rfl rfl rfl ?_
      refine me1 (pc' := 30) (L' := [(0, .ref p)]) (S' := [.ref p, ii 0, .ref h.length, .ref h.length]) dm_X3_shape_29 rfl rfl rfl rfl ?_
      refine me3 (pc' := 33) (S' := [ii (vm v : Int), ii 0, .ref h.length, .ref h.length]) dm_X3_shape_30 (g_get (v := ii (vm v : Int)) (hl_app hp) rfl rfl (by omega)) rfl rfl rfl ?_
      refine y_i2l (a := (vm v : Int)) dm_X3_shape_33 (pc' := 34) rfl (by omega) (by omega) ?_
      refine me3 (pc' := 35) (S' := [.ref h.length]) (h1 := h ++ [cJ 2 (va_up (fun _ => 0) 0 (Int64.ofInt (vm v : Int)))]) dm_X3_shape_34 (y_hs (yh_last (j := 0) hl_new (by omega) (by omega) (by omega) (by omega)) (by rw [show (0 : Int).toNat = 0 from rfl]; exact (hl_setl))) rfl rfl rfl ?_
      refine me0 (pc' := 36) (S' := [.ref h.length, .ref h.length]) dm_X3_shape_35 rfl rfl rfl rfl ?_
      refine me0 (pc' := 37) (S' := [ii 1, .ref h.length, .ref h.length]) dm_X3_shape_36 rfl rfl rfl rfl ?_
      refine me1 (pc' := 38) (L' := [(0, .ref p)]) (S' := [.ref p, ii 1, .ref h.length, .ref h.length]) dm_X3_shape_37 rfl rfl rfl rfl ?_
      refine me3 (pc' := 41) (S' := [ii (vc v : Int), ii 1, .ref h.length, .ref h.length]) dm_X3_shape_38 (g_get (v := ii (vc v : Int)) (hl_app hp) rfl rfl (by omega)) rfl rfl rfl ?_
      refine y_i2l (a := (vc v : Int)) dm_X3_shape_41 (pc' := 42) rfl (by omega) (by omega) ?_
      refine me3 (pc' := 43) (S' := [.ref h.length]) (h1 := h ++ [cJ 2 (va_up (va_up (fun _ => 0) 0 (Int64.ofInt (vm v : Int))) 1 (Int64.ofInt (vc v : Int)))]) dm_X3_shape_42 (y_hs (yh_last (j := 1) hl_new (by omega) (by omega) (by omega) (by omega)) (by rw [show (1 : Int).toNat = 1 from rfl]; exact (hl_setl))) rfl rfl rfl ?_
      refine me1 (pc' := 44) (L' := [(1, .ref h.length), (0, .ref p)]) (S' := []) dm_X3_shape_43 rfl rfl rfl rfl ?_
      refine me0 (pc' := 45) (S' := [ii 4]) dm_X3_shape_44 rfl rfl rfl rfl ?_
      refine me1 (pc' := 46) (L' := [(1, .ref h.length), (0, .ref p)]) (S' := [.ref h.length, ii 4]) dm_X3_shape_45 rfl rfl rfl rfl ?_
      refine x_cv (pc' := 49) (rest := []) dm_X3_shape_46 rfl (g_invs (As := [ii 4, .ref h.length]) (S := []) rfl rfl rfl) rfl rfl rfl (c_row (hx1 := hx1) (q := h.length + 1) (by omega) (by simp; omega) (by simp) (by omega) (show rowAt (fun _ => True) _ _ _ _ from Or.inr ⟨by omega, hl_new, by omega, trivial⟩) (by omega)) ?_
      rintro _ _ ⟨rfl, rfl⟩
      refine y_ret (r := some (.ref (h.length + 1))) dm_X3_shape_49 rfl rfl rfl ?_
      refine ⟨_, rfl, h, scrS_rf h, hH, ?_⟩
      unfold m_shape
      rw [if_neg (by omega), if_pos (by omega)]
      refine vres_flat (w := vrow 4 2 (fun k : Nat => Int64.ofInt (if k = 0 then (vm v : Int) else (vc v : Int)))) (by omega) (vw1_row (by omega) (by omega) (by omega)) (by show 2 ≤ 4; omega) (by show 4 ≤ 6; omega) (vq_row (by omega)) (fun k hk => ?_) (by omega) (by omega)
      show va_up _ _ _ k = Int64.ofInt (if k = 0 then (vm v : Int) else (vc v : Int))
      unfold va_up
      rcases (show k = 0 ∨ k = 1 by omega) with rfl | rfl <;> rfl
  · replace hb1 := dT hb1
    refine me0 (pc' := 8) (S' := [ii 4]) dm_X3_shape_7 rfl rfl rfl rfl ?_
    refine me3 (pc' := 11) (S' := [.ref 1, ii 4]) dm_X3_shape_8 rfl rfl rfl rfl ?_
    refine x_cv (pc' := 14) (rest := []) dm_X3_shape_11 rfl (g_invs (As := [ii 4, .ref 1]) (S := []) rfl rfl rfl) rfl rfl rfl (c_row (hx1 := hx1) (q := h.length) (by omega) (by omega) rfl (by omega) (show rowAt (fun _ => True) h 1 0 (fun _ => 0) from Or.inl ⟨rfl, rfl⟩) (by omega)) ?_
    rintro _ _ ⟨rfl, rfl⟩
    refine y_ret (r := some (.ref h.length)) dm_X3_shape_14 rfl rfl rfl ?_
    refine ⟨_, rfl, h, scrS_rf h, hH, ?_⟩
    unfold m_shape
    rw [if_pos (by omega)]
    exact vres_view (w := vrow 4 0 (fun k : Nat => Int64.ofInt (if k = 0 then (vm v : Int) else (vc v : Int)))) (n := 0) (f := fun _ => 0) (fr := 0) (by omega) (vw1_row (by omega) (by omega) (by omega)) (by show 2 ≤ 4; omega) (by show 4 ≤ 6; omega) (Or.inl ⟨rfl, rfl⟩) (by omega) (fun z => by rw [vq_row (by omega)] at z; omega) (fun k hk => by rw [vq_row (by omega)] at hk; omega) (by omega) (by omega)
