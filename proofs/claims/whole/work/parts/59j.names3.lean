def delN (n i : Nat) : Nat := if i < n then n - 1 else n
def delF {α : Type} (f : Nat → α) (n i : Nat) : Nat → α := if i < n then sh f i (n - 1) else f
theorem delN_le (n i : Nat) : delN n i ≤ n := by unfold delN; split <;> omega
theorem n_dropValue {xt : mj_X} {d o a1 a2 a3 a4 n m : Nat} {h : mj_H} {kf jf : Nat → Int64} {vf of : Nat → Option Nat} {key : Int64} (hd : 2 ≤ d) (hS : NS h o a1 a2 a3 a4 n kf vf m jf of) (hD : NDis o a1 a2 a3 a4) (ho2 : 2 ≤ o ∧ 2 ≤ a1 ∧ 2 ≤ a2 ∧ 2 ≤ a3 ∧ 2 ≤ a4) (hn : n ≤ 40) (hm : m ≤ 40) (hvals : ∀ k, k < n → ∃ q fs, vf k = some q ∧ 2 ≤ q ∧ h[q]? = some (cO 10 fs)) : pgN xt d 69 [.ref o, .long key] h (fun h' => nch o a1 a2 a3 a4 h h' ∧ NS h' o a1 a2 a3 a4 (delN n (fndK kf n key)) (delF kf n (fndK kf n key)) (delF vf n (fndK kf n key)) m jf of) := by
  have hle := fstN_le (fun k => decide (kf k = key)) n
  by_cases z : fndK kf n key < n
  · refine x_imp (n_dropValueY hd hS hD ho2 hn hm hvals z) (fun r h' hr => ?_)
    obtain ⟨h1, i, hi, h2, h3⟩ := hr
    refine ⟨h1, h2, ?_⟩
    rw [hi] at h3
    unfold delN delF
    rw [if_pos z, if_pos z, if_pos z]
    exact h3
  · refine x_imp (n_dropValueN hd hS hD ho2 hn hm (Nat.le_antisymm hle (Nat.not_lt.mp z))) (fun r h' hr => ?_)
    obtain ⟨h1, h2⟩ := hr
    refine ⟨h1, by rw [h2]; exact nch_rf h, ?_⟩
    rw [h2]
    unfold delN delF
    rw [if_neg z, if_neg z, if_neg z]
    exact hS
theorem n_dropFunction {xt : mj_X} {d o a1 a2 a3 a4 n m : Nat} {h : mj_H} {kf jf : Nat → Int64} {vf of : Nat → Option Nat} {key : Int64} (hd : 2 ≤ d) (hS : NS h o a1 a2 a3 a4 n kf vf m jf of) (hD : NDis o a1 a2 a3 a4) (ho2 : 2 ≤ o ∧ 2 ≤ a1 ∧ 2 ≤ a2 ∧ 2 ≤ a3 ∧ 2 ≤ a4) (hn : n ≤ 40) (hm : m ≤ 40) (hvals : ∀ k, k < m → ∃ q fs, of k = some q ∧ 2 ≤ q ∧ h[q]? = some (cO 4 fs)) : pgN xt d 180 [.ref o, .long key] h (fun h' => nch o a1 a2 a3 a4 h h' ∧ NS h' o a1 a2 a3 a4 n kf vf (delN m (fndK jf m key)) (delF jf m (fndK jf m key)) (delF of m (fndK jf m key))) := by
  have hle := fstN_le (fun k => decide (jf k = key)) m
  by_cases z : fndK jf m key < m
  · refine x_imp (n_dropFunctionY hd hS hD ho2 hn hm hvals z) (fun r h' hr => ?_)
    obtain ⟨h1, i, hi, h2, h3⟩ := hr
    refine ⟨h1, h2, ?_⟩
    rw [hi] at h3
    unfold delN delF
    rw [if_pos z, if_pos z, if_pos z]
    exact h3
  · refine x_imp (n_dropFunctionN hd hS hD ho2 hn hm (Nat.le_antisymm hle (Nat.not_lt.mp z))) (fun r h' hr => ?_)
    obtain ⟨h1, h2⟩ := hr
    refine ⟨h1, by rw [h2]; exact nch_rf h, ?_⟩
    rw [h2]
    unfold delN delF
    rw [if_neg z, if_neg z, if_neg z]
    exact hS
set_option maxRecDepth 20000 in
theorem pm_X2_give : mj_mmof pg_ms 179 = some ((⟨"ArrayCalculator$Names", "give", "(JLArrayCalculator$Value;)V"⟩, prog_4_method_9_code, 5, (Option.none : Option Jvm.ClassFile.FieldType)), 2, false, mj_dec prog_4_method_9_code) := rfl
theorem dm_X2_give_0 : mj_dec prog_4_method_9_code 0 = some (.aload_n 0, 1) := by decide +kernel
theorem dm_X2_give_1 : mj_dec prog_4_method_9_code 1 = some (.lload_n 1, 1) := by decide +kernel
theorem dm_X2_give_2 : mj_dec prog_4_method_9_code 2 = some (.invokevirtual 57, 3) := by decide +kernel
theorem dm_X2_give_5 : mj_dec prog_4_method_9_code 5 = some (.aload_n 0, 1) := by decide +kernel
theorem dm_X2_give_6 : mj_dec prog_4_method_9_code 6 = some (.getfield 9, 3) := by decide +kernel
theorem dm_X2_give_9 : mj_dec prog_4_method_9_code 9 = some (.aload_n 0, 1) := by decide +kernel
theorem dm_X2_give_10 : mj_dec prog_4_method_9_code 10 = some (.getfield 30, 3) := by decide +kernel
theorem dm_X2_give_13 : mj_dec prog_4_method_9_code 13 = some (.lload_n 1, 1) := by decide +kernel
theorem dm_X2_give_14 : mj_dec prog_4_method_9_code 14 = some (.invokestatic 41, 3) := by decide +kernel
theorem dm_X2_give_17 : mj_dec prog_4_method_9_code 17 = some (.istore 4, 2) := by decide +kernel
theorem dm_X2_give_19 : mj_dec prog_4_method_9_code 19 = some (.iload 4, 2) := by decide +kernel
theorem dm_X2_give_21 : mj_dec prog_4_method_9_code 21 = some (.bipush 40, 2) := by decide +kernel
theorem dm_X2_give_23 : mj_dec prog_4_method_9_code 23 = some (.if_icmp .ge 34, 3) := by decide +kernel
theorem dm_X2_give_26 : mj_dec prog_4_method_9_code 26 = some (.aload_n 0, 1) := by decide +kernel
theorem dm_X2_give_27 : mj_dec prog_4_method_9_code 27 = some (.getfield 9, 3) := by decide +kernel
theorem dm_X2_give_30 : mj_dec prog_4_method_9_code 30 = some (.iload 4, 2) := by decide +kernel
theorem dm_X2_give_32 : mj_dec prog_4_method_9_code 32 = some (.lload_n 1, 1) := by decide +kernel
theorem dm_X2_give_33 : mj_dec prog_4_method_9_code 33 = some (.lastore, 1) := by decide +kernel
theorem dm_X2_give_34 : mj_dec prog_4_method_9_code 34 = some (.aload_n 0, 1) := by decide +kernel
theorem dm_X2_give_35 : mj_dec prog_4_method_9_code 35 = some (.getfield 17, 3) := by decide +kernel
theorem dm_X2_give_38 : mj_dec prog_4_method_9_code 38 = some (.iload 4, 2) := by decide +kernel
theorem dm_X2_give_40 : mj_dec prog_4_method_9_code 40 = some (.aload_n 3, 1) := by decide +kernel
theorem dm_X2_give_41 : mj_dec prog_4_method_9_code 41 = some (.aastore, 1) := by decide +kernel
theorem dm_X2_give_42 : mj_dec prog_4_method_9_code 42 = some (.aload_n 0, 1) := by decide +kernel
theorem dm_X2_give_43 : mj_dec prog_4_method_9_code 43 = some (.aload_n 0, 1) := by decide +kernel
theorem dm_X2_give_44 : mj_dec prog_4_method_9_code 44 = some (.getfield 30, 3) := by decide +kernel
theorem dm_X2_give_47 : mj_dec prog_4_method_9_code 47 = some (.iload 4, 2) := by decide +kernel
theorem dm_X2_give_49 : mj_dec prog_4_method_9_code 49 = some (.iconst 1, 1) := by decide +kernel
theorem dm_X2_give_50 : mj_dec prog_4_method_9_code 50 = some (.iadd, 1) := by decide +kernel
theorem dm_X2_give_51 : mj_dec prog_4_method_9_code 51 = some (.invokestatic 61, 3) := by decide +kernel
theorem dm_X2_give_54 : mj_dec prog_4_method_9_code 54 = some (.putfield 30, 3) := by decide +kernel
theorem dm_X2_give_57 : mj_dec prog_4_method_9_code 57 = some (.return_, 1) := by decide +kernel
theorem n_give {xt : mj_X} {d o a1 a2 a3 a4 n m : Nat} {h : mj_H} {kf jf : Nat → Int64} {vf of : Nat → Option Nat} {key : Int64} (hd : 3 ≤ d) (hS : NS h o a1 a2 a3 a4 n kf vf m jf of) (hD : NDis o a1 a2 a3 a4) (ho2 : 2 ≤ o ∧ 2 ≤ a1 ∧ 2 ≤ a2 ∧ 2 ≤ a3 ∧ 2 ≤ a4) (hn : n ≤ 40) (hm : m ≤ 40) {q : Nat} {fs : List Value} (hvals : ∀ k, k < m → ∃ q fs, of k = some q ∧ 2 ≤ q ∧ h[q]? = some (cO 4 fs)) (h40 : fndK kf n key < 40) (hqc : h[q]? = some (cO 10 fs)) (hq2 : 2 ≤ q) (hqd : q ≠ o ∧ q ≠ a1 ∧ q ≠ a2 ∧ q ≠ a3 ∧ q ≠ a4) : pgN xt d 179 [.ref o, .long key, .ref q] h (fun h' => ∃ i, i = fndK kf n key ∧ nch o a1 a2 a3 a4 h h' ∧ NS h' o a1 a2 a3 a4 (max n (i + 1)) (va_up kf i key) (va_up vf i (some q)) (delN m (fndK jf m key)) (delF jf m (fndK jf m key)) (delF of m (fndK jf m key))) := by
  obtain ⟨ho, h1, h2, h3, h4⟩ := id hS
  obtain ⟨d1, d2, d3, d4, d5, d6, d7, d8, d9, d10⟩ := id hD
  refine x_enter pm_X2_give (L0 := [(0, .ref o), (1, .long key), (3, .ref q)]) rfl (Nat.le_of_ble_eq_true rfl) (by omega) ?_
  refine me1 (pc' := 1) (L' := [(0, .ref o), (1, .long key), (3, .ref q)]) (S' := [.ref o]) dm_X2_give_0 rfl rfl rfl rfl ?_
  refine me1 (pc' := 2) (L' := [(0, .ref o), (1, .long key), (3, .ref q)]) (S' := [.long key, .ref o]) dm_X2_give_1 rfl rfl rfl rfl ?_
  refine x_cn (pc' := 5) (rest := []) dm_X2_give_2 rfl (g_inv (As := [.long key]) (S := []) ho rfl rfl rfl (by omega)) rfl rfl rfl (n_dropFunction (by omega) hS hD ho2 hn hm hvals) ?_
  rintro h1 ⟨hc1, hS1⟩
  obtain ⟨go, g1, g2, g3, g4⟩ := id hS1
  have hq1 : h1[q]? = some (cO 10 fs) := (hc1.2.2 q hqd.1 hqd.2.1 hqd.2.2.1 hqd.2.2.2.1 hqd.2.2.2.2).trans hqc
  have hdl := delN_le m (fndK jf m key)
  obtain ⟨i, hi⟩ : ∃ i, i = fndK kf n key := ⟨_, rfl⟩
  refine me1 (pc' := 6) (L' := [(0, .ref o), (1, .long key), (3, .ref q)]) (S' := [.ref o]) dm_X2_give_5 rfl rfl rfl rfl ?_
  refine me3 (pc' := 9) (S' := [.ref a1]) dm_X2_give_6 (g_get (v := .ref a1) go rfl rfl (by omega)) rfl rfl rfl ?_
  refine me1 (pc' := 10) (L' := [(0, .ref o), (1, .long key), (3, .ref q)]) (S' := [.ref o, .ref a1]) dm_X2_give_9 rfl rfl rfl rfl ?_
  refine me3 (pc' := 13) (S' := [ii (n : Int), .ref a1]) dm_X2_give_10 (g_get (v := ii (n : Int)) go rfl rfl (by omega)) rfl rfl rfl ?_
  refine me1 (pc' := 14) (L' := [(0, .ref o), (1, .long key), (3, .ref q)]) (S' := [.long key, ii (n : Int), .ref a1]) dm_X2_give_13 rfl rfl rfl rfl ?_
  have hfl0 := fstN_le (fun k => decide (kf k = key)) n
  refine x_cp (pc' := 17) (v := ii ((fndK kf n key : Nat) : Int)) (rest := []) dm_X2_give_14 rfl (g_invs (As := [.ref a1, ii (n : Int), .long key]) (S := []) rfl rfl rfl) rfl rfl rfl (n_find (n := n) (by omega) g1 (by omega) (by omega)) ?_
  refine pg_st0 (S' := [ii (i : Int)]) (by rw [hi]) ?_
  have hi40 : i < 40 := by omega
  refine me1 (pc' := 19) (L' := [(4, ii (i : Int)), (0, .ref o), (1, .long key), (3, .ref q)]) (S' := []) dm_X2_give_17 rfl rfl rfl rfl ?_
  refine me1 (pc' := 21) (L' := [(4, ii (i : Int)), (0, .ref o), (1, .long key), (3, .ref q)]) (S' := [ii (i : Int)]) dm_X2_give_19 rfl rfl rfl rfl ?_
  refine me0 (pc' := 23) (S' := [ii 40, ii (i : Int)]) dm_X2_give_21 rfl rfl rfl rfl ?_
  refine y_2ge (a := (i : Int)) (b := 40) (t := 57) (pc' := 26) dm_X2_give_23 rfl rfl (by omega) (fun hb1 => ?_) (fun hb1 => ?_)
  · exfalso; omega
  · refine me1 (pc' := 27) (L' := [(4, ii (i : Int)), (0, .ref o), (1, .long key), (3, .ref q)]) (S' := [.ref o]) dm_X2_give_26 rfl rfl rfl rfl ?_
    refine me3 (pc' := 30) (S' := [.ref a1]) dm_X2_give_27 (g_get (v := .ref a1) go rfl rfl (by omega)) rfl rfl rfl ?_
    refine me1 (pc' := 32) (L' := [(4, ii (i : Int)), (0, .ref o), (1, .long key), (3, .ref q)]) (S' := [ii (i : Int), .ref a1]) dm_X2_give_30 rfl rfl rfl rfl ?_
    refine me1 (pc' := 33) (L' := [(4, ii (i : Int)), (0, .ref o), (1, .long key), (3, .ref q)]) (S' := [.long key, ii (i : Int), .ref a1]) dm_X2_give_32 rfl rfl rfl rfl ?_
    refine me3 (pc' := 34) (S' := []) (h1 := (h1).set a1 (cJ 40 (va_up kf i key))) dm_X2_give_33 (yh_last (j := (i : Int)) g1 (by omega) (by omega) (by omega) (by omega)) rfl rfl rfl ?_
    refine me1 (pc' := 35) (L' := [(4, ii (i : Int)), (0, .ref o), (1, .long key), (3, .ref q)]) (S' := [.ref o]) dm_X2_give_34 rfl rfl rfl rfl ?_
    refine me3 (pc' := 38) (S' := [.ref a2]) dm_X2_give_35 (g_get (v := .ref a2) (hl_ne (by omega) go) rfl rfl (by omega)) rfl rfl rfl ?_
    refine me1 (pc' := 40) (L' := [(4, ii (i : Int)), (0, .ref o), (1, .long key), (3, .ref q)]) (S' := [ii (i : Int), .ref a2]) dm_X2_give_38 rfl rfl rfl rfl ?_
    refine me1 (pc' := 41) (L' := [(4, ii (i : Int)), (0, .ref o), (1, .long key), (3, .ref q)]) (S' := [.ref q, ii (i : Int), .ref a2]) dm_X2_give_40 rfl rfl rfl rfl ?_
    refine me3 (pc' := 42) (S' := []) (h1 := ((h1).set a1 (cJ 40 (va_up kf i key))).set a2 (cA 4 40 (va_up vf i (some q)))) dm_X2_give_41 (yh_aasr (j := (i : Int)) rfl (hl_ne (by omega) g2) (hl_ne hqd.2.1 hq1) (by omega) (by omega) (by omega) (by omega) (by omega)) rfl rfl rfl ?_
    refine me1 (pc' := 43) (L' := [(4, ii (i : Int)), (0, .ref o), (1, .long key), (3, .ref q)]) (S' := [.ref o]) dm_X2_give_42 rfl rfl rfl rfl ?_
    refine me1 (pc' := 44) (L' := [(4, ii (i : Int)), (0, .ref o), (1, .long key), (3, .ref q)]) (S' := [.ref o, .ref o]) dm_X2_give_43 rfl rfl rfl rfl ?_
    refine me3 (pc' := 47) (S' := [ii (n : Int), .ref o]) dm_X2_give_44 (g_get (v := ii (n : Int)) (hl_ne (by omega) (hl_ne (by omega) go)) rfl rfl (by omega)) rfl rfl rfl ?_
    refine me1 (pc' := 49) (L' := [(4, ii (i : Int)), (0, .ref o), (1, .long key), (3, .ref q)]) (S' := [ii (i : Int), ii (n : Int), .ref o]) dm_X2_give_47 rfl rfl rfl rfl ?_
    refine me0 (pc' := 50) (S' := [ii 1, ii (i : Int), ii (n : Int), .ref o]) dm_X2_give_49 rfl rfl rfl rfl ?_
    refine y_iadd (a := (i : Int)) (b := 1) dm_X2_give_50 (pc' := 51) rfl ?_
    refine y_pr (i := .iadd) (pc' := 54) (S' := [ii (max (n : Int) ((i : Int) + 1)), .ref o]) dm_X2_give_51 rfl (p_imax (by omega) (by omega) (by omega) (by omega) rfl) (by omega) rfl ?_
    refine me3 (pc' := 57) (S' := []) (h1 := (((h1).set a1 (cJ 40 (va_up kf i key))).set a2 (cA 4 40 (va_up vf i (some q)))).set o (cO 2 [.ref a1, .ref a2, ii (max (n : Int) ((i : Int) + 1)), .ref a3, .ref a4, ii ((delN m (fndK jf m key) : Nat) : Int)])) dm_X2_give_54 (g_put (fs' := [.ref a1, .ref a2, ii (max (n : Int) ((i : Int) + 1)), .ref a3, .ref a4, ii ((delN m (fndK jf m key) : Nat) : Int)]) (hl_ne (by omega) (hl_ne (by omega) go)) rfl rfl rfl (by simp) rfl (by decide) (fun z => by cases z) (by omega)) rfl rfl rfl ?_
    refine y_ret (r := none) dm_X2_give_57 rfl rfl rfl ?_
    refine ⟨rfl, i, hi, ?_, ?_⟩
    · refine nch_tr hc1 (nch_tr (nch_tr (nch_set (e' := cJ 40 (va_up kf i key)) (Or.inr (Or.inl rfl)) g1 rfl) (nch_set (e := cA 4 40 vf) (e' := cA 4 40 (va_up vf i (some q))) (Or.inr (Or.inr (Or.inl rfl))) (hl_ne (by omega) g2) rfl)) ?_); exact nch_set (Or.inl rfl) (hl_ne (by omega) (hl_ne (by omega) go)) rfl
    · refine ⟨?_, ?_, ?_, ?_, ?_⟩
      · rw [hl_set (hl_lt (hl_ne (by omega) (hl_ne (by omega) go)))]; rw [show max (n : Int) ((i : Int) + 1) = ((max n (i + 1) : Nat) : Int) by omega]
      · exact hl_ne (by omega) (hl_ne (by omega) (hl_set (hl_lt g1)))
      · exact hl_ne (by omega) (hl_set (hl_lt (hl_ne (by omega) g2)))
      · exact hl_ne (by omega) (hl_ne (by omega) (hl_ne (by omega) g3))
      · exact hl_ne (by omega) (hl_ne (by omega) (hl_ne (by omega) g4))
set_option maxRecDepth 20000 in
theorem pm_X2_tell : mj_mmof pg_ms 68 = some ((⟨"ArrayCalculator$Names", "tell", "(JLArrayCalculator$Op;)V"⟩, prog_4_method_10_code, 5, (Option.none : Option Jvm.ClassFile.FieldType)), 2, false, mj_dec prog_4_method_10_code) := rfl
theorem dm_X2_tell_0 : mj_dec prog_4_method_10_code 0 = some (.aload_n 0, 1) := by decide +kernel
theorem dm_X2_tell_1 : mj_dec prog_4_method_10_code 1 = some (.lload_n 1, 1) := by decide +kernel
theorem dm_X2_tell_2 : mj_dec prog_4_method_10_code 2 = some (.invokevirtual 67, 3) := by decide +kernel
theorem dm_X2_tell_5 : mj_dec prog_4_method_10_code 5 = some (.aload_n 0, 1) := by decide +kernel
theorem dm_X2_tell_6 : mj_dec prog_4_method_10_code 6 = some (.getfield 21, 3) := by decide +kernel
theorem dm_X2_tell_9 : mj_dec prog_4_method_10_code 9 = some (.aload_n 0, 1) := by decide +kernel
theorem dm_X2_tell_10 : mj_dec prog_4_method_10_code 10 = some (.getfield 34, 3) := by decide +kernel
theorem dm_X2_tell_13 : mj_dec prog_4_method_10_code 13 = some (.lload_n 1, 1) := by decide +kernel
theorem dm_X2_tell_14 : mj_dec prog_4_method_10_code 14 = some (.invokestatic 41, 3) := by decide +kernel
theorem dm_X2_tell_17 : mj_dec prog_4_method_10_code 17 = some (.istore 4, 2) := by decide +kernel
theorem dm_X2_tell_19 : mj_dec prog_4_method_10_code 19 = some (.iload 4, 2) := by decide +kernel
theorem dm_X2_tell_21 : mj_dec prog_4_method_10_code 21 = some (.bipush 40, 2) := by decide +kernel
theorem dm_X2_tell_23 : mj_dec prog_4_method_10_code 23 = some (.if_icmp .ge 34, 3) := by decide +kernel
theorem dm_X2_tell_26 : mj_dec prog_4_method_10_code 26 = some (.aload_n 0, 1) := by decide +kernel
theorem dm_X2_tell_27 : mj_dec prog_4_method_10_code 27 = some (.getfield 21, 3) := by decide +kernel
theorem dm_X2_tell_30 : mj_dec prog_4_method_10_code 30 = some (.iload 4, 2) := by decide +kernel
theorem dm_X2_tell_32 : mj_dec prog_4_method_10_code 32 = some (.lload_n 1, 1) := by decide +kernel
theorem dm_X2_tell_33 : mj_dec prog_4_method_10_code 33 = some (.lastore, 1) := by decide +kernel
theorem dm_X2_tell_34 : mj_dec prog_4_method_10_code 34 = some (.aload_n 0, 1) := by decide +kernel
theorem dm_X2_tell_35 : mj_dec prog_4_method_10_code 35 = some (.getfield 26, 3) := by decide +kernel
theorem dm_X2_tell_38 : mj_dec prog_4_method_10_code 38 = some (.iload 4, 2) := by decide +kernel
theorem dm_X2_tell_40 : mj_dec prog_4_method_10_code 40 = some (.aload_n 3, 1) := by decide +kernel
theorem dm_X2_tell_41 : mj_dec prog_4_method_10_code 41 = some (.aastore, 1) := by decide +kernel
theorem dm_X2_tell_42 : mj_dec prog_4_method_10_code 42 = some (.aload_n 0, 1) := by decide +kernel
theorem dm_X2_tell_43 : mj_dec prog_4_method_10_code 43 = some (.aload_n 0, 1) := by decide +kernel
theorem dm_X2_tell_44 : mj_dec prog_4_method_10_code 44 = some (.getfield 34, 3) := by decide +kernel
theorem dm_X2_tell_47 : mj_dec prog_4_method_10_code 47 = some (.iload 4, 2) := by decide +kernel
theorem dm_X2_tell_49 : mj_dec prog_4_method_10_code 49 = some (.iconst 1, 1) := by decide +kernel
theorem dm_X2_tell_50 : mj_dec prog_4_method_10_code 50 = some (.iadd, 1) := by decide +kernel
theorem dm_X2_tell_51 : mj_dec prog_4_method_10_code 51 = some (.invokestatic 61, 3) := by decide +kernel
theorem dm_X2_tell_54 : mj_dec prog_4_method_10_code 54 = some (.putfield 34, 3) := by decide +kernel
theorem dm_X2_tell_57 : mj_dec prog_4_method_10_code 57 = some (.return_, 1) := by decide +kernel
theorem n_tell {xt : mj_X} {d o a1 a2 a3 a4 n m : Nat} {h : mj_H} {kf jf : Nat → Int64} {vf of : Nat → Option Nat} {key : Int64} (hd : 3 ≤ d) (hS : NS h o a1 a2 a3 a4 n kf vf m jf of) (hD : NDis o a1 a2 a3 a4) (ho2 : 2 ≤ o ∧ 2 ≤ a1 ∧ 2 ≤ a2 ∧ 2 ≤ a3 ∧ 2 ≤ a4) (hn : n ≤ 40) (hm : m ≤ 40) {q : Nat} {fs : List Value} (hvals : ∀ k, k < n → ∃ q fs, vf k = some q ∧ 2 ≤ q ∧ h[q]? = some (cO 10 fs)) (h40 : fndK jf m key < 40) (hqc : h[q]? = some (cO 4 fs)) (hq2 : 2 ≤ q) (hqd : q ≠ o ∧ q ≠ a1 ∧ q ≠ a2 ∧ q ≠ a3 ∧ q ≠ a4) : pgN xt d 68 [.ref o, .long key, .ref q] h (fun h' => ∃ i, i = fndK jf m key ∧ nch o a1 a2 a3 a4 h h' ∧ NS h' o a1 a2 a3 a4 (delN n (fndK kf n key)) (delF kf n (fndK kf n key)) (delF vf n (fndK kf n key)) (max m (i + 1)) (va_up jf i key) (va_up of i (some q))) := by
  obtain ⟨ho, h1, h2, h3, h4⟩ := id hS
  obtain ⟨d1, d2, d3, d4, d5, d6, d7, d8, d9, d10⟩ := id hD
  refine x_enter pm_X2_tell (L0 := [(0, .ref o), (1, .long key), (3, .ref q)]) rfl (Nat.le_of_ble_eq_true rfl) (by omega) ?_
  refine me1 (pc' := 1) (L' := [(0, .ref o), (1, .long key), (3, .ref q)]) (S' := [.ref o]) dm_X2_tell_0 rfl rfl rfl rfl ?_
  refine me1 (pc' := 2) (L' := [(0, .ref o), (1, .long key), (3, .ref q)]) (S' := [.long key, .ref o]) dm_X2_tell_1 rfl rfl rfl rfl ?_
  refine x_cn (pc' := 5) (rest := []) dm_X2_tell_2 rfl (g_inv (As := [.long key]) (S := []) ho rfl rfl rfl (by omega)) rfl rfl rfl (n_dropValue (by omega) hS hD ho2 hn hm hvals) ?_
  rintro h1 ⟨hc1, hS1⟩
  obtain ⟨go, g1, g2, g3, g4⟩ := id hS1
  have hq1 : h1[q]? = some (cO 4 fs) := (hc1.2.2 q hqd.1 hqd.2.1 hqd.2.2.1 hqd.2.2.2.1 hqd.2.2.2.2).trans hqc
  have hdl := delN_le n (fndK kf n key)
  obtain ⟨i, hi⟩ : ∃ i, i = fndK jf m key := ⟨_, rfl⟩
  refine me1 (pc' := 6) (L' := [(0, .ref o), (1, .long key), (3, .ref q)]) (S' := [.ref o]) dm_X2_tell_5 rfl rfl rfl rfl ?_
  refine me3 (pc' := 9) (S' := [.ref a3]) dm_X2_tell_6 (g_get (v := .ref a3) go rfl rfl (by omega)) rfl rfl rfl ?_
  refine me1 (pc' := 10) (L' := [(0, .ref o), (1, .long key), (3, .ref q)]) (S' := [.ref o, .ref a3]) dm_X2_tell_9 rfl rfl rfl rfl ?_
  refine me3 (pc' := 13) (S' := [ii (m : Int), .ref a3]) dm_X2_tell_10 (g_get (v := ii (m : Int)) go rfl rfl (by omega)) rfl rfl rfl ?_
  refine me1 (pc' := 14) (L' := [(0, .ref o), (1, .long key), (3, .ref q)]) (S' := [.long key, ii (m : Int), .ref a3]) dm_X2_tell_13 rfl rfl rfl rfl ?_
  have hfl0 := fstN_le (fun k => decide (jf k = key)) m
  refine x_cp (pc' := 17) (v := ii ((fndK jf m key : Nat) : Int)) (rest := []) dm_X2_tell_14 rfl (g_invs (As := [.ref a3, ii (m : Int), .long key]) (S := []) rfl rfl rfl) rfl rfl rfl (n_find (n := m) (by omega) g3 (by omega) (by omega)) ?_
  refine pg_st0 (S' := [ii (i : Int)]) (by rw [hi]) ?_
  have hi40 : i < 40 := by omega
  refine me1 (pc' := 19) (L' := [(4, ii (i : Int)), (0, .ref o), (1, .long key), (3, .ref q)]) (S' := []) dm_X2_tell_17 rfl rfl rfl rfl ?_
  refine me1 (pc' := 21) (L' := [(4, ii (i : Int)), (0, .ref o), (1, .long key), (3, .ref q)]) (S' := [ii (i : Int)]) dm_X2_tell_19 rfl rfl rfl rfl ?_
  refine me0 (pc' := 23) (S' := [ii 40, ii (i : Int)]) dm_X2_tell_21 rfl rfl rfl rfl ?_
  refine y_2ge (a := (i : Int)) (b := 40) (t := 57) (pc' := 26) dm_X2_tell_23 rfl rfl (by omega) (fun hb1 => ?_) (fun hb1 => ?_)
  · exfalso; omega
  · refine me1 (pc' := 27) (L' := [(4, ii (i : Int)), (0, .ref o), (1, .long key), (3, .ref q)]) (S' := [.ref o]) dm_X2_tell_26 rfl rfl rfl rfl ?_
    refine me3 (pc' := 30) (S' := [.ref a3]) dm_X2_tell_27 (g_get (v := .ref a3) go rfl rfl (by omega)) rfl rfl rfl ?_
    refine me1 (pc' := 32) (L' := [(4, ii (i : Int)), (0, .ref o), (1, .long key), (3, .ref q)]) (S' := [ii (i : Int), .ref a3]) dm_X2_tell_30 rfl rfl rfl rfl ?_
    refine me1 (pc' := 33) (L' := [(4, ii (i : Int)), (0, .ref o), (1, .long key), (3, .ref q)]) (S' := [.long key, ii (i : Int), .ref a3]) dm_X2_tell_32 rfl rfl rfl rfl ?_
    refine me3 (pc' := 34) (S' := []) (h1 := (h1).set a3 (cJ 40 (va_up jf i key))) dm_X2_tell_33 (yh_last (j := (i : Int)) g3 (by omega) (by omega) (by omega) (by omega)) rfl rfl rfl ?_
    refine me1 (pc' := 35) (L' := [(4, ii (i : Int)), (0, .ref o), (1, .long key), (3, .ref q)]) (S' := [.ref o]) dm_X2_tell_34 rfl rfl rfl rfl ?_
    refine me3 (pc' := 38) (S' := [.ref a4]) dm_X2_tell_35 (g_get (v := .ref a4) (hl_ne (by omega) go) rfl rfl (by omega)) rfl rfl rfl ?_
    refine me1 (pc' := 40) (L' := [(4, ii (i : Int)), (0, .ref o), (1, .long key), (3, .ref q)]) (S' := [ii (i : Int), .ref a4]) dm_X2_tell_38 rfl rfl rfl rfl ?_
    refine me1 (pc' := 41) (L' := [(4, ii (i : Int)), (0, .ref o), (1, .long key), (3, .ref q)]) (S' := [.ref q, ii (i : Int), .ref a4]) dm_X2_tell_40 rfl rfl rfl rfl ?_
    refine me3 (pc' := 42) (S' := []) (h1 := ((h1).set a3 (cJ 40 (va_up jf i key))).set a4 (cA 5 40 (va_up of i (some q)))) dm_X2_tell_41 (yh_aasr (j := (i : Int)) rfl (hl_ne (by omega) g4) (hl_ne hqd.2.2.2.1 hq1) (by omega) (by omega) (by omega) (by omega) (by omega)) rfl rfl rfl ?_
    refine me1 (pc' := 43) (L' := [(4, ii (i : Int)), (0, .ref o), (1, .long key), (3, .ref q)]) (S' := [.ref o]) dm_X2_tell_42 rfl rfl rfl rfl ?_
    refine me1 (pc' := 44) (L' := [(4, ii (i : Int)), (0, .ref o), (1, .long key), (3, .ref q)]) (S' := [.ref o, .ref o]) dm_X2_tell_43 rfl rfl rfl rfl ?_
    refine me3 (pc' := 47) (S' := [ii (m : Int), .ref o]) dm_X2_tell_44 (g_get (v := ii (m : Int)) (hl_ne (by omega) (hl_ne (by omega) go)) rfl rfl (by omega)) rfl rfl rfl ?_
    refine me1 (pc' := 49) (L' := [(4, ii (i : Int)), (0, .ref o), (1, .long key), (3, .ref q)]) (S' := [ii (i : Int), ii (m : Int), .ref o]) dm_X2_tell_47 rfl rfl rfl rfl ?_
    refine me0 (pc' := 50) (S' := [ii 1, ii (i : Int), ii (m : Int), .ref o]) dm_X2_tell_49 rfl rfl rfl rfl ?_
    refine y_iadd (a := (i : Int)) (b := 1) dm_X2_tell_50 (pc' := 51) rfl ?_
    refine y_pr (i := .iadd) (pc' := 54) (S' := [ii (max (m : Int) ((i : Int) + 1)), .ref o]) dm_X2_tell_51 rfl (p_imax (by omega) (by omega) (by omega) (by omega) rfl) (by omega) rfl ?_
    refine me3 (pc' := 57) (S' := []) (h1 := (((h1).set a3 (cJ 40 (va_up jf i key))).set a4 (cA 5 40 (va_up of i (some q)))).set o (cO 2 [.ref a1, .ref a2, ii ((delN n (fndK kf n key) : Nat) : Int), .ref a3, .ref a4, ii (max (m : Int) ((i : Int) + 1))])) dm_X2_tell_54 (g_put (fs' := [.ref a1, .ref a2, ii ((delN n (fndK kf n key) : Nat) : Int), .ref a3, .ref a4, ii (max (m : Int) ((i : Int) + 1))]) (hl_ne (by omega) (hl_ne (by omega) go)) rfl rfl rfl (by simp) rfl (by decide) (fun z => by cases z) (by omega)) rfl rfl rfl ?_
    refine y_ret (r := none) dm_X2_tell_57 rfl rfl rfl ?_
    refine ⟨rfl, i, hi, ?_, ?_⟩
    · refine nch_tr hc1 (nch_tr (nch_tr (nch_set (e' := cJ 40 (va_up jf i key)) (Or.inr (Or.inr (Or.inr (Or.inl rfl)))) g3 rfl) (nch_set (e := cA 5 40 of) (e' := cA 5 40 (va_up of i (some q))) (Or.inr (Or.inr (Or.inr (Or.inr rfl)))) (hl_ne (by omega) g4) rfl)) ?_); exact nch_set (Or.inl rfl) (hl_ne (by omega) (hl_ne (by omega) go)) rfl
    · refine ⟨?_, ?_, ?_, ?_, ?_⟩
      · rw [hl_set (hl_lt (hl_ne (by omega) (hl_ne (by omega) go)))]; rw [show max (m : Int) ((i : Int) + 1) = ((max m (i + 1) : Nat) : Int) by omega]
      · exact hl_ne (by omega) (hl_ne (by omega) (hl_ne (by omega) g1))
      · exact hl_ne (by omega) (hl_ne (by omega) (hl_ne (by omega) g2))
      · exact hl_ne (by omega) (hl_ne (by omega) (hl_set (hl_lt g3)))
      · exact hl_ne (by omega) (hl_set (hl_lt (hl_ne (by omega) g4)))
