theorem q_bast {pre post : mj_H} {i : Nat → Int} {l : Nat → Int64} {I : Nat → Nat → Int} {J : Nat → Nat → Int64} {T : mj_T} {xt : mj_X} {ini : Bool} {S : List Value} {j v : Int} {k p n : Nat} (hm : pre.length = 102) (hc : ∀ m i l I J, (rC m i l I J)[p]? = some (.inl (2, n, .inl (I k)))) (hs : ∀ m i l I J f, (rC m i l I J).set p (.inl (2, n, .inl f)) = rC m i l (va_up I k f) J) (h0 : 0 ≤ j) (h1 : j < n) (h2 : (n : Int) ≤ 2147483647) (h3 : -128 ≤ v ∧ v ≤ 127) : mj_hp T xt pg_tl 2 ini .bastore (ii v :: ii j :: .ref (102 + p) :: S) (rI pre post i l I J) = some (S, rI pre post i l (va_up I k (va_up (I k) j.toNat v)) J) := by
  have := r_bastk (T := T) (xt := xt) (tl := pg_tl) (ini := ini) (S := S) (i := fun k => Int32.ofInt (i k)) (l := l) (I := fun k j => Int32.ofInt (I k j)) (J := J) (post := post) (k := k) (j := Int32.ofInt j) (v := Int32.ofInt v) hm (by decide) (hc _ _ _ _ _) rfl (g_ok h0 h1 h2) (hs _ _ _ _ _ _)
  rw [n_cl (by omega) (by omega), show vp_nar .byte (Int32.ofInt v) = Int32.ofInt v from n_nar h3.1 h3.2, n_upd, n_upI] at this
  exact this
/-- one byte more that is printed, up to 400 -/
def putR (s : RS) (c : Int) : RS := if s.1 17 = 400 then s else (va_up s.1 17 (s.1 17 + 1), s.2.1, va_up s.2.2.1 15 (va_up (s.2.2.1 15) (s.1 17).toNat c), s.2.2.2)
set_option maxRecDepth 20000 in
theorem pm_X12_put : mj_mmof pg_ms 296 = some ((⟨"ArrayCalculatorModel", "put", "(I)V"⟩, prog_14_method_43_code, 2, (Option.none : Option Jvm.ClassFile.FieldType)), 12, false, mj_dec prog_14_method_43_code) := rfl
theorem dm_X12_put_0 : mj_dec prog_14_method_43_code 0 = some (.aload_n 0, 1) := by decide +kernel
theorem dm_X12_put_1 : mj_dec prog_14_method_43_code 1 = some (.getfield 281, 3) := by decide +kernel
theorem dm_X12_put_4 : mj_dec prog_14_method_43_code 4 = some (.sipush 400, 3) := by decide +kernel
theorem dm_X12_put_7 : mj_dec prog_14_method_43_code 7 = some (.if_icmp .ne 4, 3) := by decide +kernel
theorem dm_X12_put_10 : mj_dec prog_14_method_43_code 10 = some (.return_, 1) := by decide +kernel
theorem dm_X12_put_11 : mj_dec prog_14_method_43_code 11 = some (.aload_n 0, 1) := by decide +kernel
theorem dm_X12_put_12 : mj_dec prog_14_method_43_code 12 = some (.getfield 36, 3) := by decide +kernel
theorem dm_X12_put_15 : mj_dec prog_14_method_43_code 15 = some (.aload_n 0, 1) := by decide +kernel
theorem dm_X12_put_16 : mj_dec prog_14_method_43_code 16 = some (.getfield 281, 3) := by decide +kernel
theorem dm_X12_put_19 : mj_dec prog_14_method_43_code 19 = some (.iload_n 1, 1) := by decide +kernel
theorem dm_X12_put_20 : mj_dec prog_14_method_43_code 20 = some (.i2b, 1) := by decide +kernel
theorem dm_X12_put_21 : mj_dec prog_14_method_43_code 21 = some (.bastore, 1) := by decide +kernel
theorem dm_X12_put_22 : mj_dec prog_14_method_43_code 22 = some (.aload_n 0, 1) := by decide +kernel
theorem dm_X12_put_23 : mj_dec prog_14_method_43_code 23 = some (.dup, 1) := by decide +kernel
theorem dm_X12_put_24 : mj_dec prog_14_method_43_code 24 = some (.getfield 281, 3) := by decide +kernel
theorem dm_X12_put_27 : mj_dec prog_14_method_43_code 27 = some (.iconst 1, 1) := by decide +kernel
theorem dm_X12_put_28 : mj_dec prog_14_method_43_code 28 = some (.iadd, 1) := by decide +kernel
theorem dm_X12_put_29 : mj_dec prog_14_method_43_code 29 = some (.putfield 281, 3) := by decide +kernel
theorem dm_X12_put_32 : mj_dec prog_14_method_43_code 32 = some (.return_, 1) := by decide +kernel
theorem r_put_ {xt : mj_X} {d : Nat} {pre post : mj_H} {s : RS} {c : Int} (hm : pre.length = 102) (hd : 1 ≤ d) (hc : -128 ≤ c ∧ c ≤ 127) (h17 : 0 ≤ s.1 17 ∧ s.1 17 ≤ 400) : pgN xt d 296 [.ref 102, ii c] (rS pre post s) (fun h' => h' = rS pre post (putR s c)) := by
  refine x_enter pm_X12_put (L0 := [(0, .ref 102), (1, ii c)]) rfl (Nat.le_of_ble_eq_true rfl) (by omega) ?_
  refine me1 (pc' := 1) (L' := [(0, .ref 102), (1, ii c)]) (S' := [.ref 102]) dm_X12_put_0 rfl rfl rfl rfl ?_
  refine me3 (pc' := 4) (S' := [ii (s.1 17)]) dm_X12_put_1 (q_geti (v := s.1 17) hm rfl (fun m i l => rg_17 m i l) rfl) rfl rfl rfl ?_
  refine me0 (pc' := 7) (S' := [ii 400, ii (s.1 17)]) dm_X12_put_4 rfl rfl rfl rfl ?_
  refine y_2ne (a := s.1 17) (b := 400) (t := 11) (pc' := 10) dm_X12_put_7 rfl rfl (by omega) (fun hb1 => ?_) (fun hb1 => ?_)
  · refine me1 (pc' := 12) (L' := [(0, .ref 102), (1, ii c)]) (S' := [.ref 102]) dm_X12_put_11 rfl rfl rfl rfl ?_
    refine me3 (pc' := 15) (S' := [.ref (102 + 6)]) dm_X12_put_12 (q_getr hm rfl (fun m i l => rg_15 m i l)) rfl rfl rfl ?_
    refine me1 (pc' := 16) (L' := [(0, .ref 102), (1, ii c)]) (S' := [.ref 102, .ref (102 + 6)]) dm_X12_put_15 rfl rfl rfl rfl ?_
    refine me3 (pc' := 19) (S' := [ii (s.1 17), .ref (102 + 6)]) dm_X12_put_16 (q_geti (v := s.1 17) hm rfl (fun m i l => rg_17 m i l) rfl) rfl rfl rfl ?_
    refine me1 (pc' := 20) (L' := [(0, .ref 102), (1, ii c)]) (S' := [ii c, ii (s.1 17), .ref (102 + 6)]) dm_X12_put_19 rfl rfl rfl rfl ?_
    refine y_i2b (a := c) dm_X12_put_20 (pc' := 21) rfl (by omega) (by omega) ?_
    refine me3 (pc' := 22) (S' := []) (h1 := rI pre post s.1 s.2.1 (va_up s.2.2.1 15 (va_up (s.2.2.1 15) ((s.1 17).toNat) c)) s.2.2.2) dm_X12_put_21 (q_bast (j := s.1 17) (k := 15) (n := 400) hm (fun m i l I J => rc_15 m i l I J) (fun m i l I J f => rs_15 m i l I J f) (by omega) (by omega) (by decide) (by omega)) rfl rfl rfl ?_
    refine me1 (pc' := 23) (L' := [(0, .ref 102), (1, ii c)]) (S' := [.ref 102]) dm_X12_put_22 rfl rfl rfl rfl ?_
    refine me0 (pc' := 24) (S' := [.ref 102, .ref 102]) dm_X12_put_23 rfl rfl rfl rfl ?_
    refine me3 (pc' := 27) (S' := [ii (s.1 17), .ref 102]) dm_X12_put_24 (q_geti (v := s.1 17) hm rfl (fun m i l => rg_17 m i l) rfl) rfl rfl rfl ?_
    refine me0 (pc' := 28) (S' := [ii 1, ii (s.1 17), .ref 102]) dm_X12_put_27 rfl rfl rfl rfl ?_
    refine y_iadd (a := s.1 17) (b := 1) dm_X12_put_28 (pc' := 29) rfl ?_
    refine me3 (pc' := 32) (S' := []) (h1 := rI pre post (va_up s.1 17 ((s.1 17) + 1)) s.2.1 (va_up s.2.2.1 15 (va_up (s.2.2.1 15) ((s.1 17).toNat) c)) s.2.2.2) dm_X12_put_29 (q_puti hm rfl rfl (fun m i l v => rf_17 m i l v)) rfl rfl rfl ?_
    refine y_ret (r := none) dm_X12_put_32 rfl rfl rfl ?_
    refine ⟨rfl, ?_⟩
    unfold putR
    first | rw [if_pos (by omega)] | rw [if_neg (by omega)]
  · refine y_ret (r := none) dm_X12_put_10 rfl rfl rfl ?_
    refine ⟨rfl, ?_⟩
    unfold putR
    first | rw [if_pos (by omega)] | rw [if_neg (by omega)]
