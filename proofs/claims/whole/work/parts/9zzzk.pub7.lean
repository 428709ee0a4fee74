/-! the class: feed -/
/-- four bytes more -/
def f4 (bf : Nat → Int) (f : Nat) (a : Int) : Nat → Int := va_up (va_up (va_up (va_up bf f (byN a 24)) (f + 1) (byN a 16)) (f + 2) (byN a 8)) (f + 3) (byN a 0)
theorem set23 {h : mj_H} {A B A' B' : mj_E} : (((h.set 3 A).set 2 B).set 3 A').set 2 B' = (h.set 3 A').set 2 B' := by
  rw [List.set_comm B A' (show (2 : Nat) ≠ 3 by decide), List.set_set, List.set_set]
theorem a_put4 {xt : mj_X} {d f qr qp : Nat} {h : mj_H} {bf : Nat → Int} {le lp lw a : Int} {A B : mj_E} (hd : 1 ≤ d) (hl : 3 < h.length) (hA : A = cI 200 bf) (hB : B = acC ((f : Nat) : Int) qr qp le lp lw) (hf : f + 4 ≤ 200) : pgN xt d 14 [.ref 2, ii a] ((h.set 3 A).set 2 B) (fun h' => h' = (h.set 3 (cI 200 (f4 bf f a))).set 2 (acC ((f + 4 : Nat) : Int) qr qp le lp lw)) := by
  subst hA hB
  have e2 : ((h.set 3 (cI 200 bf)).set 2 (acC ((f : Nat) : Int) qr qp le lp lw))[2]? = some (acC ((f : Nat) : Int) qr qp le lp lw) := List.getElem?_set_self (by rw [List.length_set]; omega)
  have e3 : ((h.set 3 (cI 200 bf)).set 2 (acC ((f : Nat) : Int) qr qp le lp lw))[3]? = some (cI 200 bf) := by
    rw [List.getElem?_set_ne (by decide)]
    exact List.getElem?_set_self hl
  exact a_putBytes hd e2 e3 hf set23
set_option maxRecDepth 20000 in
theorem pm_X11_feed : mj_mmof pg_ms 13 = some ((⟨"ArrayCalculator", "feed", "(IIIII)I"⟩, prog_1_method_2_code, 6, (Option.some Jvm.ClassFile.FieldType.int)), 11, false, mj_dec prog_1_method_2_code) := rfl
theorem dm_X11_feed_0 : mj_dec prog_1_method_2_code 0 = some (.aload_n 0, 1) := by decide +kernel
theorem dm_X11_feed_1 : mj_dec prog_1_method_2_code 1 = some (.getfield 77, 3) := by decide +kernel
theorem dm_X11_feed_4 : mj_dec prog_1_method_2_code 4 = some (.bipush 20, 2) := by decide +kernel
theorem dm_X11_feed_6 : mj_dec prog_1_method_2_code 6 = some (.iadd, 1) := by decide +kernel
theorem dm_X11_feed_7 : mj_dec prog_1_method_2_code 7 = some (.sipush 200, 3) := by decide +kernel
theorem dm_X11_feed_10 : mj_dec prog_1_method_2_code 10 = some (.if_icmp .le 5, 3) := by decide +kernel
theorem dm_X11_feed_15 : mj_dec prog_1_method_2_code 15 = some (.aload_n 0, 1) := by decide +kernel
theorem dm_X11_feed_16 : mj_dec prog_1_method_2_code 16 = some (.iload_n 1, 1) := by decide +kernel
theorem dm_X11_feed_17 : mj_dec prog_1_method_2_code 17 = some (.invokevirtual 80, 3) := by decide +kernel
theorem dm_X11_feed_20 : mj_dec prog_1_method_2_code 20 = some (.aload_n 0, 1) := by decide +kernel
theorem dm_X11_feed_21 : mj_dec prog_1_method_2_code 21 = some (.iload_n 2, 1) := by decide +kernel
theorem dm_X11_feed_22 : mj_dec prog_1_method_2_code 22 = some (.invokevirtual 80, 3) := by decide +kernel
theorem dm_X11_feed_25 : mj_dec prog_1_method_2_code 25 = some (.aload_n 0, 1) := by decide +kernel
theorem dm_X11_feed_26 : mj_dec prog_1_method_2_code 26 = some (.iload_n 3, 1) := by decide +kernel
theorem dm_X11_feed_27 : mj_dec prog_1_method_2_code 27 = some (.invokevirtual 80, 3) := by decide +kernel
theorem dm_X11_feed_30 : mj_dec prog_1_method_2_code 30 = some (.aload_n 0, 1) := by decide +kernel
theorem dm_X11_feed_31 : mj_dec prog_1_method_2_code 31 = some (.iload 4, 2) := by decide +kernel
theorem dm_X11_feed_33 : mj_dec prog_1_method_2_code 33 = some (.invokevirtual 80, 3) := by decide +kernel
theorem dm_X11_feed_36 : mj_dec prog_1_method_2_code 36 = some (.aload_n 0, 1) := by decide +kernel
theorem dm_X11_feed_37 : mj_dec prog_1_method_2_code 37 = some (.iload 5, 2) := by decide +kernel
theorem dm_X11_feed_39 : mj_dec prog_1_method_2_code 39 = some (.invokevirtual 80, 3) := by decide +kernel
theorem dm_X11_feed_42 : mj_dec prog_1_method_2_code 42 = some (.aload_n 0, 1) := by decide +kernel
theorem dm_X11_feed_43 : mj_dec prog_1_method_2_code 43 = some (.getfield 77, 3) := by decide +kernel
theorem dm_X11_feed_46 : mj_dec prog_1_method_2_code 46 = some (.ireturn, 1) := by decide +kernel
theorem a_feed {xt : mj_X} {d f qr qp : Nat} {h : mj_H} {bf : Nat → Int} {le lp lw a b c e g : Int} (hd : 2 ≤ d) (h2 : h[2]? = some (acC ((f : Nat) : Int) qr qp le lp lw)) (h3 : h[3]? = some (cI 200 bf)) (hf : f + 20 ≤ 200) : pgV xt d 13 [.ref 2, ii a, ii b, ii c, ii e, ii g] h (fun y h' => y = ii ((f + 20 : Nat) : Int) ∧ h' = ((h).set 3 (cI 200 (f4 (f4 (f4 (f4 (f4 bf f a) (f + 4) b) (f + 8) c) (f + 12) e) (f + 16) g))).set 2 (cO 11 [.ref 3, ii ((f + 20 : Nat) : Int), .ref 4, .ref 9, .ref 13, .ref 15, .ref 16, .ref 98, .ref qr, .ref qp, ii le, ii lp, ii lw])) := by
  refine x_enter pm_X11_feed (L0 := [(0, .ref 2), (1, ii a), (2, ii b), (3, ii c), (4, ii e), (5, ii g)]) rfl (Nat.le_of_ble_eq_true rfl) (by omega) ?_
  refine me1 (pc' := 1) (L' := [(0, .ref 2), (1, ii a), (2, ii b), (3, ii c), (4, ii e), (5, ii g)]) (S' := [.ref 2]) dm_X11_feed_0 rfl rfl rfl rfl ?_
  refine me3 (pc' := 4) (S' := [ii ((f : Nat) : Int)]) dm_X11_feed_1 (g_get (v := ii ((f : Nat) : Int)) h2 rfl rfl (by decide)) rfl rfl rfl ?_
  refine me0 (pc' := 6) (S' := [ii 20, ii ((f : Nat) : Int)]) dm_X11_feed_4 rfl rfl rfl rfl ?_
  refine y_iadd (a := ((f : Nat) : Int)) (b := 20) dm_X11_feed_6 (pc' := 7) rfl ?_
  refine me0 (pc' := 10) (S' := [ii 200, ii (((f : Nat) : Int) + 20)]) dm_X11_feed_7 rfl rfl rfl rfl ?_
  refine y_2le (a := ((f : Nat) : Int) + 20) (b := 200) (t := 15) (pc' := 13) dm_X11_feed_10 rfl rfl (by omega) (fun hb1 => ?_) (fun hb1 => ?_)
  · have hl : 3 < h.length := hl_lt h3
    refine pg_cast (h2 := ((h).set 3 (cI 200 bf)).set 2 (cO 11 [.ref 3, ii ((f : Nat) : Int), .ref 4, .ref 9, .ref 13, .ref 15, .ref 16, .ref 98, .ref qr, .ref qp, ii le, ii lp, ii lw])) (by rw [hl_self h3, hl_self h2]) ?_
    refine me1 (pc' := 16) (L' := [(0, .ref 2), (1, ii a), (2, ii b), (3, ii c), (4, ii e), (5, ii g)]) (S' := [.ref 2]) dm_X11_feed_15 rfl rfl rfl rfl ?_
    refine me1 (pc' := 17) (L' := [(0, .ref 2), (1, ii a), (2, ii b), (3, ii c), (4, ii e), (5, ii g)]) (S' := [ii a, .ref 2]) dm_X11_feed_16 rfl rfl rfl rfl ?_
    refine x_cn (pc' := 20) (rest := []) dm_X11_feed_17 rfl (g_inv (As := [ii a]) (S := []) (hl_set (hl_lt (hl_ne (by decide) h2))) rfl rfl rfl (by decide)) rfl rfl rfl (a_put4 (f := f) (bf := bf) (qr := qr) (qp := qp) (le := le) (lp := lp) (lw := lw) (by omega) hl rfl rfl (by omega)) ?_
    rintro _ rfl
    refine me1 (pc' := 21) (L' := [(0, .ref 2), (1, ii a), (2, ii b), (3, ii c), (4, ii e), (5, ii g)]) (S' := [.ref 2]) dm_X11_feed_20 rfl rfl rfl rfl ?_
    refine me1 (pc' := 22) (L' := [(0, .ref 2), (1, ii a), (2, ii b), (3, ii c), (4, ii e), (5, ii g)]) (S' := [ii b, .ref 2]) dm_X11_feed_21 rfl rfl rfl rfl ?_
    refine x_cn (pc' := 25) (rest := []) dm_X11_feed_22 rfl (g_inv (As := [ii b]) (S := []) (hl_set (hl_lt (hl_ne (by decide) h2))) rfl rfl rfl (by decide)) rfl rfl rfl (a_put4 (f := f + 4) (bf := f4 bf f a) (qr := qr) (qp := qp) (le := le) (lp := lp) (lw := lw) (by omega) hl rfl rfl (by omega)) ?_
    rintro _ rfl
    refine me1 (pc' := 26) (L' := [(0, .ref 2), (1, ii a), (2, ii b), (3, ii c), (4, ii e), (5, ii g)]) (S' := [.ref 2]) dm_X11_feed_25 rfl rfl rfl rfl ?_
    refine me1 (pc' := 27) (L' := [(0, .ref 2), (1, ii a), (2, ii b), (3, ii c), (4, ii e), (5, ii g)]) (S' := [ii c, .ref 2]) dm_X11_feed_26 rfl rfl rfl rfl ?_
    refine x_cn (pc' := 30) (rest := []) dm_X11_feed_27 rfl (g_inv (As := [ii c]) (S := []) (hl_set (hl_lt (hl_ne (by decide) h2))) rfl rfl rfl (by decide)) rfl rfl rfl (a_put4 (f := f + 8) (bf := f4 (f4 bf f a) (f + 4) b) (qr := qr) (qp := qp) (le := le) (lp := lp) (lw := lw) (by omega) hl rfl rfl (by omega)) ?_
    rintro _ rfl
    refine me1 (pc' := 31) (L' := [(0, .ref 2), (1, ii a), (2, ii b), (3, ii c), (4, ii e), (5, ii g)]) (S' := [.ref 2]) dm_X11_feed_30 rfl rfl rfl rfl ?_
    refine me1 (pc' := 33) (L' := [(0, .ref 2), (1, ii a), (2, ii b), (3, ii c), (4, ii e), (5, ii g)]) (S' := [ii e, .ref 2]) dm_X11_feed_31 rfl rfl rfl rfl ?_
    refine x_cn (pc' := 36) (rest := []) dm_X11_feed_33 rfl (g_inv (As := [ii e]) (S := []) (hl_set (hl_lt (hl_ne (by decide) h2))) rfl rfl rfl (by decide)) rfl rfl rfl (a_put4 (f := f + 12) (bf := f4 (f4 (f4 bf f a) (f + 4) b) (f + 8) c) (qr := qr) (qp := qp) (le := le) (lp := lp) (lw := lw) (by omega) hl rfl rfl (by omega)) ?_
    rintro _ rfl
    refine me1 (pc' := 37) (L' := [(0, .ref 2), (1, ii a), (2, ii b), (3, ii c), (4, ii e), (5, ii g)]) (S' := [.ref 2]) dm_X11_feed_36 rfl rfl rfl rfl ?_
    refine me1 (pc' := 39) (L' := [(0, .ref 2), (1, ii a), (2, ii b), (3, ii c), (4, ii e), (5, ii g)]) (S' := [ii g, .ref 2]) dm_X11_feed_37 rfl rfl rfl rfl ?_
    refine x_cn (pc' := 42) (rest := []) dm_X11_feed_39 rfl (g_inv (As := [ii g]) (S := []) (hl_set (hl_lt (hl_ne (by decide) h2))) rfl rfl rfl (by decide)) rfl rfl rfl (a_put4 (f := f + 16) (bf := f4 (f4 (f4 (f4 bf f a) (f + 4) b) (f + 8) c) (f + 12) e) (qr := qr) (qp := qp) (le := le) (lp := lp) (lw := lw) (by omega) hl rfl rfl (by omega)) ?_
    rintro _ rfl
    refine me1 (pc' := 43) (L' := [(0, .ref 2), (1, ii a), (2, ii b), (3, ii c), (4, ii e), (5, ii g)]) (S' := [.ref 2]) dm_X11_feed_42 rfl rfl rfl rfl ?_
    refine me3 (pc' := 46) (S' := [ii ((f + 20 : Nat) : Int)]) dm_X11_feed_43 (g_get (v := ii ((f + 20 : Nat) : Int)) (hl_set (hl_lt (hl_ne (by decide) h2))) rfl rfl (by decide)) rfl rfl rfl ?_
    refine y_ret (r := some (ii ((f + 20 : Nat) : Int))) dm_X11_feed_46 rfl rfl rfl ?_
    exact ⟨_, rfl, rfl, rfl⟩
  · exfalso; omega
theorem dm_X11_feed_13 : mj_dec prog_1_method_2_code 13 = some (.iconst (-1), 1) := by decide +kernel
theorem dm_X11_feed_14 : mj_dec prog_1_method_2_code 14 = some (.ireturn, 1) := by decide +kernel
theorem a_feedN {xt : mj_X} {d f qr qp : Nat} {h : mj_H} {bf : Nat → Int} {le lp lw a b c e g : Int} (hd : 2 ≤ d) (h2 : h[2]? = some (acC ((f : Nat) : Int) qr qp le lp lw)) (h3 : h[3]? = some (cI 200 bf)) (hf : 200 < f + 20) (hf2 : f ≤ 200) : pgV xt d 13 [.ref 2, ii a, ii b, ii c, ii e, ii g] h (fun y h' => y = ii (-1) ∧ h' = h) := by
  refine x_enter pm_X11_feed (L0 := [(0, .ref 2), (1, ii a), (2, ii b), (3, ii c), (4, ii e), (5, ii g)]) rfl (Nat.le_of_ble_eq_true rfl) (by omega) ?_
  refine me1 (pc' := 1) (L' := [(0, .ref 2), (1, ii a), (2, ii b), (3, ii c), (4, ii e), (5, ii g)]) (S' := [.ref 2]) dm_X11_feed_0 rfl rfl rfl rfl ?_
  refine me3 (pc' := 4) (S' := [ii ((f : Nat) : Int)]) dm_X11_feed_1 (g_get (v := ii ((f : Nat) : Int)) h2 rfl rfl (by decide)) rfl rfl rfl ?_
  refine me0 (pc' := 6) (S' := [ii 20, ii ((f : Nat) : Int)]) dm_X11_feed_4 rfl rfl rfl rfl ?_
  refine y_iadd (a := ((f : Nat) : Int)) (b := 20) dm_X11_feed_6 (pc' := 7) rfl ?_
  refine me0 (pc' := 10) (S' := [ii 200, ii (((f : Nat) : Int) + 20)]) dm_X11_feed_7 rfl rfl rfl rfl ?_
  refine y_2le (a := ((f : Nat) : Int) + 20) (b := 200) (t := 15) (pc' := 13) dm_X11_feed_10 rfl rfl (by omega) (fun hb1 => ?_) (fun hb1 => ?_)
  · exfalso; omega
  · refine me0 (pc' := 14) (S' := [ii (-1)]) dm_X11_feed_13 rfl rfl rfl rfl ?_
    refine y_ret (r := some (ii (-1))) dm_X11_feed_14 rfl rfl rfl ?_
    exact ⟨_, rfl, rfl, rfl⟩
