/-- the byte of a that begins at bit k -/
def byN (a : Int) (k : Nat) : Int := a % 4294967296 / 2 ^ k % 256
theorem byN_r (a : Int) (k : Nat) : 0 ≤ byN a k ∧ byN a k ≤ 255 := by unfold byN; omega
set_option maxRecDepth 20000 in
theorem pm_X11_putBytes : mj_mmof pg_ms 14 = some ((⟨"ArrayCalculator", "putBytes", "(I)V"⟩, prog_1_method_3_code, 3, (Option.none : Option Jvm.ClassFile.FieldType)), 11, false, mj_dec prog_1_method_3_code) := rfl
theorem dm_X11_putBytes_0 : mj_dec prog_1_method_3_code 0 = some (.bipush 24, 2) := by decide +kernel
theorem dm_X11_putBytes_2 : mj_dec prog_1_method_3_code 2 = some (.istore_n 2, 1) := by decide +kernel
theorem dm_X11_putBytes_3 : mj_dec prog_1_method_3_code 3 = some (.iload_n 2, 1) := by decide +kernel
theorem dm_X11_putBytes_4 : mj_dec prog_1_method_3_code 4 = some (.ifCond .lt 47, 3) := by decide +kernel
theorem dm_X11_putBytes_7 : mj_dec prog_1_method_3_code 7 = some (.aload_n 0, 1) := by decide +kernel
theorem dm_X11_putBytes_8 : mj_dec prog_1_method_3_code 8 = some (.getfield 77, 3) := by decide +kernel
theorem dm_X11_putBytes_11 : mj_dec prog_1_method_3_code 11 = some (.aload_n 0, 1) := by decide +kernel
theorem dm_X11_putBytes_12 : mj_dec prog_1_method_3_code 12 = some (.getfield 9, 3) := by decide +kernel
theorem dm_X11_putBytes_15 : mj_dec prog_1_method_3_code 15 = some (.arraylength, 1) := by decide +kernel
theorem dm_X11_putBytes_16 : mj_dec prog_1_method_3_code 16 = some (.if_icmp .ge 29, 3) := by decide +kernel
theorem dm_X11_putBytes_19 : mj_dec prog_1_method_3_code 19 = some (.aload_n 0, 1) := by decide +kernel
theorem dm_X11_putBytes_20 : mj_dec prog_1_method_3_code 20 = some (.getfield 9, 3) := by decide +kernel
theorem dm_X11_putBytes_23 : mj_dec prog_1_method_3_code 23 = some (.aload_n 0, 1) := by decide +kernel
theorem dm_X11_putBytes_24 : mj_dec prog_1_method_3_code 24 = some (.getfield 77, 3) := by decide +kernel
theorem dm_X11_putBytes_27 : mj_dec prog_1_method_3_code 27 = some (.iload_n 1, 1) := by decide +kernel
theorem dm_X11_putBytes_28 : mj_dec prog_1_method_3_code 28 = some (.iload_n 2, 1) := by decide +kernel
theorem dm_X11_putBytes_29 : mj_dec prog_1_method_3_code 29 = some (.iushr, 1) := by decide +kernel
theorem dm_X11_putBytes_30 : mj_dec prog_1_method_3_code 30 = some (.sipush 255, 3) := by decide +kernel
theorem dm_X11_putBytes_33 : mj_dec prog_1_method_3_code 33 = some (.iand, 1) := by decide +kernel
theorem dm_X11_putBytes_34 : mj_dec prog_1_method_3_code 34 = some (.iastore, 1) := by decide +kernel
theorem dm_X11_putBytes_35 : mj_dec prog_1_method_3_code 35 = some (.aload_n 0, 1) := by decide +kernel
theorem dm_X11_putBytes_36 : mj_dec prog_1_method_3_code 36 = some (.dup, 1) := by decide +kernel
theorem dm_X11_putBytes_37 : mj_dec prog_1_method_3_code 37 = some (.getfield 77, 3) := by decide +kernel
theorem dm_X11_putBytes_40 : mj_dec prog_1_method_3_code 40 = some (.iconst 1, 1) := by decide +kernel
theorem dm_X11_putBytes_41 : mj_dec prog_1_method_3_code 41 = some (.iadd, 1) := by decide +kernel
theorem dm_X11_putBytes_42 : mj_dec prog_1_method_3_code 42 = some (.putfield 77, 3) := by decide +kernel
theorem dm_X11_putBytes_45 : mj_dec prog_1_method_3_code 45 = some (.iinc 2 (-8), 3) := by decide +kernel
theorem dm_X11_putBytes_48 : mj_dec prog_1_method_3_code 48 = some (.goto (-45), 3) := by decide +kernel
theorem dm_X11_putBytes_51 : mj_dec prog_1_method_3_code 51 = some (.return_, 1) := by decide +kernel
theorem a_putBytes {xt : mj_X} {d f qr qp : Nat} {h H : mj_H} {bf : Nat → Int} {le lp lw a : Int} (hd : 1 ≤ d) (h2 : h[2]? = some (acC ((f : Nat) : Int) qr qp le lp lw)) (h3 : h[3]? = some (cI 200 bf)) (hf : f + 4 ≤ 200) (hH : (h.set 3 (cI 200 (va_up (va_up (va_up (va_up bf f (byN a 24)) (f + 1) (byN a 16)) (f + 2) (byN a 8)) (f + 3) (byN a 0)))).set 2 (acC ((f + 4 : Nat) : Int) qr qp le lp lw) = H) : pgN xt d 14 [.ref 2, ii a] h (fun h' => h' = H) := by
  refine x_enter pm_X11_putBytes (L0 := [(0, .ref 2), (1, ii a)]) rfl (Nat.le_of_ble_eq_true rfl) (by omega) ?_
  refine me0 (pc' := 2) (S' := [ii 24]) dm_X11_putBytes_0 rfl rfl rfl rfl ?_
  refine me1 (pc' := 3) (L' := [(2, ii 24), (0, .ref 2), (1, ii a)]) (S' := []) dm_X11_putBytes_2 rfl rfl rfl rfl ?_
  refine me1 (pc' := 4) (L' := [(2, ii 24), (0, .ref 2), (1, ii a)]) (S' := [ii 24]) dm_X11_putBytes_3 rfl rfl rfl rfl ?_
  refine me_1f (pc' := 7) dm_X11_putBytes_4 rfl (by decide) rfl ?_
  refine me1 (pc' := 8) (L' := [(2, ii 24), (0, .ref 2), (1, ii a)]) (S' := [.ref 2]) dm_X11_putBytes_7 rfl rfl rfl rfl ?_
  refine me3 (pc' := 11) (S' := [ii ((f : Nat) : Int)]) dm_X11_putBytes_8 (g_get (v := ii ((f : Nat) : Int)) h2 rfl rfl (by decide)) rfl rfl rfl ?_
  refine me1 (pc' := 12) (L' := [(2, ii 24), (0, .ref 2), (1, ii a)]) (S' := [.ref 2, ii ((f : Nat) : Int)]) dm_X11_putBytes_11 rfl rfl rfl rfl ?_
  refine me3 (pc' := 15) (S' := [.ref 3, ii ((f : Nat) : Int)]) dm_X11_putBytes_12 (g_get (v := .ref 3) h2 rfl rfl (by decide)) rfl rfl rfl ?_
  refine me3 (pc' := 16) (S' := [ii 200, ii ((f : Nat) : Int)]) dm_X11_putBytes_15 (yh_len (n := 200) rfl h3 (by decide)) rfl rfl rfl ?_
  refine y_2ge (a := ((f : Nat) : Int)) (b := 200) (t := 45) (pc' := 19) dm_X11_putBytes_16 rfl rfl (by omega) (fun hb1 => ?_) (fun hb1 => ?_)
  · exfalso; omega
  · refine me1 (pc' := 20) (L' := [(2, ii 24), (0, .ref 2), (1, ii a)]) (S' := [.ref 2]) dm_X11_putBytes_19 rfl rfl rfl rfl ?_
    refine me3 (pc' := 23) (S' := [.ref 3]) dm_X11_putBytes_20 (g_get (v := .ref 3) h2 rfl rfl (by decide)) rfl rfl rfl ?_
    refine me1 (pc' := 24) (L' := [(2, ii 24), (0, .ref 2), (1, ii a)]) (S' := [.ref 2, .ref 3]) dm_X11_putBytes_23 rfl rfl rfl rfl ?_
    refine me3 (pc' := 27) (S' := [ii ((f : Nat) : Int), .ref 3]) dm_X11_putBytes_24 (g_get (v := ii ((f : Nat) : Int)) h2 rfl rfl (by decide)) rfl rfl rfl ?_
    refine me1 (pc' := 28) (L' := [(2, ii 24), (0, .ref 2), (1, ii a)]) (S' := [ii a, ii ((f : Nat) : Int), .ref 3]) dm_X11_putBytes_27 rfl rfl rfl rfl ?_
    refine me1 (pc' := 29) (L' := [(2, ii 24), (0, .ref 2), (1, ii a)]) (S' := [ii 24, ii a, ii ((f : Nat) : Int), .ref 3]) dm_X11_putBytes_28 rfl rfl rfl rfl ?_
    refine y_ushr (a := a) (n := 24) (k := 24) dm_X11_putBytes_29 (pc' := 30) rfl rfl (by decide) ?_
    refine me0 (pc' := 33) (S' := [ii 255, ii ((a % 4294967296) / 2 ^ 24), ii ((f : Nat) : Int), .ref 3]) dm_X11_putBytes_30 rfl rfl rfl rfl ?_
    refine y_and255g (a := (a % 4294967296) / 2 ^ 24) dm_X11_putBytes_33 (pc' := 34) rfl ?_
    refine pg_st0 (S' := [ii (byN a 24), ii ((f : Nat) : Int), .ref 3]) (congrArg (fun z => ii z :: [ii ((f : Nat) : Int), .ref 3]) (rfl)) ?_
    refine me3 (pc' := 35) (S' := []) (h1 := (h).set 3 (cI 200 (va_up bf f (byN a 24)))) dm_X11_putBytes_34 (yh_iast (j := ((f : Nat) : Int)) h3 (by omega) (by omega) (by omega) (by decide)) rfl rfl rfl ?_
    refine me1 (pc' := 36) (L' := [(2, ii 24), (0, .ref 2), (1, ii a)]) (S' := [.ref 2]) dm_X11_putBytes_35 rfl rfl rfl rfl ?_
    refine me0 (pc' := 37) (S' := [.ref 2, .ref 2]) dm_X11_putBytes_36 rfl rfl rfl rfl ?_
    refine me3 (pc' := 40) (S' := [ii ((f : Nat) : Int), .ref 2]) dm_X11_putBytes_37 (g_get (v := ii ((f : Nat) : Int)) (hl_ne (by decide) h2) rfl rfl (by decide)) rfl rfl rfl ?_
    refine me0 (pc' := 41) (S' := [ii 1, ii ((f : Nat) : Int), .ref 2]) dm_X11_putBytes_40 rfl rfl rfl rfl ?_
    refine y_iadd (a := ((f : Nat) : Int)) (b := 1) dm_X11_putBytes_41 (pc' := 42) rfl ?_
    refine pg_st0 (S' := [ii ((f + 1 : Nat) : Int), .ref 2]) (congrArg (fun z => ii z :: [.ref 2]) (by push_cast; omega)) ?_
    refine me3 (pc' := 45) (S' := []) (h1 := ((h).set 3 (cI 200 (va_up bf f (byN a 24)))).set 2 (cO 11 [.ref 3, ii ((f + 1 : Nat) : Int), .ref 4, .ref 9, .ref 13, .ref 15, .ref 16, .ref 98, .ref qr, .ref qp, ii le, ii lp, ii lw])) dm_X11_putBytes_42 (g_put (fs' := [.ref 3, ii ((f + 1 : Nat) : Int), .ref 4, .ref 9, .ref 13, .ref 15, .ref 16, .ref 98, .ref qr, .ref qp, ii le, ii lp, ii lw]) (hl_ne (by decide) h2) rfl rfl rfl (by simp) rfl (by decide) (fun z => by cases z) (by decide)) rfl rfl rfl ?_
    refine y_iinc (pc' := 48) (L' := [(2, ii 16), (0, .ref 2), (1, ii a)]) dm_X11_putBytes_45 (y_incp (a := 24) (c := (-8)) rfl rfl (by decide)) rfl ?_
    refine me2 (pc' := 3) (S' := []) dm_X11_putBytes_48 rfl rfl rfl ?_
    refine me1 (pc' := 4) (L' := [(2, ii 16), (0, .ref 2), (1, ii a)]) (S' := [ii 16]) dm_X11_putBytes_3 rfl rfl rfl rfl ?_
    refine me_1f (pc' := 7) dm_X11_putBytes_4 rfl (by decide) rfl ?_
    refine me1 (pc' := 8) (L' := [(2, ii 16), (0, .ref 2), (1, ii a)]) (S' := [.ref 2]) dm_X11_putBytes_7 rfl rfl rfl rfl ?_
    refine me3 (pc' := 11) (S' := [ii ((f + 1 : Nat) : Int)]) dm_X11_putBytes_8 (g_get (v := ii ((f + 1 : Nat) : Int)) (hl_set (hl_lt (hl_ne (by decide) h2))) rfl rfl (by decide)) rfl rfl rfl ?_
    refine me1 (pc' := 12) (L' := [(2, ii 16), (0, .ref 2), (1, ii a)]) (S' := [.ref 2, ii ((f + 1 : Nat) : Int)]) dm_X11_putBytes_11 rfl rfl rfl rfl ?_
    refine me3 (pc' := 15) (S' := [.ref 3, ii ((f + 1 : Nat) : Int)]) dm_X11_putBytes_12 (g_get (v := .ref 3) (hl_set (hl_lt (hl_ne (by decide) h2))) rfl rfl (by decide)) rfl rfl rfl ?_
    refine me3 (pc' := 16) (S' := [ii 200, ii ((f + 1 : Nat) : Int)]) dm_X11_putBytes_15 (yh_len (n := 200) rfl (hl_ne (by decide) (hl_set (hl_lt h3))) (by decide)) rfl rfl rfl ?_
    refine y_2ge (a := ((f + 1 : Nat) : Int)) (b := 200) (t := 45) (pc' := 19) dm_X11_putBytes_16 rfl rfl (by omega) (fun hb2 => ?_) (fun hb2 => ?_)
    · exfalso; omega
    · refine me1 (pc' := 20) (L' := [(2, ii 16), (0, .ref 2), (1, ii a)]) (S' := [.ref 2]) dm_X11_putBytes_19 rfl rfl rfl rfl ?_
      refine me3 (pc' := 23) (S' := [.ref 3]) dm_X11_putBytes_20 (g_get (v := .ref 3) (hl_set (hl_lt (hl_ne (by decide) h2))) rfl rfl (by decide)) rfl rfl rfl ?_
      refine me1 (pc' := 24) (L' := [(2, ii 16), (0, .ref 2), (1, ii a)]) (S' := [.ref 2, .ref 3]) dm_X11_putBytes_23 rfl rfl rfl rfl ?_
      refine me3 (pc' := 27) (S' := [ii ((f + 1 : Nat) : Int), .ref 3]) dm_X11_putBytes_24 (g_get (v := ii ((f + 1 : Nat) : Int)) (hl_set (hl_lt (hl_ne (by decide) h2))) rfl rfl (by decide)) rfl rfl rfl ?_
      refine me1 (pc' := 28) (L' := [(2, ii 16), (0, .ref 2), (1, ii a)]) (S' := [ii a, ii ((f + 1 : Nat) : Int), .ref 3]) dm_X11_putBytes_27 rfl rfl rfl rfl ?_
      refine me1 (pc' := 29) (L' := [(2, ii 16), (0, .ref 2), (1, ii a)]) (S' := [ii 16, ii a, ii ((f + 1 : Nat) : Int), .ref 3]) dm_X11_putBytes_28 rfl rfl rfl rfl ?_
      refine y_ushr (a := a) (n := 16) (k := 16) dm_X11_putBytes_29 (pc' := 30) rfl rfl (by decide) ?_
      refine me0 (pc' := 33) (S' := [ii 255, ii ((a % 4294967296) / 2 ^ 16), ii ((f + 1 : Nat) : Int), .ref 3]) dm_X11_putBytes_30 rfl rfl rfl rfl ?_
      refine y_and255g (a := (a % 4294967296) / 2 ^ 16) dm_X11_putBytes_33 (pc' := 34) rfl ?_
      refine pg_st0 (S' := [ii (byN a 16), ii ((f + 1 : Nat) : Int), .ref 3]) (congrArg (fun z => ii z :: [ii ((f + 1 : Nat) : Int), .ref 3]) (rfl)) ?_
      refine me3 (pc' := 35) (S' := []) (h1 := (((h).set 3 (cI 200 (va_up bf f (byN a 24)))).set 2 (cO 11 [.ref 3, ii ((f + 1 : Nat) : Int), .ref 4, .ref 9, .ref 13, .ref 15, .ref 16, .ref 98, .ref qr, .ref qp, ii le, ii lp, ii lw])).set 3 (cI 200 (va_up (va_up bf f (byN a 24)) (f + 1) (byN a 16)))) dm_X11_putBytes_34 (yh_iast (j := ((f + 1 : Nat) : Int)) (hl_ne (by decide) (hl_set (hl_lt h3))) (by omega) (by omega) (by omega) (by decide)) rfl rfl rfl ?_
      refine me1 (pc' := 36) (L' := [(2, ii 16), (0, .ref 2), (1, ii a)]) (S' := [.ref 2]) dm_X11_putBytes_35 rfl rfl rfl rfl ?_
      refine me0 (pc' := 37) (S' := [.ref 2, .ref 2]) dm_X11_putBytes_36 rfl rfl rfl rfl ?_
      refine me3 (pc' := 40) (S' := [ii ((f + 1 : Nat) : Int), .ref 2]) dm_X11_putBytes_37 (g_get (v := ii ((f + 1 : Nat) : Int)) (hl_ne (by decide) (hl_set (hl_lt (hl_ne (by decide) h2)))) rfl rfl (by decide)) rfl rfl rfl ?_
      refine me0 (pc' := 41) (S' := [ii 1, ii ((f + 1 : Nat) : Int), .ref 2]) dm_X11_putBytes_40 rfl rfl rfl rfl ?_
      refine y_iadd (a := ((f + 1 : Nat) : Int)) (b := 1) dm_X11_putBytes_41 (pc' := 42) rfl ?_
      refine pg_st0 (S' := [ii ((f + 2 : Nat) : Int), .ref 2]) (congrArg (fun z => ii z :: [.ref 2]) (by push_cast; omega)) ?_
      refine me3 (pc' := 45) (S' := []) (h1 := ((((h).set 3 (cI 200 (va_up bf f (byN a 24)))).set 2 (cO 11 [.ref 3, ii ((f + 1 : Nat) : Int), .ref 4, .ref 9, .ref 13, .ref 15, .ref 16, .ref 98, .ref qr, .ref qp, ii le, ii lp, ii lw])).set 3 (cI 200 (va_up (va_up bf f (byN a 24)) (f + 1) (byN a 16)))).set 2 (cO 11 [.ref 3, ii ((f + 2 : Nat) : Int), .ref 4, .ref 9, .ref 13, .ref 15, .ref 16, .ref 98, .ref qr, .ref qp, ii le, ii lp, ii lw])) dm_X11_putBytes_42 (g_put (fs' := [.ref 3, ii ((f + 2 : Nat) : Int), .ref 4, .ref 9, .ref 13, .ref 15, .ref 16, .ref 98, .ref qr, .ref qp, ii le, ii lp, ii lw]) (hl_ne (by decide) (hl_set (hl_lt (hl_ne (by decide) h2)))) rfl rfl rfl (by simp) rfl (by decide) (fun z => by cases z) (by decide)) rfl rfl rfl ?_
      refine y_iinc (pc' := 48) (L' := [(2, ii 8), (0, .ref 2), (1, ii a)]) dm_X11_putBytes_45 (y_incp (a := 16) (c := (-8)) rfl rfl (by decide)) rfl ?_
      refine me2 (pc' := 3) (S' := []) dm_X11_putBytes_48 rfl rfl rfl ?_
      refine me1 (pc' := 4) (L' := [(2, ii 8), (0, .ref 2), (1, ii a)]) (S' := [ii 8]) dm_X11_putBytes_3 rfl rfl rfl rfl ?_
      refine me_1f (pc' := 7) dm_X11_putBytes_4 rfl (by decide) rfl ?_
      refine me1 (pc' := 8) (L' := [(2, ii 8), (0, .ref 2), (1, ii a)]) (S' := [.ref 2]) dm_X11_putBytes_7 rfl rfl rfl rfl ?_
      refine me3 (pc' := 11) (S' := [ii ((f + 2 : Nat) : Int)]) dm_X11_putBytes_8 (g_get (v := ii ((f + 2 : Nat) : Int)) (hl_set (hl_lt (hl_ne (by decide) (hl_set (hl_lt (hl_ne (by decide) h2)))))) rfl rfl (by decide)) rfl rfl rfl ?_
      refine me1 (pc' := 12) (L' := [(2, ii 8), (0, .ref 2), (1, ii a)]) (S' := [.ref 2, ii ((f + 2 : Nat) : Int)]) dm_X11_putBytes_11 rfl rfl rfl rfl ?_
      refine me3 (pc' := 15) (S' := [.ref 3, ii ((f + 2 : Nat) : Int)]) dm_X11_putBytes_12 (g_get (v := .ref 3) (hl_set (hl_lt (hl_ne (by decide) (hl_set (hl_lt (hl_ne (by decide) h2)))))) rfl rfl (by decide)) rfl rfl rfl ?_
      refine me3 (pc' := 16) (S' := [ii 200, ii ((f + 2 : Nat) : Int)]) dm_X11_putBytes_15 (yh_len (n := 200) rfl (hl_ne (by decide) (hl_set (hl_lt (hl_ne (by decide) (hl_set (hl_lt h3)))))) (by decide)) rfl rfl rfl ?_
      refine y_2ge (a := ((f + 2 : Nat) : Int)) (b := 200) (t := 45) (pc' := 19) dm_X11_putBytes_16 rfl rfl (by omega) (fun hb3 => ?_) (fun hb3 => ?_)
      · exfalso; omega
      · refine me1 (pc' := 20) (L' := [(2, ii 8), (0, .ref 2), (1, ii a)]) (S' := [.ref 2]) dm_X11_putBytes_19 rfl rfl rfl rfl ?_
        refine me3 (pc' := 23) (S' := [.ref 3]) dm_X11_putBytes_20 (g_get (v := .ref 3) (hl_set (hl_lt (hl_ne (by decide) (hl_set (hl_lt (hl_ne (by decide) h2)))))) rfl rfl (by decide)) rfl rfl rfl ?_
        refine me1 (pc' := 24) (L' := [(2, ii 8), (0, .ref 2), (1, ii a)]) (S' := [.ref 2, .ref 3]) dm_X11_putBytes_23 rfl rfl rfl rfl ?_
        refine me3 (pc' := 27) (S' := [ii ((f + 2 : Nat) : Int), .ref 3]) dm_X11_putBytes_24 (g_get (v := ii ((f + 2 : Nat) : Int)) (hl_set (hl_lt (hl_ne (by decide) (hl_set (hl_lt (hl_ne (by decide) h2)))))) rfl rfl (by decide)) rfl rfl rfl ?_
        refine me1 (pc' := 28) (L' := [(2, ii 8), (0, .ref 2), (1, ii a)]) (S' := [ii a, ii ((f + 2 : Nat) : Int), .ref 3]) dm_X11_putBytes_27 rfl rfl rfl rfl ?_
        refine me1 (pc' := 29) (L' := [(2, ii 8), (0, .ref 2), (1, ii a)]) (S' := [ii 8, ii a, ii ((f + 2 : Nat) : Int), .ref 3]) dm_X11_putBytes_28 rfl rfl rfl rfl ?_
        refine y_ushr (a := a) (n := 8) (k := 8) dm_X11_putBytes_29 (pc' := 30) rfl rfl (by decide) ?_
        refine me0 (pc' := 33) (S' := [ii 255, ii ((a % 4294967296) / 2 ^ 8), ii ((f + 2 : Nat) : Int), .ref 3]) dm_X11_putBytes_30 rfl rfl rfl rfl ?_
        refine y_and255g (a := (a % 4294967296) / 2 ^ 8) dm_X11_putBytes_33 (pc' := 34) rfl ?_
        refine pg_st0 (S' := [ii (byN a 8), ii ((f + 2 : Nat) : Int), .ref 3]) (congrArg (fun z => ii z :: [ii ((f + 2 : Nat) : Int), .ref 3]) (rfl)) ?_
        refine me3 (pc' := 35) (S' := []) (h1 := (((((h).set 3 (cI 200 (va_up bf f (byN a 24)))).set 2 (cO 11 [.ref 3, ii ((f + 1 : Nat) : Int), .ref 4, .ref 9, .ref 13, .ref 15, .ref 16, .ref 98, .ref qr, .ref qp, ii le, ii lp, ii lw])).set 3 (cI 200 (va_up (va_up bf f (byN a 24)) (f + 1) (byN a 16)))).set 2 (cO 11 [.ref 3, ii ((f + 2 : Nat) : Int), .ref 4, .ref 9, .ref 13, .ref 15, .ref 16, .ref 98, .ref qr, .ref qp, ii le, ii lp, ii lw])).set 3 (cI 200 (va_up (va_up (va_up bf f (byN a 24)) (f + 1) (byN a 16)) (f + 2) (byN a 8)))) dm_X11_putBytes_34 (yh_iast (j := ((f + 2 : Nat) : Int)) (hl_ne (by decide) (hl_set (hl_lt (hl_ne (by decide) (hl_set (hl_lt h3)))))) (by omega) (by omega) (by omega) (by decide)) rfl rfl rfl ?_
        refine me1 (pc' := 36) (L' := [(2, ii 8), (0, .ref 2), (1, ii a)]) (S' := [.ref 2]) dm_X11_putBytes_35 rfl rfl rfl rfl ?_
        refine me0 (pc' := 37) (S' := [.ref 2, .ref 2]) dm_X11_putBytes_36 rfl rfl rfl rfl ?_
        refine me3 (pc' := 40) (S' := [ii ((f + 2 : Nat) : Int), .ref 2]) dm_X11_putBytes_37 (g_get (v := ii ((f + 2 : Nat) : Int)) (hl_ne (by decide) (hl_set (hl_lt (hl_ne (by decide) (hl_set (hl_lt (hl_ne (by decide) h2))))))) rfl rfl (by decide)) rfl rfl rfl ?_
        refine me0 (pc' := 41) (S' := [ii 1, ii ((f + 2 : Nat) : Int), .ref 2]) dm_X11_putBytes_40 rfl rfl rfl rfl ?_
        refine y_iadd (a := ((f + 2 : Nat) : Int)) (b := 1) dm_X11_putBytes_41 (pc' := 42) rfl ?_
        refine pg_st0 (S' := [ii ((f + 3 : Nat) : Int), .ref 2]) (congrArg (fun z => ii z :: [.ref 2]) (by push_cast; omega)) ?_
        refine me3 (pc' := 45) (S' := []) (h1 := ((((((h).set 3 (cI 200 (va_up bf f (byN a 24)))).set 2 (cO 11 [.ref 3, ii ((f + 1 : Nat) : Int), .ref 4, .ref 9, .ref 13, .ref 15, .ref 16, .ref 98, .ref qr, .ref qp, ii le, ii lp, ii lw])).set 3 (cI 200 (va_up (va_up bf f (byN a 24)) (f + 1) (byN a 16)))).set 2 (cO 11 [.ref 3, ii ((f + 2 : Nat) : Int), .ref 4, .ref 9, .ref 13, .ref 15, .ref 16, .ref 98, .ref qr, .ref qp, ii le, ii lp, ii lw])).set 3 (cI 200 (va_up (va_up (va_up bf f (byN a 24)) (f + 1) (byN a 16)) (f + 2) (byN a 8)))).set 2 (cO 11 [.ref 3, ii ((f + 3 : Nat) : Int), .ref 4, .ref 9, .ref 13, .ref 15, .ref 16, .ref 98, .ref qr, .ref qp, ii le, ii lp, ii lw])) dm_X11_putBytes_42 (g_put (fs' := [.ref 3, ii ((f + 3 : Nat) : Int), .ref 4, .ref 9, .ref 13, .ref 15, .ref 16, .ref 98, .ref qr, .ref qp, ii le, ii lp, ii lw]) (hl_ne (by decide) (hl_set (hl_lt (hl_ne (by decide) (hl_set (hl_lt (hl_ne (by decide) h2))))))) rfl rfl rfl (by simp) rfl (by decide) (fun z => by cases z) (by decide)) rfl rfl rfl ?_
        refine y_iinc (pc' := 48) (L' := [(2, ii 0), (0, .ref 2), (1, ii a)]) dm_X11_putBytes_45 (y_incp (a := 8) (c := (-8)) rfl rfl (by decide)) rfl ?_
        refine me2 (pc' := 3) (S' := []) dm_X11_putBytes_48 rfl rfl rfl ?_
        refine me1 (pc' := 4) (L' := [(2, ii 0), (0, .ref 2), (1, ii a)]) (S' := [ii 0]) dm_X11_putBytes_3 rfl rfl rfl rfl ?_
        refine me_1f (pc' := 7) dm_X11_putBytes_4 rfl (by decide) rfl ?_
        refine me1 (pc' := 8) (L' := [(2, ii 0), (0, .ref 2), (1, ii a)]) (S' := [.ref 2]) dm_X11_putBytes_7 rfl rfl rfl rfl ?_
        refine me3 (pc' := 11) (S' := [ii ((f + 3 : Nat) : Int)]) dm_X11_putBytes_8 (g_get (v := ii ((f + 3 : Nat) : Int)) (hl_set (hl_lt (hl_ne (by decide) (hl_set (hl_lt (hl_ne (by decide) (hl_set (hl_lt (hl_ne (by decide) h2))))))))) rfl rfl (by decide)) rfl rfl rfl ?_
        refine me1 (pc' := 12) (L' := [(2, ii 0), (0, .ref 2), (1, ii a)]) (S' := [.ref 2, ii ((f + 3 : Nat) : Int)]) dm_X11_putBytes_11 rfl rfl rfl rfl ?_
        refine me3 (pc' := 15) (S' := [.ref 3, ii ((f + 3 : Nat) : Int)]) dm_X11_putBytes_12 (g_get (v := .ref 3) (hl_set (hl_lt (hl_ne (by decide) (hl_set (hl_lt (hl_ne (by decide) (hl_set (hl_lt (hl_ne (by decide) h2))))))))) rfl rfl (by decide)) rfl rfl rfl ?_
        refine me3 (pc' := 16) (S' := [ii 200, ii ((f + 3 : Nat) : Int)]) dm_X11_putBytes_15 (yh_len (n := 200) rfl (hl_ne (by decide) (hl_set (hl_lt (hl_ne (by decide) (hl_set (hl_lt (hl_ne (by decide) (hl_set (hl_lt h3))))))))) (by decide)) rfl rfl rfl ?_
        refine y_2ge (a := ((f + 3 : Nat) : Int)) (b := 200) (t := 45) (pc' := 19) dm_X11_putBytes_16 rfl rfl (by omega) (fun hb4 => ?_) (fun hb4 => ?_)
        · exfalso; omega
        · refine me1 (pc' := 20) (L' := [(2, ii 0), (0, .ref 2), (1, ii a)]) (S' := [.ref 2]) dm_X11_putBytes_19 rfl rfl rfl rfl ?_
          refine me3 (pc' := 23) (S' := [.ref 3]) dm_X11_putBytes_20 (g_get (v := .ref 3) (hl_set (hl_lt (hl_ne (by decide) (hl_set (hl_lt (hl_ne (by decide) (hl_set (hl_lt (hl_ne (by decide) h2))))))))) rfl rfl (by decide)) rfl rfl rfl ?_
          refine me1 (pc' := 24) (L' := [(2, ii 0), (0, .ref 2), (1, ii a)]) (S' := [.ref 2, .ref 3]) dm_X11_putBytes_23 rfl rfl rfl rfl ?_
          refine me3 (pc' := 27) (S' := [ii ((f + 3 : Nat) : Int), .ref 3]) dm_X11_putBytes_24 (g_get (v := ii ((f + 3 : Nat) : Int)) (hl_set (hl_lt (hl_ne (by decide) (hl_set (hl_lt (hl_ne (by decide) (hl_set (hl_lt (hl_ne (by decide) h2))))))))) rfl rfl (by decide)) rfl rfl rfl ?_
          refine me1 (pc' := 28) (L' := [(2, ii 0), (0, .ref 2), (1, ii a)]) (S' := [ii a, ii ((f + 3 : Nat) : Int), .ref 3]) dm_X11_putBytes_27 rfl rfl rfl rfl ?_
          refine me1 (pc' := 29) (L' := [(2, ii 0), (0, .ref 2), (1, ii a)]) (S' := [ii 0, ii a, ii ((f + 3 : Nat) : Int), .ref 3]) dm_X11_putBytes_28 rfl rfl rfl rfl ?_
          refine y_ushr (a := a) (n := 0) (k := 0) dm_X11_putBytes_29 (pc' := 30) rfl rfl (by decide) ?_
          refine me0 (pc' := 33) (S' := [ii 255, ii ((a % 4294967296) / 2 ^ 0), ii ((f + 3 : Nat) : Int), .ref 3]) dm_X11_putBytes_30 rfl rfl rfl rfl ?_
          refine y_and255g (a := (a % 4294967296) / 2 ^ 0) dm_X11_putBytes_33 (pc' := 34) rfl ?_
          refine pg_st0 (S' := [ii (byN a 0), ii ((f + 3 : Nat) : Int), .ref 3]) (congrArg (fun z => ii z :: [ii ((f + 3 : Nat) : Int), .ref 3]) (rfl)) ?_
          refine me3 (pc' := 35) (S' := []) (h1 := (((((((h).set 3 (cI 200 (va_up bf f (byN a 24)))).set 2 (cO 11 [.ref 3, ii ((f + 1 : Nat) : Int), .ref 4, .ref 9, .ref 13, .ref 15, .ref 16, .ref 98, .ref qr, .ref qp, ii le, ii lp, ii lw])).set 3 (cI 200 (va_up (va_up bf f (byN a 24)) (f + 1) (byN a 16)))).set 2 (cO 11 [.ref 3, ii ((f + 2 : Nat) : Int), .ref 4, .ref 9, .ref 13, .ref 15, .ref 16, .ref 98, .ref qr, .ref qp, ii le, ii lp, ii lw])).set 3 (cI 200 (va_up (va_up (va_up bf f (byN a 24)) (f + 1) (byN a 16)) (f + 2) (byN a 8)))).set 2 (cO 11 [.ref 3, ii ((f + 3 : Nat) : Int), .ref 4, .ref 9, .ref 13, .ref 15, .ref 16, .ref 98, .ref qr, .ref qp, ii le, ii lp, ii lw])).set 3 (cI 200 (va_up (va_up (va_up (va_up bf f (byN a 24)) (f + 1) (byN a 16)) (f + 2) (byN a 8)) (f + 3) (byN a 0)))) dm_X11_putBytes_34 (yh_iast (j := ((f + 3 : Nat) : Int)) (hl_ne (by decide) (hl_set (hl_lt (hl_ne (by decide) (hl_set (hl_lt (hl_ne (by decide) (hl_set (hl_lt h3))))))))) (by omega) (by omega) (by omega) (by decide)) rfl rfl rfl ?_
          refine me1 (pc' := 36) (L' := [(2, ii 0), (0, .ref 2), (1, ii a)]) (S' := [.ref 2]) dm_X11_putBytes_35 rfl rfl rfl rfl ?_
          refine me0 (pc' := 37) (S' := [.ref 2, .ref 2]) dm_X11_putBytes_36 rfl rfl rfl rfl ?_
          refine me3 (pc' := 40) (S' := [ii ((f + 3 : Nat) : Int), .ref 2]) dm_X11_putBytes_37 (g_get (v := ii ((f + 3 : Nat) : Int)) (hl_ne (by decide) (hl_set (hl_lt (hl_ne (by decide) (hl_set (hl_lt (hl_ne (by decide) (hl_set (hl_lt (hl_ne (by decide) h2)))))))))) rfl rfl (by decide)) rfl rfl rfl ?_
          refine me0 (pc' := 41) (S' := [ii 1, ii ((f + 3 : Nat) : Int), .ref 2]) dm_X11_putBytes_40 rfl rfl rfl rfl ?_
          refine y_iadd (a := ((f + 3 : Nat) : Int)) (b := 1) dm_X11_putBytes_41 (pc' := 42) rfl ?_
          refine pg_st0 (S' := [ii ((f + 4 : Nat) : Int), .ref 2]) (congrArg (fun z => ii z :: [.ref 2]) (by push_cast; omega)) ?_
          refine me3 (pc' := 45) (S' := []) (h1 := ((((((((h).set 3 (cI 200 (va_up bf f (byN a 24)))).set 2 (cO 11 [.ref 3, ii ((f + 1 : Nat) : Int), .ref 4, .ref 9, .ref 13, .ref 15, .ref 16, .ref 98, .ref qr, .ref qp, ii le, ii lp, ii lw])).set 3 (cI 200 (va_up (va_up bf f (byN a 24)) (f + 1) (byN a 16)))).set 2 (cO 11 [.ref 3, ii ((f + 2 : Nat) : Int), .ref 4, .ref 9, .ref 13, .ref 15, .ref 16, .ref 98, .ref qr, .ref qp, ii le, ii lp, ii lw])).set 3 (cI 200 (va_up (va_up (va_up bf f (byN a 24)) (f + 1) (byN a 16)) (f + 2) (byN a 8)))).set 2 (cO 11 [.ref 3, ii ((f + 3 : Nat) : Int), .ref 4, .ref 9, .ref 13, .ref 15, .ref 16, .ref 98, .ref qr, .ref qp, ii le, ii lp, ii lw])).set 3 (cI 200 (va_up (va_up (va_up (va_up bf f (byN a 24)) (f + 1) (byN a 16)) (f + 2) (byN a 8)) (f + 3) (byN a 0)))).set 2 (cO 11 [.ref 3, ii ((f + 4 : Nat) : Int), .ref 4, .ref 9, .ref 13, .ref 15, .ref 16, .ref 98, .ref qr, .ref qp, ii le, ii lp, ii lw])) dm_X11_putBytes_42 (g_put (fs' := [.ref 3, ii ((f + 4 : Nat) : Int), .ref 4, .ref 9, .ref 13, .ref 15, .ref 16, .ref 98, .ref qr, .ref qp, ii le, ii lp, ii lw]) (hl_ne (by decide) (hl_set (hl_lt (hl_ne (by decide) (hl_set (hl_lt (hl_ne (by decide) (hl_set (hl_lt (hl_ne (by decide) h2)))))))))) rfl rfl rfl (by simp) rfl (by decide) (fun z => by cases z) (by decide)) rfl rfl rfl ?_
          refine y_iinc (pc' := 48) (L' := [(2, ii (-8)), (0, .ref 2), (1, ii a)]) dm_X11_putBytes_45 (y_incp (a := 0) (c := (-8)) rfl rfl (by decide)) rfl ?_
          refine me2 (pc' := 3) (S' := []) dm_X11_putBytes_48 rfl rfl rfl ?_
          refine me1 (pc' := 4) (L' := [(2, ii (-8)), (0, .ref 2), (1, ii a)]) (S' := [ii (-8)]) dm_X11_putBytes_3 rfl rfl rfl rfl ?_
          refine me_1t (pc' := 51) dm_X11_putBytes_4 rfl (by decide) ?_
          refine y_ret (r := none) dm_X11_putBytes_51 rfl rfl rfl ?_
          refine ⟨rfl, ?_⟩
          rw [← hH]
          simp only [List.set_comm _ _ (show (2 : Nat) ≠ 3 by decide), List.set_set]
