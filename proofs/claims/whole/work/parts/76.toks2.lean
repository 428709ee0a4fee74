/-- nothing but the tokens has changed -/
def tkF (h h1 : mj_H) : Prop := h1.length = h.length ∧ mj_sl h1 = mj_sl h ∧ (∀ x, ¬ (9 ≤ x ∧ x ≤ 12) → h1[x]? = h[x]?)
theorem tkF_rf (h : mj_H) : tkF h h := ⟨rfl, rfl, fun _ _ => rfl⟩
theorem tkF_tr {h h1 h2 : mj_H} (a : tkF h h1) (b : tkF h1 h2) : tkF h h2 := ⟨b.1.trans a.1, b.2.1.trans a.2.1, fun x hx => (b.2.2 x hx).trans (a.2.2 x hx)⟩
theorem tkF_set {h : mj_H} {a : Nat} {e e' : mj_E} (ha : 9 ≤ a ∧ a ≤ 12) (hg : h[a]? = some e) (hs : mj_sl1 e' = mj_sl1 e) : tkF h (h.set a e') := ⟨by rw [List.length_set], sl_set hg hs, fun x hx => by rw [List.getElem?_set_ne (show a ≠ x from fun z => hx (by rw [← z]; exact ha))]⟩
set_option maxRecDepth 20000 in
theorem pm_X8_add : mj_mmof pg_ms 24 = some ((⟨"ArrayCalculator$Tokens", "add", "(IIJI)V"⟩, prog_10_method_11_code, 6, (Option.none : Option Jvm.ClassFile.FieldType)), 8, false, mj_dec prog_10_method_11_code) := rfl
theorem dm_X8_add_0 : mj_dec prog_10_method_11_code 0 = some (.aload_n 0, 1) := by decide +kernel
theorem dm_X8_add_1 : mj_dec prog_10_method_11_code 1 = some (.getfield 39, 3) := by decide +kernel
theorem dm_X8_add_4 : mj_dec prog_10_method_11_code 4 = some (.aload_n 0, 1) := by decide +kernel
theorem dm_X8_add_5 : mj_dec prog_10_method_11_code 5 = some (.getfield 9, 3) := by decide +kernel
theorem dm_X8_add_8 : mj_dec prog_10_method_11_code 8 = some (.arraylength, 1) := by decide +kernel
theorem dm_X8_add_9 : mj_dec prog_10_method_11_code 9 = some (.if_icmp .ge 43, 3) := by decide +kernel
theorem dm_X8_add_12 : mj_dec prog_10_method_11_code 12 = some (.aload_n 0, 1) := by decide +kernel
theorem dm_X8_add_13 : mj_dec prog_10_method_11_code 13 = some (.getfield 9, 3) := by decide +kernel
theorem dm_X8_add_16 : mj_dec prog_10_method_11_code 16 = some (.aload_n 0, 1) := by decide +kernel
theorem dm_X8_add_17 : mj_dec prog_10_method_11_code 17 = some (.getfield 39, 3) := by decide +kernel
theorem dm_X8_add_20 : mj_dec prog_10_method_11_code 20 = some (.iload_n 1, 1) := by decide +kernel
theorem dm_X8_add_21 : mj_dec prog_10_method_11_code 21 = some (.iastore, 1) := by decide +kernel
theorem dm_X8_add_22 : mj_dec prog_10_method_11_code 22 = some (.aload_n 0, 1) := by decide +kernel
theorem dm_X8_add_23 : mj_dec prog_10_method_11_code 23 = some (.getfield 15, 3) := by decide +kernel
theorem dm_X8_add_26 : mj_dec prog_10_method_11_code 26 = some (.aload_n 0, 1) := by decide +kernel
theorem dm_X8_add_27 : mj_dec prog_10_method_11_code 27 = some (.getfield 39, 3) := by decide +kernel
theorem dm_X8_add_30 : mj_dec prog_10_method_11_code 30 = some (.iload_n 2, 1) := by decide +kernel
theorem dm_X8_add_31 : mj_dec prog_10_method_11_code 31 = some (.iastore, 1) := by decide +kernel
theorem dm_X8_add_32 : mj_dec prog_10_method_11_code 32 = some (.aload_n 0, 1) := by decide +kernel
theorem dm_X8_add_33 : mj_dec prog_10_method_11_code 33 = some (.getfield 18, 3) := by decide +kernel
theorem dm_X8_add_36 : mj_dec prog_10_method_11_code 36 = some (.aload_n 0, 1) := by decide +kernel
theorem dm_X8_add_37 : mj_dec prog_10_method_11_code 37 = some (.getfield 39, 3) := by decide +kernel
theorem dm_X8_add_40 : mj_dec prog_10_method_11_code 40 = some (.lload_n 3, 1) := by decide +kernel
theorem dm_X8_add_41 : mj_dec prog_10_method_11_code 41 = some (.lastore, 1) := by decide +kernel
theorem dm_X8_add_42 : mj_dec prog_10_method_11_code 42 = some (.aload_n 0, 1) := by decide +kernel
theorem dm_X8_add_43 : mj_dec prog_10_method_11_code 43 = some (.dup, 1) := by decide +kernel
theorem dm_X8_add_44 : mj_dec prog_10_method_11_code 44 = some (.getfield 39, 3) := by decide +kernel
theorem dm_X8_add_47 : mj_dec prog_10_method_11_code 47 = some (.iconst 1, 1) := by decide +kernel
theorem dm_X8_add_48 : mj_dec prog_10_method_11_code 48 = some (.iadd, 1) := by decide +kernel
theorem dm_X8_add_49 : mj_dec prog_10_method_11_code 49 = some (.putfield 39, 3) := by decide +kernel
theorem dm_X8_add_52 : mj_dec prog_10_method_11_code 52 = some (.aload_n 0, 1) := by decide +kernel
theorem dm_X8_add_53 : mj_dec prog_10_method_11_code 53 = some (.iload 5, 2) := by decide +kernel
theorem dm_X8_add_55 : mj_dec prog_10_method_11_code 55 = some (.putfield 42, 3) := by decide +kernel
theorem dm_X8_add_58 : mj_dec prog_10_method_11_code 58 = some (.return_, 1) := by decide +kernel
theorem x_addT {xt : mj_X} {d mk ln : Nat} {le_ : Int} {gd : Bool} {sf pf bf : Nat → Int} {df : Nat → Int64} {h : mj_H} (hd : 1 ≤ d) (hT : TK h mk le_ ln gd sf pf bf df) {so pl en : Int} {da : Int64} (hr : mk < 201) : pgN xt d 24 [.ref 9, ii so, ii pl, .long da, ii en] h (fun h' => TK h' (mk + 1) en ln gd (va_up sf mk so) (va_up pf mk pl) bf (va_up df mk da) ∧ tkF h h') := by
  obtain ⟨h9, h10, h11, h12, h3, hmk, hln⟩ := id hT
  refine x_enter pm_X8_add (L0 := [(0, .ref 9), (1, ii so), (2, ii pl), (3, .long da), (5, ii en)]) rfl (Nat.le_of_ble_eq_true rfl) (by omega) ?_
  refine me1 (pc' := 1) (L' := [(0, .ref 9), (1, ii so), (2, ii pl), (3, .long da), (5, ii en)]) (S' := [.ref 9]) dm_X8_add_0 rfl rfl rfl rfl ?_
  refine me3 (pc' := 4) (S' := [ii (mk : Int)]) dm_X8_add_1 (g_get (v := ii (mk : Int)) h9 rfl rfl (by decide)) rfl rfl rfl ?_
  refine me1 (pc' := 5) (L' := [(0, .ref 9), (1, ii so), (2, ii pl), (3, .long da), (5, ii en)]) (S' := [.ref 9, ii (mk : Int)]) dm_X8_add_4 rfl rfl rfl rfl ?_
  refine me3 (pc' := 8) (S' := [.ref 10, ii (mk : Int)]) dm_X8_add_5 (g_get (v := .ref 10) h9 rfl rfl (by decide)) rfl rfl rfl ?_
  refine me3 (pc' := 9) (S' := [ii 201, ii (mk : Int)]) dm_X8_add_8 (yh_len (n := 201) rfl h10 (by decide)) rfl rfl rfl ?_
  refine y_2ge (a := (mk : Int)) (b := 201) (t := 52) (pc' := 12) dm_X8_add_9 rfl rfl (by omega) (fun hb1 => ?_) (fun hb1 => ?_)
  · exfalso; omega
  · refine me1 (pc' := 13) (L' := [(0, .ref 9), (1, ii so), (2, ii pl), (3, .long da), (5, ii en)]) (S' := [.ref 9]) dm_X8_add_12 rfl rfl rfl rfl ?_
    refine me3 (pc' := 16) (S' := [.ref 10]) dm_X8_add_13 (g_get (v := .ref 10) h9 rfl rfl (by decide)) rfl rfl rfl ?_
    refine me1 (pc' := 17) (L' := [(0, .ref 9), (1, ii so), (2, ii pl), (3, .long da), (5, ii en)]) (S' := [.ref 9, .ref 10]) dm_X8_add_16 rfl rfl rfl rfl ?_
    refine me3 (pc' := 20) (S' := [ii (mk : Int), .ref 10]) dm_X8_add_17 (g_get (v := ii (mk : Int)) h9 rfl rfl (by decide)) rfl rfl rfl ?_
    refine me1 (pc' := 21) (L' := [(0, .ref 9), (1, ii so), (2, ii pl), (3, .long da), (5, ii en)]) (S' := [ii so, ii (mk : Int), .ref 10]) dm_X8_add_20 rfl rfl rfl rfl ?_
    refine me3 (pc' := 22) (S' := []) (h1 := (h).set 10 (cI 201 (va_up sf mk so))) dm_X8_add_21 (yh_iast (j := (mk : Int)) h10 (by omega) (by omega) (by omega) (by decide)) rfl rfl rfl ?_
    refine me1 (pc' := 23) (L' := [(0, .ref 9), (1, ii so), (2, ii pl), (3, .long da), (5, ii en)]) (S' := [.ref 9]) dm_X8_add_22 rfl rfl rfl rfl ?_
    refine me3 (pc' := 26) (S' := [.ref 11]) dm_X8_add_23 (g_get (v := .ref 11) (hl_ne (by decide) h9) rfl rfl (by decide)) rfl rfl rfl ?_
    refine me1 (pc' := 27) (L' := [(0, .ref 9), (1, ii so), (2, ii pl), (3, .long da), (5, ii en)]) (S' := [.ref 9, .ref 11]) dm_X8_add_26 rfl rfl rfl rfl ?_
    refine me3 (pc' := 30) (S' := [ii (mk : Int), .ref 11]) dm_X8_add_27 (g_get (v := ii (mk : Int)) (hl_ne (by decide) h9) rfl rfl (by decide)) rfl rfl rfl ?_
    refine me1 (pc' := 31) (L' := [(0, .ref 9), (1, ii so), (2, ii pl), (3, .long da), (5, ii en)]) (S' := [ii pl, ii (mk : Int), .ref 11]) dm_X8_add_30 rfl rfl rfl rfl ?_
    refine me3 (pc' := 32) (S' := []) (h1 := ((h).set 10 (cI 201 (va_up sf mk so))).set 11 (cI 201 (va_up pf mk pl))) dm_X8_add_31 (yh_iast (j := (mk : Int)) (hl_ne (by decide) h11) (by omega) (by omega) (by omega) (by decide)) rfl rfl rfl ?_
    refine me1 (pc' := 33) (L' := [(0, .ref 9), (1, ii so), (2, ii pl), (3, .long da), (5, ii en)]) (S' := [.ref 9]) dm_X8_add_32 rfl rfl rfl rfl ?_
    refine me3 (pc' := 36) (S' := [.ref 12]) dm_X8_add_33 (g_get (v := .ref 12) (hl_ne (by decide) (hl_ne (by decide) h9)) rfl rfl (by decide)) rfl rfl rfl ?_
    refine me1 (pc' := 37) (L' := [(0, .ref 9), (1, ii so), (2, ii pl), (3, .long da), (5, ii en)]) (S' := [.ref 9, .ref 12]) dm_X8_add_36 rfl rfl rfl rfl ?_
    refine me3 (pc' := 40) (S' := [ii (mk : Int), .ref 12]) dm_X8_add_37 (g_get (v := ii (mk : Int)) (hl_ne (by decide) (hl_ne (by decide) h9)) rfl rfl (by decide)) rfl rfl rfl ?_
    refine me1 (pc' := 41) (L' := [(0, .ref 9), (1, ii so), (2, ii pl), (3, .long da), (5, ii en)]) (S' := [.long da, ii (mk : Int), .ref 12]) dm_X8_add_40 rfl rfl rfl rfl ?_
    refine me3 (pc' := 42) (S' := []) (h1 := (((h).set 10 (cI 201 (va_up sf mk so))).set 11 (cI 201 (va_up pf mk pl))).set 12 (cJ 201 (va_up df mk da))) dm_X8_add_41 (yh_last (j := (mk : Int)) (hl_ne (by decide) (hl_ne (by decide) h12)) (by omega) (by omega) (by omega) (by decide)) rfl rfl rfl ?_
    refine me1 (pc' := 43) (L' := [(0, .ref 9), (1, ii so), (2, ii pl), (3, .long da), (5, ii en)]) (S' := [.ref 9]) dm_X8_add_42 rfl rfl rfl rfl ?_
    refine me0 (pc' := 44) (S' := [.ref 9, .ref 9]) dm_X8_add_43 rfl rfl rfl rfl ?_
    refine me3 (pc' := 47) (S' := [ii (mk : Int), .ref 9]) dm_X8_add_44 (g_get (v := ii (mk : Int)) (hl_ne (by decide) (hl_ne (by decide) (hl_ne (by decide) h9))) rfl rfl (by decide)) rfl rfl rfl ?_
    refine me0 (pc' := 48) (S' := [ii 1, ii (mk : Int), .ref 9]) dm_X8_add_47 rfl rfl rfl rfl ?_
    refine y_iadd (a := (mk : Int)) (b := 1) dm_X8_add_48 (pc' := 49) rfl ?_
    refine me3 (pc' := 52) (S' := []) (h1 := ((((h).set 10 (cI 201 (va_up sf mk so))).set 11 (cI 201 (va_up pf mk pl))).set 12 (cJ 201 (va_up df mk da))).set 9 (cO 8 [.ref 10, .ref 11, .ref 12, ii ((mk : Int) + 1), ii le_, .ref 3, .ref 4, ii (ln : Int), zz gd])) dm_X8_add_49 (g_put (fs' := [.ref 10, .ref 11, .ref 12, ii ((mk : Int) + 1), ii le_, .ref 3, .ref 4, ii (ln : Int), zz gd]) (hl_ne (by decide) (hl_ne (by decide) (hl_ne (by decide) h9))) rfl rfl rfl (by simp) rfl (by decide) (fun z => by cases z) (by decide)) rfl rfl rfl ?_
    refine me1 (pc' := 53) (L' := [(0, .ref 9), (1, ii so), (2, ii pl), (3, .long da), (5, ii en)]) (S' := [.ref 9]) dm_X8_add_52 rfl rfl rfl rfl ?_
    refine me1 (pc' := 55) (L' := [(0, .ref 9), (1, ii so), (2, ii pl), (3, .long da), (5, ii en)]) (S' := [ii en, .ref 9]) dm_X8_add_53 rfl rfl rfl rfl ?_
    refine me3 (pc' := 58) (S' := []) (h1 := ((((h).set 10 (cI 201 (va_up sf mk so))).set 11 (cI 201 (va_up pf mk pl))).set 12 (cJ 201 (va_up df mk da))).set 9 (cO 8 [.ref 10, .ref 11, .ref 12, ii ((mk : Int) + 1), ii en, .ref 3, .ref 4, ii (ln : Int), zz gd])) dm_X8_add_55 (g_put (fs' := [.ref 10, .ref 11, .ref 12, ii ((mk : Int) + 1), ii en, .ref 3, .ref 4, ii (ln : Int), zz gd]) (hl_set (hl_lt (hl_ne (by decide) (hl_ne (by decide) (hl_ne (by decide) h9))))) rfl (by rw [List.set_set]) rfl (by simp) rfl (by decide) (fun z => by cases z) (by decide)) rfl rfl rfl ?_
    refine y_ret (r := none) dm_X8_add_58 rfl rfl rfl ?_
    refine ⟨rfl, ⟨(hl_set (hl_lt (hl_ne (by decide) (hl_ne (by decide) (hl_ne (by decide) h9))))), (hl_ne (by decide) (hl_ne (by decide) (hl_ne (by decide) (hl_set (hl_lt h10))))), (hl_ne (by decide) (hl_ne (by decide) (hl_set (hl_lt (hl_ne (by decide) h11))))), (hl_ne (by decide) (hl_set (hl_lt (hl_ne (by decide) (hl_ne (by decide) h12))))), (hl_ne (by decide) (hl_ne (by decide) (hl_ne (by decide) (hl_ne (by decide) h3)))), by omega, by omega⟩, (tkF_tr (tkF_tr (tkF_tr (show tkF (h) ((h).set 10 (cI 201 (va_up sf mk so))) from tkF_set (a := 10) (by decide) h10 rfl) (show tkF ((h).set 10 (cI 201 (va_up sf mk so))) (((h).set 10 (cI 201 (va_up sf mk so))).set 11 (cI 201 (va_up pf mk pl))) from tkF_set (a := 11) (by decide) (hl_ne (by decide) h11) rfl)) (show tkF (((h).set 10 (cI 201 (va_up sf mk so))).set 11 (cI 201 (va_up pf mk pl))) ((((h).set 10 (cI 201 (va_up sf mk so))).set 11 (cI 201 (va_up pf mk pl))).set 12 (cJ 201 (va_up df mk da))) from tkF_set (a := 12) (by decide) (hl_ne (by decide) (hl_ne (by decide) h12)) rfl)) (show tkF ((((h).set 10 (cI 201 (va_up sf mk so))).set 11 (cI 201 (va_up pf mk pl))).set 12 (cJ 201 (va_up df mk da))) (((((h).set 10 (cI 201 (va_up sf mk so))).set 11 (cI 201 (va_up pf mk pl))).set 12 (cJ 201 (va_up df mk da))).set 9 (cO 8 [.ref 10, .ref 11, .ref 12, ii ((mk : Int) + 1), ii en, .ref 3, .ref 4, ii (ln : Int), zz gd])) from tkF_set (a := 9) (by decide) (hl_ne (by decide) (hl_ne (by decide) (hl_ne (by decide) h9))) rfl))⟩
