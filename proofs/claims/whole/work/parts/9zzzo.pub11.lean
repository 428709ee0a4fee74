/-! keep, back, print -/
/-- the cells of a new Names -/
def nmN (L : Nat) : mj_H := [cO 2 [.ref (L + 1), .ref (L + 2), ii 0, .ref (L + 3), .ref (L + 4), ii 0], cJ 40 (fun _ => 0), cA 4 40 (fun _ => none), cJ 40 (fun _ => 0), cA 5 40 (fun _ => none)]
theorem n_initA {xt : mj_X} {d : Nat} {h : mj_H} (hd : 3 ≤ d) (hl : 127 ≤ h.length) : pgN xt d 1 [.ref h.length] (h ++ [cO 2 [.null, .null, ii 0, .null, .null, ii 0]]) (fun h' => h' = h ++ nmN h.length) := by
  refine pgN_mono (n_init (o := h.length) hd (hl_newa rfl) (by omega)) (fun h' e => ?_)
  rw [e, hl_setl, List.append_assoc, List.length_append]
  rfl
theorem app_at {h X : mj_H} {i : Nat} {e : mj_E} (he : X[i]? = some e) : (h ++ X)[h.length + i]? = some e := by
  rw [List.getElem?_append_right (by omega), show h.length + i - h.length = i by omega]
  exact he
theorem nmN_NS {h : mj_H} {Y : mj_E} (hl : 127 ≤ h.length) : NS ((h ++ nmN h.length).set 15 Y) h.length (h.length + 1) (h.length + 2) (h.length + 3) (h.length + 4) 0 (fun _ => 0) (fun _ => none) 0 (fun _ => 0) (fun _ => none) :=
  ⟨hl_ne (by omega) (app_at (i := 0) rfl), hl_ne (by omega) (app_at (i := 1) rfl), hl_ne (by omega) (app_at (i := 2) rfl), hl_ne (by omega) (app_at (i := 3) rfl), hl_ne (by omega) (app_at (i := 4) rfl)⟩
theorem NS_app {h X : mj_H} {Y : mj_E} {n m : Nat} {kf jf : Nat → Int64} {vf of : Nat → Option Nat} (hS : NS h 4 5 6 7 8 n kf vf m jf of) : NS ((h ++ X).set 15 Y) 4 5 6 7 8 n kf vf m jf of :=
  ⟨hl_ne (by decide) (hl_app hS.1), hl_ne (by decide) (hl_app hS.2.1), hl_ne (by decide) (hl_app hS.2.2.1), hl_ne (by decide) (hl_app hS.2.2.2.1), hl_ne (by decide) (hl_app hS.2.2.2.2)⟩
theorem ENT_app {h X : mj_H} {Y : mj_E} {c t n : Nat} {g vf : Nat → Option Nat} (h15 : h[15]? = some (cA t n g)) (hE : ENT h c vf) : ENT ((h ++ X).set 15 Y) c vf := fun k hk => by
  rcases hE k hk with z | ⟨q, fs, e1, e2, e3⟩
  · exact Or.inl z
  · exact Or.inr ⟨q, fs, e1, e2, hl_ne (fun z => by rw [z, h15] at e3; cases e3) (hl_app e3)⟩
/-- what print leaves: k bytes of the page -/
def ptS (t : RS) (k : Nat) : RS := (va_up t.1 18 (t.1 17), t.2.1, va_up t.2.2.1 16 (fl k (t.2.2.1 15) (t.2.2.1 16)), t.2.2.2)
theorem ptS_0 {t : RS} : (va_up t.1 18 (t.1 17), t.2.1, t.2.2.1, t.2.2.2) = ptS t 0 := by
  unfold ptS
  rw [fl_0, up_self]
theorem pt_16 {t : RS} {k : Nat} : (ptS t k).2.2.1 16 = fl k (t.2.2.1 15) (t.2.2.1 16) := by
  show va_up t.2.2.1 16 (fl k (t.2.2.1 15) (t.2.2.1 16)) 16 = _
  rw [up_eq]
theorem pt_18 {t : RS} {k : Nat} : (ptS t k).1 18 = t.1 17 := by
  show va_up t.1 18 (t.1 17) 18 = _
  rw [up_eq]
theorem pt_i {t : RS} {k j : Nat} (h : j ≠ 18) : (ptS t k).1 j = t.1 j := by
  show va_up t.1 18 (t.1 17) j = _
  rw [up_ne _ _ h]
theorem pt_I {t : RS} {k j : Nat} (h : j ≠ 16) : (ptS t k).2.2.1 j = t.2.2.1 j := by
  show va_up t.2.2.1 16 (fl k (t.2.2.1 15) (t.2.2.1 16)) j = _
  rw [up_ne _ _ h]
theorem ptS_s {t : RS} {k : Nat} : ((ptS t k).1, (ptS t k).2.1, va_up (ptS t k).2.2.1 16 (va_up ((ptS t k).2.2.1 16) k (t.2.2.1 15 k)), (ptS t k).2.2.2) = ptS t (k + 1) := by
  have e : (ptS t k).2.2.1 16 = fl k (t.2.2.1 15) (t.2.2.1 16) := pt_16
  rw [e, fl_s]
  unfold ptS
  show (_, _, va_up (va_up t.2.2.1 16 _) 16 _, _) = _
  rw [up_up]
theorem bl_0 (f : Nat → Int) : bl f 0 = [] := rfl
theorem rpr_n {t : RS} {l : List Int} (h : rpr t (([] ++ l).take 400)) (hl : okL l) : ∃ m : Nat, t.1 17 = (m : Int) ∧ m ≤ 400 ∧ m = (l.take 400).length ∧ bl (t.2.2.1 15) m = l.take 400 ∧ ∀ k, k < m → 32 ≤ t.2.2.1 15 k ∧ t.2.2.1 15 k ≤ 126 := by
  obtain ⟨⟨h0, h1⟩, h2⟩ := h
  rw [List.nil_append] at h2
  refine ⟨(t.1 17).toNat, by omega, by omega, ?_, h2.symm, fun k hk => ?_⟩
  · rw [h2, bl_len]
  · have hm := bl_mem (f := t.2.2.1 15) hk
    rw [← h2] at hm
    exact hl _ (List.mem_of_mem_take hm)
theorem bl_fl {f g : Nat → Int} {m : Nat} : bl (fl m f g) m = bl f m := bl_congr (fun j hj => if_pos hj)
set_option maxRecDepth 20000 in
theorem pm_X11_keep : mj_mmof pg_ms 188 = some ((⟨"ArrayCalculator", "keep", "(I)Z"⟩, prog_1_method_15_code, 2, (Option.some Jvm.ClassFile.FieldType.boolean)), 11, false, mj_dec prog_1_method_15_code) := rfl
theorem dm_X11_keep_0 : mj_dec prog_1_method_15_code 0 = some (.iload_n 1, 1) := by decide +kernel
theorem dm_X11_keep_1 : mj_dec prog_1_method_15_code 1 = some (.ifCond .lt 12, 3) := by decide +kernel
theorem dm_X11_keep_4 : mj_dec prog_1_method_15_code 4 = some (.iload_n 1, 1) := by decide +kernel
theorem dm_X11_keep_5 : mj_dec prog_1_method_15_code 5 = some (.aload_n 0, 1) := by decide +kernel
theorem dm_X11_keep_6 : mj_dec prog_1_method_15_code 6 = some (.getfield 38, 3) := by decide +kernel
theorem dm_X11_keep_9 : mj_dec prog_1_method_15_code 9 = some (.arraylength, 1) := by decide +kernel
theorem dm_X11_keep_10 : mj_dec prog_1_method_15_code 10 = some (.if_icmp .lt 5, 3) := by decide +kernel
theorem dm_X11_keep_13 : mj_dec prog_1_method_15_code 13 = some (.iconst 0, 1) := by decide +kernel
theorem dm_X11_keep_14 : mj_dec prog_1_method_15_code 14 = some (.ireturn, 1) := by decide +kernel
theorem a_keepN {xt : mj_X} {d qr qp : Nat} {h : mj_H} {fd le lp lw : Int} (hd : 1 ≤ d) (h2 : h[2]? = some (acC fd qr qp le lp lw)) {g : Nat → Option Nat} (h15 : h[15]? = some (cA 6 4 g)) {k : Int} (hk : -2147483648 ≤ k ∧ k ≤ 2147483647) (hno : k < 0 ∨ 4 ≤ k) : pgP xt d 188 [.ref 2, ii k] h (ii 0) := by
  refine x_enter pm_X11_keep (L0 := [(0, .ref 2), (1, ii k)]) rfl (Nat.le_of_ble_eq_true rfl) (by omega) ?_
  refine me1 (pc' := 1) (L' := [(0, .ref 2), (1, ii k)]) (S' := [ii k]) dm_X11_keep_0 rfl rfl rfl rfl ?_
  refine y_1lt (a := k) (t := 13) (pc' := 4) dm_X11_keep_1 rfl rfl (by omega) (fun hb1 => ?_) (fun hb1 => ?_)
  · refine me0 (pc' := 14) (S' := [ii 0]) dm_X11_keep_13 rfl rfl rfl rfl ?_
    refine y_ret (r := some (ii 0)) dm_X11_keep_14 rfl rfl rfl ?_
    exact ⟨rfl, rfl⟩
  · refine me1 (pc' := 5) (L' := [(0, .ref 2), (1, ii k)]) (S' := [ii k]) dm_X11_keep_4 rfl rfl rfl rfl ?_
    refine me1 (pc' := 6) (L' := [(0, .ref 2), (1, ii k)]) (S' := [.ref 2, ii k]) dm_X11_keep_5 rfl rfl rfl rfl ?_
    refine me3 (pc' := 9) (S' := [.ref 15, ii k]) dm_X11_keep_6 (g_get (v := .ref 15) h2 rfl rfl (by decide)) rfl rfl rfl ?_
    refine me3 (pc' := 10) (S' := [ii 4, ii k]) dm_X11_keep_9 (yh_len (n := 4) rfl h15 (by decide)) rfl rfl rfl ?_
    refine y_2lt (a := k) (b := 4) (t := 15) (pc' := 13) dm_X11_keep_10 rfl rfl (by omega) (fun hb2 => ?_) (fun hb2 => ?_)
    · exfalso; omega
    · refine me0 (pc' := 14) (S' := [ii 0]) dm_X11_keep_13 rfl rfl rfl rfl ?_
      refine y_ret (r := some (ii 0)) dm_X11_keep_14 rfl rfl rfl ?_
      exact ⟨rfl, rfl⟩
set_option maxRecDepth 20000 in
theorem pm_X11_back : mj_mmof pg_ms 190 = some ((⟨"ArrayCalculator", "back", "(I)Z"⟩, prog_1_method_16_code, 2, (Option.some Jvm.ClassFile.FieldType.boolean)), 11, false, mj_dec prog_1_method_16_code) := rfl
theorem dm_X11_back_0 : mj_dec prog_1_method_16_code 0 = some (.iload_n 1, 1) := by decide +kernel
theorem dm_X11_back_1 : mj_dec prog_1_method_16_code 1 = some (.ifCond .lt 21, 3) := by decide +kernel
theorem dm_X11_back_4 : mj_dec prog_1_method_16_code 4 = some (.iload_n 1, 1) := by decide +kernel
theorem dm_X11_back_5 : mj_dec prog_1_method_16_code 5 = some (.aload_n 0, 1) := by decide +kernel
theorem dm_X11_back_6 : mj_dec prog_1_method_16_code 6 = some (.getfield 38, 3) := by decide +kernel
theorem dm_X11_back_9 : mj_dec prog_1_method_16_code 9 = some (.arraylength, 1) := by decide +kernel
theorem dm_X11_back_10 : mj_dec prog_1_method_16_code 10 = some (.if_icmp .ge 12, 3) := by decide +kernel
theorem dm_X11_back_22 : mj_dec prog_1_method_16_code 22 = some (.iconst 0, 1) := by decide +kernel
theorem dm_X11_back_23 : mj_dec prog_1_method_16_code 23 = some (.ireturn, 1) := by decide +kernel
theorem a_backN {xt : mj_X} {d qr qp : Nat} {h : mj_H} {fd le lp lw : Int} (hd : 1 ≤ d) (h2 : h[2]? = some (acC fd qr qp le lp lw)) {g : Nat → Option Nat} (h15 : h[15]? = some (cA 6 4 g)) {k : Int} (hk : -2147483648 ≤ k ∧ k ≤ 2147483647) (hno : k < 0 ∨ 4 ≤ k) : pgP xt d 190 [.ref 2, ii k] h (ii 0) := by
  refine x_enter pm_X11_back (L0 := [(0, .ref 2), (1, ii k)]) rfl (Nat.le_of_ble_eq_true rfl) (by omega) ?_
  refine me1 (pc' := 1) (L' := [(0, .ref 2), (1, ii k)]) (S' := [ii k]) dm_X11_back_0 rfl rfl rfl rfl ?_
  refine y_1lt (a := k) (t := 22) (pc' := 4) dm_X11_back_1 rfl rfl (by omega) (fun hb1 => ?_) (fun hb1 => ?_)
  · refine me0 (pc' := 23) (S' := [ii 0]) dm_X11_back_22 rfl rfl rfl rfl ?_
    refine y_ret (r := some (ii 0)) dm_X11_back_23 rfl rfl rfl ?_
    exact ⟨rfl, rfl⟩
  · refine me1 (pc' := 5) (L' := [(0, .ref 2), (1, ii k)]) (S' := [ii k]) dm_X11_back_4 rfl rfl rfl rfl ?_
    refine me1 (pc' := 6) (L' := [(0, .ref 2), (1, ii k)]) (S' := [.ref 2, ii k]) dm_X11_back_5 rfl rfl rfl rfl ?_
    refine me3 (pc' := 9) (S' := [.ref 15, ii k]) dm_X11_back_6 (g_get (v := .ref 15) h2 rfl rfl (by decide)) rfl rfl rfl ?_
    refine me3 (pc' := 10) (S' := [ii 4, ii k]) dm_X11_back_9 (yh_len (n := 4) rfl h15 (by decide)) rfl rfl rfl ?_
    refine y_2ge (a := k) (b := 4) (t := 22) (pc' := 13) dm_X11_back_10 rfl rfl (by omega) (fun hb2 => ?_) (fun hb2 => ?_)
    · refine me0 (pc' := 23) (S' := [ii 0]) dm_X11_back_22 rfl rfl rfl rfl ?_
      refine y_ret (r := some (ii 0)) dm_X11_back_23 rfl rfl rfl ?_
      exact ⟨rfl, rfl⟩
    · exfalso; omega
theorem dm_X11_back_13 : mj_dec prog_1_method_16_code 13 = some (.aload_n 0, 1) := by decide +kernel
theorem dm_X11_back_14 : mj_dec prog_1_method_16_code 14 = some (.getfield 38, 3) := by decide +kernel
theorem dm_X11_back_17 : mj_dec prog_1_method_16_code 17 = some (.iload_n 1, 1) := by decide +kernel
theorem dm_X11_back_18 : mj_dec prog_1_method_16_code 18 = some (.aaload, 1) := by decide +kernel
theorem dm_X11_back_19 : mj_dec prog_1_method_16_code 19 = some (.ifnonnull 5, 3) := by decide +kernel
theorem a_backF {xt : mj_X} {d qr qp : Nat} {h : mj_H} {fd le lp lw : Int} (hd : 1 ≤ d) (h2 : h[2]? = some (acC fd qr qp le lp lw)) {g : Nat → Option Nat} (h15 : h[15]? = some (cA 6 4 g)) {k : Nat} (hk : k < 4) (hg : g k = none) : pgP xt d 190 [.ref 2, ii (k : Int)] h (ii 0) := by
  refine x_enter pm_X11_back (L0 := [(0, .ref 2), (1, ii (k : Int))]) rfl (Nat.le_of_ble_eq_true rfl) (by omega) ?_
  refine me1 (pc' := 1) (L' := [(0, .ref 2), (1, ii (k : Int))]) (S' := [ii (k : Int)]) dm_X11_back_0 rfl rfl rfl rfl ?_
  refine y_1lt (a := (k : Int)) (t := 22) (pc' := 4) dm_X11_back_1 rfl rfl (by omega) (fun hb1 => ?_) (fun hb1 => ?_)
  · exfalso; omega
  · refine me1 (pc' := 5) (L' := [(0, .ref 2), (1, ii (k : Int))]) (S' := [ii (k : Int)]) dm_X11_back_4 rfl rfl rfl rfl ?_
    refine me1 (pc' := 6) (L' := [(0, .ref 2), (1, ii (k : Int))]) (S' := [.ref 2, ii (k : Int)]) dm_X11_back_5 rfl rfl rfl rfl ?_
    refine me3 (pc' := 9) (S' := [.ref 15, ii (k : Int)]) dm_X11_back_6 (g_get (v := .ref 15) h2 rfl rfl (by decide)) rfl rfl rfl ?_
    refine me3 (pc' := 10) (S' := [ii 4, ii (k : Int)]) dm_X11_back_9 (yh_len (n := 4) rfl h15 (by decide)) rfl rfl rfl ?_
    refine y_2ge (a := (k : Int)) (b := 4) (t := 22) (pc' := 13) dm_X11_back_10 rfl rfl (by omega) (fun hb2 => ?_) (fun hb2 => ?_)
    · exfalso; omega
    · refine me1 (pc' := 14) (L' := [(0, .ref 2), (1, ii (k : Int))]) (S' := [.ref 2]) dm_X11_back_13 rfl rfl rfl rfl ?_
      refine me3 (pc' := 17) (S' := [.ref 15]) dm_X11_back_14 (g_get (v := .ref 15) h2 rfl rfl (by decide)) rfl rfl rfl ?_
      refine me1 (pc' := 18) (L' := [(0, .ref 2), (1, ii (k : Int))]) (S' := [ii (k : Int), .ref 15]) dm_X11_back_17 rfl rfl rfl rfl ?_
      refine me3 (pc' := 19) (S' := [.null]) dm_X11_back_18 (yh_aald (w := none) rfl h15 (by omega) (by omega) (by omega) (by decide) hg) rfl rfl rfl ?_
      refine me2 (pc' := 22) (S' := []) dm_X11_back_19 rfl rfl rfl ?_
      refine me0 (pc' := 23) (S' := [ii 0]) dm_X11_back_22 rfl rfl rfl rfl ?_
      refine y_ret (r := some (ii 0)) dm_X11_back_23 rfl rfl rfl ?_
      exact ⟨rfl, rfl⟩
theorem dm_X11_back_24 : mj_dec prog_1_method_16_code 24 = some (.aload_n 0, 1) := by decide +kernel
theorem dm_X11_back_25 : mj_dec prog_1_method_16_code 25 = some (.getfield 16, 3) := by decide +kernel
theorem dm_X11_back_28 : mj_dec prog_1_method_16_code 28 = some (.aload_n 0, 1) := by decide +kernel
theorem dm_X11_back_29 : mj_dec prog_1_method_16_code 29 = some (.getfield 38, 3) := by decide +kernel
theorem dm_X11_back_32 : mj_dec prog_1_method_16_code 32 = some (.iload_n 1, 1) := by decide +kernel
theorem dm_X11_back_33 : mj_dec prog_1_method_16_code 33 = some (.aaload, 1) := by decide +kernel
theorem dm_X11_back_34 : mj_dec prog_1_method_16_code 34 = some (.invokevirtual 196, 3) := by decide +kernel
theorem dm_X11_back_37 : mj_dec prog_1_method_16_code 37 = some (.iconst 1, 1) := by decide +kernel
theorem dm_X11_back_38 : mj_dec prog_1_method_16_code 38 = some (.ireturn, 1) := by decide +kernel
theorem a_backY {xt : mj_X} {d qr qp : Nat} {h : mj_H} {fd le lp lw : Int} (hd : 2 ≤ d) (h2 : h[2]? = some (acC fd qr qp le lp lw)) {g : Nat → Option Nat} (h15 : h[15]? = some (cA 6 4 g)) {k : Nat} (hk : k < 4) {o a1 a2 a3 a4 n m n2 m2 : Nat} {kf jf kf2 jf2 : Nat → Int64} {vf of vf2 of2 : Nat → Option Nat} (hg : g k = some o) (hS : NS h o a1 a2 a3 a4 n kf vf m jf of) (hS2 : NS h 4 5 6 7 8 n2 kf2 vf2 m2 jf2 of2) (ho2 : 127 ≤ o ∧ 127 ≤ a1 ∧ 127 ≤ a2 ∧ 127 ≤ a3 ∧ 127 ≤ a4) (hV : ENT h 10 vf) (hO : ENT h 4 of) : pgV xt d 190 [.ref 2, ii (k : Int)] h (fun y h' => y = ii 1 ∧ h' = cpH h 4 5 6 7 8 n m (cpF kf2 kf 40) (cpF vf2 vf 40) (cpF jf2 jf 40) (cpF of2 of 40)) := by
  refine x_enter pm_X11_back (L0 := [(0, .ref 2), (1, ii (k : Int))]) rfl (Nat.le_of_ble_eq_true rfl) (by omega) ?_
  refine me1 (pc' := 1) (L' := [(0, .ref 2), (1, ii (k : Int))]) (S' := [ii (k : Int)]) dm_X11_back_0 rfl rfl rfl rfl ?_
  refine y_1lt (a := (k : Int)) (t := 22) (pc' := 4) dm_X11_back_1 rfl rfl (by omega) (fun hb1 => ?_) (fun hb1 => ?_)
  · exfalso; omega
  · refine me1 (pc' := 5) (L' := [(0, .ref 2), (1, ii (k : Int))]) (S' := [ii (k : Int)]) dm_X11_back_4 rfl rfl rfl rfl ?_
    refine me1 (pc' := 6) (L' := [(0, .ref 2), (1, ii (k : Int))]) (S' := [.ref 2, ii (k : Int)]) dm_X11_back_5 rfl rfl rfl rfl ?_
    refine me3 (pc' := 9) (S' := [.ref 15, ii (k : Int)]) dm_X11_back_6 (g_get (v := .ref 15) h2 rfl rfl (by decide)) rfl rfl rfl ?_
    refine me3 (pc' := 10) (S' := [ii 4, ii (k : Int)]) dm_X11_back_9 (yh_len (n := 4) rfl h15 (by decide)) rfl rfl rfl ?_
    refine y_2ge (a := (k : Int)) (b := 4) (t := 22) (pc' := 13) dm_X11_back_10 rfl rfl (by omega) (fun hb2 => ?_) (fun hb2 => ?_)
    · exfalso; omega
    · refine me1 (pc' := 14) (L' := [(0, .ref 2), (1, ii (k : Int))]) (S' := [.ref 2]) dm_X11_back_13 rfl rfl rfl rfl ?_
      refine me3 (pc' := 17) (S' := [.ref 15]) dm_X11_back_14 (g_get (v := .ref 15) h2 rfl rfl (by decide)) rfl rfl rfl ?_
      refine me1 (pc' := 18) (L' := [(0, .ref 2), (1, ii (k : Int))]) (S' := [ii (k : Int), .ref 15]) dm_X11_back_17 rfl rfl rfl rfl ?_
      refine me3 (pc' := 19) (S' := [.ref o]) dm_X11_back_18 (yh_aald (w := some o) rfl h15 (by omega) (by omega) (by omega) (by decide) hg) rfl rfl rfl ?_
      refine me2 (pc' := 24) (S' := []) dm_X11_back_19 rfl rfl rfl ?_
      refine me1 (pc' := 25) (L' := [(0, .ref 2), (1, ii (k : Int))]) (S' := [.ref 2]) dm_X11_back_24 rfl rfl rfl rfl ?_
      refine me3 (pc' := 28) (S' := [.ref 4]) dm_X11_back_25 (g_get (v := .ref 4) h2 rfl rfl (by decide)) rfl rfl rfl ?_
      refine me1 (pc' := 29) (L' := [(0, .ref 2), (1, ii (k : Int))]) (S' := [.ref 2, .ref 4]) dm_X11_back_28 rfl rfl rfl rfl ?_
      refine me3 (pc' := 32) (S' := [.ref 15, .ref 4]) dm_X11_back_29 (g_get (v := .ref 15) h2 rfl rfl (by decide)) rfl rfl rfl ?_
      refine me1 (pc' := 33) (L' := [(0, .ref 2), (1, ii (k : Int))]) (S' := [ii (k : Int), .ref 15, .ref 4]) dm_X11_back_32 rfl rfl rfl rfl ?_
      refine me3 (pc' := 34) (S' := [.ref o, .ref 4]) dm_X11_back_33 (yh_aald (w := some o) rfl h15 (by omega) (by omega) (by omega) (by decide) hg) rfl rfl rfl ?_
      refine x_cn (pc' := 37) (rest := []) dm_X11_back_34 rfl (g_inv (As := [.ref o]) (S := []) hS2.1 rfl rfl rfl (by decide)) rfl rfl rfl (n_copyOf (by omega) hS2 hS (by unfold NDis; decide) (by unfold CDis; omega) (by decide) (by omega) hV hO) ?_
      rintro _ rfl
      refine me0 (pc' := 38) (S' := [ii 1]) dm_X11_back_37 rfl rfl rfl rfl ?_
      refine y_ret (r := some (ii 1)) dm_X11_back_38 rfl rfl rfl ?_
      exact ⟨_, rfl, rfl, rfl⟩
theorem dm_X11_keep_15 : mj_dec prog_1_method_15_code 15 = some (.aload_n 0, 1) := by decide +kernel
theorem dm_X11_keep_16 : mj_dec prog_1_method_15_code 16 = some (.getfield 38, 3) := by decide +kernel
theorem dm_X11_keep_19 : mj_dec prog_1_method_15_code 19 = some (.iload_n 1, 1) := by decide +kernel
theorem dm_X11_keep_20 : mj_dec prog_1_method_15_code 20 = some (.aaload, 1) := by decide +kernel
theorem dm_X11_keep_21 : mj_dec prog_1_method_15_code 21 = some (.ifnonnull 16, 3) := by decide +kernel
theorem dm_X11_keep_37 : mj_dec prog_1_method_15_code 37 = some (.aload_n 0, 1) := by decide +kernel
theorem dm_X11_keep_38 : mj_dec prog_1_method_15_code 38 = some (.getfield 38, 3) := by decide +kernel
theorem dm_X11_keep_41 : mj_dec prog_1_method_15_code 41 = some (.iload_n 1, 1) := by decide +kernel
theorem dm_X11_keep_42 : mj_dec prog_1_method_15_code 42 = some (.aaload, 1) := by decide +kernel
theorem dm_X11_keep_43 : mj_dec prog_1_method_15_code 43 = some (.aload_n 0, 1) := by decide +kernel
theorem dm_X11_keep_44 : mj_dec prog_1_method_15_code 44 = some (.getfield 16, 3) := by decide +kernel
theorem dm_X11_keep_47 : mj_dec prog_1_method_15_code 47 = some (.invokevirtual 196, 3) := by decide +kernel
theorem dm_X11_keep_50 : mj_dec prog_1_method_15_code 50 = some (.iconst 1, 1) := by decide +kernel
theorem dm_X11_keep_51 : mj_dec prog_1_method_15_code 51 = some (.ireturn, 1) := by decide +kernel
theorem a_keepY {xt : mj_X} {d qr qp : Nat} {h : mj_H} {fd le lp lw : Int} (hd : 2 ≤ d) (h2 : h[2]? = some (acC fd qr qp le lp lw)) {g : Nat → Option Nat} (h15 : h[15]? = some (cA 6 4 g)) {k : Nat} (hk : k < 4) {o a1 a2 a3 a4 n m n2 m2 : Nat} {kf jf kf2 jf2 : Nat → Int64} {vf of vf2 of2 : Nat → Option Nat} (hg : g k = some o) (hS : NS h o a1 a2 a3 a4 n kf vf m jf of) (hS2 : NS h 4 5 6 7 8 n2 kf2 vf2 m2 jf2 of2) (ho2 : 127 ≤ o ∧ 127 ≤ a1 ∧ 127 ≤ a2 ∧ 127 ≤ a3 ∧ 127 ≤ a4) (hD : NDis o a1 a2 a3 a4) (hV : ENT h 10 vf2) (hO : ENT h 4 of2) : pgV xt d 188 [.ref 2, ii (k : Int)] h (fun y h' => y = ii 1 ∧ h' = cpH h o a1 a2 a3 a4 n2 m2 (cpF kf kf2 40) (cpF vf vf2 40) (cpF jf jf2 40) (cpF of of2 40)) := by
  refine x_enter pm_X11_keep (L0 := [(0, .ref 2), (1, ii (k : Int))]) rfl (Nat.le_of_ble_eq_true rfl) (by omega) ?_
  refine me1 (pc' := 1) (L' := [(0, .ref 2), (1, ii (k : Int))]) (S' := [ii (k : Int)]) dm_X11_keep_0 rfl rfl rfl rfl ?_
  refine y_1lt (a := (k : Int)) (t := 13) (pc' := 4) dm_X11_keep_1 rfl rfl (by omega) (fun hb1 => ?_) (fun hb1 => ?_)
  · exfalso; omega
  · refine me1 (pc' := 5) (L' := [(0, .ref 2), (1, ii (k : Int))]) (S' := [ii (k : Int)]) dm_X11_keep_4 rfl rfl rfl rfl ?_
    refine me1 (pc' := 6) (L' := [(0, .ref 2), (1, ii (k : Int))]) (S' := [.ref 2, ii (k : Int)]) dm_X11_keep_5 rfl rfl rfl rfl ?_
    refine me3 (pc' := 9) (S' := [.ref 15, ii (k : Int)]) dm_X11_keep_6 (g_get (v := .ref 15) h2 rfl rfl (by decide)) rfl rfl rfl ?_
    refine me3 (pc' := 10) (S' := [ii 4, ii (k : Int)]) dm_X11_keep_9 (yh_len (n := 4) rfl h15 (by decide)) rfl rfl rfl ?_
    refine y_2lt (a := (k : Int)) (b := 4) (t := 15) (pc' := 13) dm_X11_keep_10 rfl rfl (by omega) (fun hb2 => ?_) (fun hb2 => ?_)
    · refine me1 (pc' := 16) (L' := [(0, .ref 2), (1, ii (k : Int))]) (S' := [.ref 2]) dm_X11_keep_15 rfl rfl rfl rfl ?_
      refine me3 (pc' := 19) (S' := [.ref 15]) dm_X11_keep_16 (g_get (v := .ref 15) h2 rfl rfl (by decide)) rfl rfl rfl ?_
      refine me1 (pc' := 20) (L' := [(0, .ref 2), (1, ii (k : Int))]) (S' := [ii (k : Int), .ref 15]) dm_X11_keep_19 rfl rfl rfl rfl ?_
      refine me3 (pc' := 21) (S' := [.ref o]) dm_X11_keep_20 (yh_aald (w := some o) rfl h15 (by omega) (by omega) (by omega) (by decide) hg) rfl rfl rfl ?_
      refine me2 (pc' := 37) (S' := []) dm_X11_keep_21 rfl rfl rfl ?_
      refine me1 (pc' := 38) (L' := [(0, .ref 2), (1, ii (k : Int))]) (S' := [.ref 2]) dm_X11_keep_37 rfl rfl rfl rfl ?_
      refine me3 (pc' := 41) (S' := [.ref 15]) dm_X11_keep_38 (g_get (v := .ref 15) h2 rfl rfl (by decide)) rfl rfl rfl ?_
      refine me1 (pc' := 42) (L' := [(0, .ref 2), (1, ii (k : Int))]) (S' := [ii (k : Int), .ref 15]) dm_X11_keep_41 rfl rfl rfl rfl ?_
      refine me3 (pc' := 43) (S' := [.ref o]) dm_X11_keep_42 (yh_aald (w := some o) rfl h15 (by omega) (by omega) (by omega) (by decide) hg) rfl rfl rfl ?_
      refine me1 (pc' := 44) (L' := [(0, .ref 2), (1, ii (k : Int))]) (S' := [.ref 2, .ref o]) dm_X11_keep_43 rfl rfl rfl rfl ?_
      refine me3 (pc' := 47) (S' := [.ref 4, .ref o]) dm_X11_keep_44 (g_get (v := .ref 4) h2 rfl rfl (by decide)) rfl rfl rfl ?_
      refine x_cn (pc' := 50) (rest := []) dm_X11_keep_47 rfl (g_inv (As := [.ref 4]) (S := []) hS.1 rfl rfl rfl (by omega)) rfl rfl rfl (n_copyOf (by omega) hS hS2 hD (by unfold CDis; omega) (by omega) (by decide) hV hO) ?_
      rintro _ rfl
      refine me0 (pc' := 51) (S' := [ii 1]) dm_X11_keep_50 rfl rfl rfl rfl ?_
      refine y_ret (r := some (ii 1)) dm_X11_keep_51 rfl rfl rfl ?_
      exact ⟨_, rfl, rfl, rfl⟩
    · exfalso; omega
theorem dm_X11_keep_24 : mj_dec prog_1_method_15_code 24 = some (.aload_n 0, 1) := by decide +kernel
theorem dm_X11_keep_25 : mj_dec prog_1_method_15_code 25 = some (.getfield 38, 3) := by decide +kernel
theorem dm_X11_keep_28 : mj_dec prog_1_method_15_code 28 = some (.iload_n 1, 1) := by decide +kernel
theorem dm_X11_keep_29 : mj_dec prog_1_method_15_code 29 = some (.new 13, 3) := by decide +kernel
theorem dm_X11_keep_32 : mj_dec prog_1_method_15_code 32 = some (.dup, 1) := by decide +kernel
theorem dm_X11_keep_33 : mj_dec prog_1_method_15_code 33 = some (.invokespecial 15, 3) := by decide +kernel
theorem dm_X11_keep_36 : mj_dec prog_1_method_15_code 36 = some (.aastore, 1) := by decide +kernel
theorem a_keepNew {xt : mj_X} {d qr qp : Nat} {h : mj_H} {fd le lp lw : Int} (hd : 6 ≤ d) (h2 : h[2]? = some (acC fd qr qp le lp lw)) {g : Nat → Option Nat} (h15 : h[15]? = some (cA 6 4 g)) {k : Nat} (hk : k < 4) {n2 m2 : Nat} {kf2 jf2 : Nat → Int64} {vf2 of2 : Nat → Option Nat} (hl : 127 ≤ h.length) (hg : g k = none) (hS2 : NS h 4 5 6 7 8 n2 kf2 vf2 m2 jf2 of2) (hV : ENT h 10 vf2) (hO : ENT h 4 of2) : pgV xt d 188 [.ref 2, ii (k : Int)] h (fun y h' => y = ii 1 ∧ h' = cpH ((h ++ nmN h.length).set 15 (cA 6 4 (va_up g k (some h.length)))) h.length (h.length + 1) (h.length + 2) (h.length + 3) (h.length + 4) n2 m2 (cpF (fun _ => 0) kf2 40) (cpF (fun _ => none) vf2 40) (cpF (fun _ => 0) jf2 40) (cpF (fun _ => none) of2 40)) := by
  refine x_enter pm_X11_keep (L0 := [(0, .ref 2), (1, ii (k : Int))]) rfl (Nat.le_of_ble_eq_true rfl) (by omega) ?_
  refine me1 (pc' := 1) (L' := [(0, .ref 2), (1, ii (k : Int))]) (S' := [ii (k : Int)]) dm_X11_keep_0 rfl rfl rfl rfl ?_
  refine y_1lt (a := (k : Int)) (t := 13) (pc' := 4) dm_X11_keep_1 rfl rfl (by omega) (fun hb1 => ?_) (fun hb1 => ?_)
  · exfalso; omega
  · refine me1 (pc' := 5) (L' := [(0, .ref 2), (1, ii (k : Int))]) (S' := [ii (k : Int)]) dm_X11_keep_4 rfl rfl rfl rfl ?_
    refine me1 (pc' := 6) (L' := [(0, .ref 2), (1, ii (k : Int))]) (S' := [.ref 2, ii (k : Int)]) dm_X11_keep_5 rfl rfl rfl rfl ?_
    refine me3 (pc' := 9) (S' := [.ref 15, ii (k : Int)]) dm_X11_keep_6 (g_get (v := .ref 15) h2 rfl rfl (by decide)) rfl rfl rfl ?_
    refine me3 (pc' := 10) (S' := [ii 4, ii (k : Int)]) dm_X11_keep_9 (yh_len (n := 4) rfl h15 (by decide)) rfl rfl rfl ?_
    refine y_2lt (a := (k : Int)) (b := 4) (t := 15) (pc' := 13) dm_X11_keep_10 rfl rfl (by omega) (fun hb2 => ?_) (fun hb2 => ?_)
    · refine me1 (pc' := 16) (L' := [(0, .ref 2), (1, ii (k : Int))]) (S' := [.ref 2]) dm_X11_keep_15 rfl rfl rfl rfl ?_
      refine me3 (pc' := 19) (S' := [.ref 15]) dm_X11_keep_16 (g_get (v := .ref 15) h2 rfl rfl (by decide)) rfl rfl rfl ?_
      refine me1 (pc' := 20) (L' := [(0, .ref 2), (1, ii (k : Int))]) (S' := [ii (k : Int), .ref 15]) dm_X11_keep_19 rfl rfl rfl rfl ?_
      refine me3 (pc' := 21) (S' := [.null]) dm_X11_keep_20 (yh_aald (w := none) rfl h15 (by omega) (by omega) (by omega) (by decide) hg) rfl rfl rfl ?_
      refine me2 (pc' := 24) (S' := []) dm_X11_keep_21 rfl rfl rfl ?_
      refine me1 (pc' := 25) (L' := [(0, .ref 2), (1, ii (k : Int))]) (S' := [.ref 2]) dm_X11_keep_24 rfl rfl rfl rfl ?_
      refine me3 (pc' := 28) (S' := [.ref 15]) dm_X11_keep_25 (g_get (v := .ref 15) h2 rfl rfl (by decide)) rfl rfl rfl ?_
      refine me1 (pc' := 29) (L' := [(0, .ref 2), (1, ii (k : Int))]) (S' := [ii (k : Int), .ref 15]) dm_X11_keep_28 rfl rfl rfl rfl ?_
      refine me3 (pc' := 32) (S' := [.ref h.length, ii (k : Int), .ref 15]) (h1 := h ++ [cO 2 [.null, .null, ii 0, .null, .null, ii 0]]) dm_X11_keep_29 (g_nw rfl rfl rfl) rfl rfl rfl ?_
      refine me0 (pc' := 33) (S' := [.ref h.length, .ref h.length, ii (k : Int), .ref 15]) dm_X11_keep_32 rfl rfl rfl rfl ?_
      refine x_cn (pc' := 36) (rest := [.ref h.length, ii (k : Int), .ref 15]) dm_X11_keep_33 rfl (g_invp (As := []) (S := [.ref h.length, ii (k : Int), .ref 15]) rfl rfl rfl) rfl rfl rfl (n_initA (by omega) hl) ?_
      rintro _ rfl
      refine me3 (pc' := 37) (S' := []) (h1 := ((h ++ nmN h.length)).set 15 (cA 6 4 (va_up g k (some h.length)))) dm_X11_keep_36 (yh_aasr (j := (k : Int)) rfl (hl_app h15) (app_at (i := 0) rfl) (by omega) (by omega) (by omega) (by omega) (by decide)) rfl rfl rfl ?_
      refine me1 (pc' := 38) (L' := [(0, .ref 2), (1, ii (k : Int))]) (S' := [.ref 2]) dm_X11_keep_37 rfl rfl rfl rfl ?_
      refine me3 (pc' := 41) (S' := [.ref 15]) dm_X11_keep_38 (g_get (v := .ref 15) (hl_ne (by decide) (hl_app h2)) rfl rfl (by decide)) rfl rfl rfl ?_
      refine me1 (pc' := 42) (L' := [(0, .ref 2), (1, ii (k : Int))]) (S' := [ii (k : Int), .ref 15]) dm_X11_keep_41 rfl rfl rfl rfl ?_
      refine me3 (pc' := 43) (S' := [.ref h.length]) dm_X11_keep_42 (yh_aald (w := some h.length) rfl (hl_set (hl_lt (hl_app h15))) (by omega) (by omega) (by omega) (by decide) (up_eq _ _ _)) rfl rfl rfl ?_
      refine me1 (pc' := 44) (L' := [(0, .ref 2), (1, ii (k : Int))]) (S' := [.ref 2, .ref h.length]) dm_X11_keep_43 rfl rfl rfl rfl ?_
      refine me3 (pc' := 47) (S' := [.ref 4, .ref h.length]) dm_X11_keep_44 (g_get (v := .ref 4) (hl_ne (by decide) (hl_app h2)) rfl rfl (by decide)) rfl rfl rfl ?_
      refine x_cn (pc' := 50) (rest := []) dm_X11_keep_47 rfl (g_inv (As := [.ref 4]) (S := []) (hl_ne (by omega) (app_at (i := 0) rfl)) rfl rfl rfl (by omega)) rfl rfl rfl (n_copyOf (by omega) (nmN_NS hl) (NS_app hS2) (by unfold NDis; omega) (by unfold CDis; omega) (by omega) (by decide) (ENT_app h15 hV) (ENT_app h15 hO)) ?_
      rintro _ rfl
      refine me0 (pc' := 51) (S' := [ii 1]) dm_X11_keep_50 rfl rfl rfl rfl ?_
      refine y_ret (r := some (ii 1)) dm_X11_keep_51 rfl rfl rfl ?_
      exact ⟨_, rfl, rfl, rfl⟩
    · exfalso; omega
set_option maxRecDepth 20000 in
theorem pm_X11_print : mj_mmof pg_ms 186 = some ((⟨"ArrayCalculator", "print", "()I"⟩, prog_1_method_13_code, 1, (Option.some Jvm.ClassFile.FieldType.int)), 11, false, mj_dec prog_1_method_13_code) := rfl
theorem dm_X11_print_0 : mj_dec prog_1_method_13_code 0 = some (.aload_n 0, 1) := by decide +kernel
theorem dm_X11_print_1 : mj_dec prog_1_method_13_code 1 = some (.getfield 56, 3) := by decide +kernel
theorem dm_X11_print_4 : mj_dec prog_1_method_13_code 4 = some (.invokevirtual 184, 3) := by decide +kernel
theorem dm_X11_print_7 : mj_dec prog_1_method_13_code 7 = some (.aload_n 0, 1) := by decide +kernel
theorem dm_X11_print_8 : mj_dec prog_1_method_13_code 8 = some (.getfield 56, 3) := by decide +kernel
theorem dm_X11_print_11 : mj_dec prog_1_method_13_code 11 = some (.aload_n 0, 1) := by decide +kernel
theorem dm_X11_print_12 : mj_dec prog_1_method_13_code 12 = some (.getfield 70, 3) := by decide +kernel
theorem dm_X11_print_15 : mj_dec prog_1_method_13_code 15 = some (.invokevirtual 187, 3) := by decide +kernel
theorem dm_X11_print_18 : mj_dec prog_1_method_13_code 18 = some (.aload_n 0, 1) := by decide +kernel
theorem dm_X11_print_19 : mj_dec prog_1_method_13_code 19 = some (.getfield 56, 3) := by decide +kernel
theorem dm_X11_print_22 : mj_dec prog_1_method_13_code 22 = some (.invokevirtual 190, 3) := by decide +kernel
theorem dm_X11_print_25 : mj_dec prog_1_method_13_code 25 = some (.ireturn, 1) := by decide +kernel
theorem a_print {xt : mj_X} {d qr qp m : Nat} {h : mj_H} {fd le lp lw : Int} {A : Nat → Prop} {v : VV} {f dg : Nat → Int} {f1 : Nat → Value} (hd : 40 ≤ d) (hx1 : xt 1 = some (.long, 0, f1)) (hA : okA A h) (h2 : h[2]? = some (acC fd qr qp le lp lw)) (h98 : h[98]? = some (cO 6 [.ref 100, .ref 99, ii ((m : Nat) : Int)])) (h100 : h[100]? = some (cB 400 f)) (h99 : h[99]? = some (cB 20 dg)) (hmn : m ≤ 400) (hv : cv A h 7 qp v) : pgV xt d 186 [.ref 2] h (fun y h' => y = ii ((((vaL 7 v).take 400).length : Nat) : Int) ∧ prS 98 100 99 h h' ∧ prt h' 98 100 99 400 ((vaL 7 v).take 400)) := by
  have hp0 : prt (h.set 98 (cO 6 [.ref 100, .ref 99, ii 0])) 98 100 99 400 [] := ⟨f, 0, dg, hl_set (hl_lt h98), hl_ne (by decide) h100, hl_ne (by decide) h99, by omega, rfl⟩
  refine x_enter pm_X11_print (L0 := [(0, .ref 2)]) rfl (Nat.le_of_ble_eq_true rfl) (by omega) ?_
  refine me1 (pc' := 1) (L' := [(0, .ref 2)]) (S' := [.ref 2]) dm_X11_print_0 rfl rfl rfl rfl ?_
  refine me3 (pc' := 4) (S' := [.ref 98]) dm_X11_print_1 (g_get (v := .ref 98) h2 rfl rfl (by decide)) rfl rfl rfl ?_
  refine x_cn (pc' := 7) (rest := []) dm_X11_print_4 rfl (g_inv (As := []) (S := []) h98 rfl rfl rfl (by decide)) rfl rfl rfl (k_clear (by omega) (by decide) h98 h100 hmn (by omega)) ?_
  rintro _ rfl
  refine me1 (pc' := 8) (L' := [(0, .ref 2)]) (S' := [.ref 2]) dm_X11_print_7 rfl rfl rfl rfl ?_
  refine me3 (pc' := 11) (S' := [.ref 98]) dm_X11_print_8 (g_get (v := .ref 98) (hl_ne (by decide) h2) rfl rfl (by decide)) rfl rfl rfl ?_
  refine me1 (pc' := 12) (L' := [(0, .ref 2)]) (S' := [.ref 2, .ref 98]) dm_X11_print_11 rfl rfl rfl rfl ?_
  refine me3 (pc' := 15) (S' := [.ref qp, .ref 98]) dm_X11_print_12 (g_get (v := .ref qp) (hl_ne (by decide) h2) rfl rfl (by decide)) rfl rfl rfl ?_
  refine x_cn (pc' := 18) (rest := []) dm_X11_print_15 rfl (g_inv (As := [.ref qp]) (S := []) (hl_set (hl_lt h98)) rfl rfl rfl (by decide)) rfl rfl rfl (k_put (A := A) (n := 400) 7 (by omega) (by decide) (by decide) (by decide) hp0 hx1 ⟨nA hA (Or.inl (by decide)), nA hA (Or.inl (by decide)), nA hA (Or.inl (by decide))⟩ (cv_set (nA hA (Or.inl (by decide))) hv)) ?_
  rintro h3 ⟨hS3, hP3⟩
  rw [List.nil_append] at hP3
  have hP4 := hP3
  obtain ⟨f3, m3, dg3, p98, p100, p99, hm3, hl3⟩ := hP4
  have a2 : h3[2]? = some (acC fd qr qp le lp lw) := (hS3.2.2 2 (by decide) (by decide) (by decide)).trans (hl_ne (by decide) h2)
  refine me1 (pc' := 19) (L' := [(0, .ref 2)]) (S' := [.ref 2]) dm_X11_print_18 rfl rfl rfl rfl ?_
  refine me3 (pc' := 22) (S' := [.ref 98]) dm_X11_print_19 (g_get (v := .ref 98) a2 rfl rfl (by decide)) rfl rfl rfl ?_
  refine x_cp (pc' := 25) (v := ii ((m3 : Nat) : Int)) (rest := []) dm_X11_print_22 rfl (g_inv (As := []) (S := []) p98 rfl rfl rfl (by decide)) rfl rfl rfl (k_length (by omega) (by decide) p98 p100 hm3 (by omega)) ?_
  refine y_ret (r := some (ii ((m3 : Nat) : Int))) dm_X11_print_25 rfl rfl rfl ?_
  refine ⟨_, rfl, ?_, prS_tr (prS_set (e' := cO 6 [.ref 100, .ref 99, ii 0]) (Or.inl rfl) h98 rfl) hS3, hP3⟩
  rw [hl3, bl_len]
set_option maxRecDepth 20000 in
theorem pm_X12_print : mj_mmof pg_ms 310 = some ((⟨"ArrayCalculatorModel", "print", "()I"⟩, prog_14_method_117_code, 2, (Option.some Jvm.ClassFile.FieldType.int)), 12, false, mj_dec prog_14_method_117_code) := rfl
theorem dm_X12_print_0 : mj_dec prog_14_method_117_code 0 = some (.aload_n 0, 1) := by decide +kernel
theorem dm_X12_print_1 : mj_dec prog_14_method_117_code 1 = some (.iconst 0, 1) := by decide +kernel
theorem dm_X12_print_2 : mj_dec prog_14_method_117_code 2 = some (.putfield 281, 3) := by decide +kernel
theorem dm_X12_print_5 : mj_dec prog_14_method_117_code 5 = some (.aload_n 0, 1) := by decide +kernel
theorem dm_X12_print_6 : mj_dec prog_14_method_117_code 6 = some (.aload_n 0, 1) := by decide +kernel
theorem dm_X12_print_7 : mj_dec prog_14_method_117_code 7 = some (.getfield 112, 3) := by decide +kernel
theorem dm_X12_print_10 : mj_dec prog_14_method_117_code 10 = some (.invokevirtual 301, 3) := by decide +kernel
theorem dm_X12_print_13 : mj_dec prog_14_method_117_code 13 = some (.aload_n 0, 1) := by decide +kernel
theorem dm_X12_print_14 : mj_dec prog_14_method_117_code 14 = some (.aload_n 0, 1) := by decide +kernel
theorem dm_X12_print_15 : mj_dec prog_14_method_117_code 15 = some (.getfield 281, 3) := by decide +kernel
theorem dm_X12_print_18 : mj_dec prog_14_method_117_code 18 = some (.putfield 577, 3) := by decide +kernel
theorem dm_X12_print_21 : mj_dec prog_14_method_117_code 21 = some (.iconst 0, 1) := by decide +kernel
theorem dm_X12_print_22 : mj_dec prog_14_method_117_code 22 = some (.istore_n 1, 1) := by decide +kernel
theorem dm_X12_print_23 : mj_dec prog_14_method_117_code 23 = some (.iload_n 1, 1) := by decide +kernel
theorem dm_X12_print_24 : mj_dec prog_14_method_117_code 24 = some (.aload_n 0, 1) := by decide +kernel
theorem dm_X12_print_25 : mj_dec prog_14_method_117_code 25 = some (.getfield 577, 3) := by decide +kernel
theorem dm_X12_print_28 : mj_dec prog_14_method_117_code 28 = some (.if_icmp .ge 21, 3) := by decide +kernel
theorem dm_X12_print_31 : mj_dec prog_14_method_117_code 31 = some (.aload_n 0, 1) := by decide +kernel
theorem dm_X12_print_32 : mj_dec prog_14_method_117_code 32 = some (.getfield 40, 3) := by decide +kernel
theorem dm_X12_print_35 : mj_dec prog_14_method_117_code 35 = some (.iload_n 1, 1) := by decide +kernel
theorem dm_X12_print_36 : mj_dec prog_14_method_117_code 36 = some (.aload_n 0, 1) := by decide +kernel
theorem dm_X12_print_37 : mj_dec prog_14_method_117_code 37 = some (.getfield 36, 3) := by decide +kernel
theorem dm_X12_print_40 : mj_dec prog_14_method_117_code 40 = some (.iload_n 1, 1) := by decide +kernel
theorem dm_X12_print_41 : mj_dec prog_14_method_117_code 41 = some (.baload, 1) := by decide +kernel
theorem dm_X12_print_42 : mj_dec prog_14_method_117_code 42 = some (.bastore, 1) := by decide +kernel
theorem dm_X12_print_43 : mj_dec prog_14_method_117_code 43 = some (.iinc 1 1, 3) := by decide +kernel
theorem dm_X12_print_46 : mj_dec prog_14_method_117_code 46 = some (.goto (-23), 3) := by decide +kernel
theorem dm_X12_print_49 : mj_dec prog_14_method_117_code 49 = some (.aload_n 0, 1) := by decide +kernel
theorem dm_X12_print_50 : mj_dec prog_14_method_117_code 50 = some (.getfield 577, 3) := by decide +kernel
theorem dm_X12_print_53 : mj_dec prog_14_method_117_code 53 = some (.ireturn, 1) := by decide +kernel
theorem r_print_ {xt : mj_X} {d q : Nat} {pre post : mj_H} {s : RS} {v : VV} (hm : pre.length = 102) (hd : 40 ≤ d) (hB : rB s) (h31 : s.1 31 = (q : Int)) (hv : rv s 7 q v) : pgV xt d 310 [.ref 102] (rS pre post s) (fun y h' => y = ii ((((vaL 7 v).take 400).length : Nat) : Int) ∧ ∃ t, h' = rS pre post t ∧ (∀ k, k ≠ 17 → k ≠ 18 → t.1 k = s.1 k) ∧ t.2.1 = s.2.1 ∧ (∀ k, k ≠ 15 → k ≠ 16 → t.2.2.1 k = s.2.2.1 k) ∧ t.2.2.2 = s.2.2.2 ∧ t.1 18 = ((((vaL 7 v).take 400).length : Nat) : Int) ∧ bl (t.2.2.1 16) ((vaL 7 v).take 400).length = (vaL 7 v).take 400) := by
  refine x_enter pm_X12_print (L0 := [(0, .ref 102)]) rfl (Nat.le_of_ble_eq_true rfl) (by omega) ?_
  refine me1 (pc' := 1) (L' := [(0, .ref 102)]) (S' := [.ref 102]) dm_X12_print_0 rfl rfl rfl rfl ?_
  refine me0 (pc' := 2) (S' := [ii 0, .ref 102]) dm_X12_print_1 rfl rfl rfl rfl ?_
  refine me3 (pc' := 5) (S' := []) (h1 := rI pre post (va_up s.1 17 0) s.2.1 s.2.2.1 s.2.2.2) dm_X12_print_2 (q_puti hm rfl rfl (fun m i l v => rf_17 m i l v)) rfl rfl rfl ?_
  refine pg_cast (h2 := rI pre post ((outS s).1) ((outS s).2.1) ((outS s).2.2.1) ((outS s).2.2.2)) rfl ?_
  refine me1 (pc' := 6) (L' := [(0, .ref 102)]) (S' := [.ref 102]) dm_X12_print_5 rfl rfl rfl rfl ?_
  refine me1 (pc' := 7) (L' := [(0, .ref 102)]) (S' := [.ref 102, .ref 102]) dm_X12_print_6 rfl rfl rfl rfl ?_
  refine me3 (pc' := 10) (S' := [ii (((outS s).1) 31), .ref 102]) dm_X12_print_7 (q_geti (v := ((outS s).1) 31) hm rfl (fun m i l => rg_31 m i l) rfl) rfl rfl rfl ?_
  refine pg_st0 (S' := [ii (q : Int), .ref 102]) (congrArg (fun z => ii z :: [.ref 102]) (((outS_pr s).1 31 (by decide)).trans h31)) ?_
  refine x_cn (pc' := 13) (rest := []) dm_X12_print_10 rfl (q_inv (As := [ii (q : Int)]) (S := []) hm rfl rfl rfl) rfl rfl rfl (r_putValue_ hm 7 (by omega) (outS_0 s) (rB_pr (outS_pr s) hB) (rv_pr (outS_pr s) hv)) ?_
  rintro _ ⟨t, rfl, hR, hP⟩
  replace hR := prR_tr (outS_pr s) hR
  obtain ⟨m, hm17, hm400, hml, hmb, hmr⟩ := rpr_n hP okL_va
  refine me1 (pc' := 14) (L' := [(0, .ref 102)]) (S' := [.ref 102]) dm_X12_print_13 rfl rfl rfl rfl ?_
  refine me1 (pc' := 15) (L' := [(0, .ref 102)]) (S' := [.ref 102, .ref 102]) dm_X12_print_14 rfl rfl rfl rfl ?_
  refine me3 (pc' := 18) (S' := [ii (t.1 17), .ref 102]) dm_X12_print_15 (q_geti (v := t.1 17) hm rfl (fun m i l => rg_17 m i l) rfl) rfl rfl rfl ?_
  refine me3 (pc' := 21) (S' := []) (h1 := rI pre post (va_up t.1 18 (t.1 17)) t.2.1 t.2.2.1 t.2.2.2) dm_X12_print_18 (q_puti hm rfl rfl (fun m i l v => rf_18 m i l v)) rfl rfl rfl ?_
  refine me0 (pc' := 22) (S' := [ii 0]) dm_X12_print_21 rfl rfl rfl rfl ?_
  refine me1 (pc' := 23) (L' := [(1, ii 0), (0, .ref 102)]) (S' := []) dm_X12_print_22 rfl rfl rfl rfl ?_
  have lp23 : ∀ (n23 : Nat) (k : Nat), m - k = n23 → (k ≤ m) → pgE xt (d - 1) 12 2 false (Option.some Jvm.ClassFile.FieldType.int) (mj_dec prog_14_method_117_code) 23 [(0, .ref 102), (1, ii ((k : Nat) : Int))] [] (rI pre post ((ptS t k).1) ((ptS t k).2.1) ((ptS t k).2.2.1) ((ptS t k).2.2.2)) (fun r h' => ∃ y, r = some y ∧ y = ii ((((vaL 7 v).take 400).length : Nat) : Int) ∧ ∃ t, h' = rS pre post t ∧ (∀ k, k ≠ 17 → k ≠ 18 → t.1 k = s.1 k) ∧ t.2.1 = s.2.1 ∧ (∀ k, k ≠ 15 → k ≠ 16 → t.2.2.1 k = s.2.2.1 k) ∧ t.2.2.2 = s.2.2.2 ∧ t.1 18 = ((((vaL 7 v).take 400).length : Nat) : Int) ∧ bl (t.2.2.1 16) ((vaL 7 v).take 400).length = (vaL 7 v).take 400) := by
    intro n23
    induction n23 using Nat.strongRecOn with
    | ind n23 ih23 =>
      intro k hm23 hk
      refine me1 (pc' := 24) (L' := [(0, .ref 102), (1, ii ((k : Nat) : Int))]) (S' := [ii ((k : Nat) : Int)]) dm_X12_print_23 rfl rfl rfl rfl ?_
      refine me1 (pc' := 25) (L' := [(0, .ref 102), (1, ii ((k : Nat) : Int))]) (S' := [.ref 102, ii ((k : Nat) : Int)]) dm_X12_print_24 rfl rfl rfl rfl ?_
      refine me3 (pc' := 28) (S' := [ii (((ptS t k).1) 18), ii ((k : Nat) : Int)]) dm_X12_print_25 (q_geti (v := ((ptS t k).1) 18) hm rfl (fun m i l => rg_18 m i l) rfl) rfl rfl rfl ?_
      refine pg_st0 (S' := [ii ((m : Nat) : Int), ii ((k : Nat) : Int)]) (congrArg (fun z => ii z :: [ii ((k : Nat) : Int)]) ((show va_up t.1 18 (t.1 17) 18 = _ from (up_eq _ _ _).trans hm17))) ?_
      refine y_2ge (a := ((k : Nat) : Int)) (b := ((m : Nat) : Int)) (t := 49) (pc' := 31) dm_X12_print_28 rfl rfl (by omega) (fun hb1 => ?_) (fun hb1 => ?_)
      · refine me1 (pc' := 50) (L' := [(0, .ref 102), (1, ii ((k : Nat) : Int))]) (S' := [.ref 102]) dm_X12_print_49 rfl rfl rfl rfl ?_
        refine me3 (pc' := 53) (S' := [ii (((ptS t k).1) 18)]) dm_X12_print_50 (q_geti (v := ((ptS t k).1) 18) hm rfl (fun m i l => rg_18 m i l) rfl) rfl rfl rfl ?_
        refine pg_st0 (S' := [ii ((m : Nat) : Int)]) (congrArg (fun z => ii z :: []) ((show va_up t.1 18 (t.1 17) 18 = _ from (up_eq _ _ _).trans hm17))) ?_
        refine y_ret (r := some (ii ((m : Nat) : Int))) dm_X12_print_53 rfl rfl rfl ?_
        have hkm : k = m := by omega
        subst hkm
        refine ⟨_, rfl, by rw [hml], ptS t k, rfl, fun j h7 h8 => (pt_i h8).trans (hR.1 j h7), hR.2.1, fun j h5 h6 => (pt_I h6).trans (hR.2.2.1 j h5), hR.2.2.2, pt_18.trans (by rw [hm17, hml]), ?_⟩
        rw [← hml]
        rw [pt_16, bl_fl]
        exact hmb
      · refine me1 (pc' := 32) (L' := [(0, .ref 102), (1, ii ((k : Nat) : Int))]) (S' := [.ref 102]) dm_X12_print_31 rfl rfl rfl rfl ?_
        refine me3 (pc' := 35) (S' := [.ref (102 + 7)]) dm_X12_print_32 (q_getr hm rfl (fun m i l => rg_16 m i l)) rfl rfl rfl ?_
        refine me1 (pc' := 36) (L' := [(0, .ref 102), (1, ii ((k : Nat) : Int))]) (S' := [ii ((k : Nat) : Int), .ref (102 + 7)]) dm_X12_print_35 rfl rfl rfl rfl ?_
        refine me1 (pc' := 37) (L' := [(0, .ref 102), (1, ii ((k : Nat) : Int))]) (S' := [.ref 102, ii ((k : Nat) : Int), .ref (102 + 7)]) dm_X12_print_36 rfl rfl rfl rfl ?_
        refine me3 (pc' := 40) (S' := [.ref (102 + 6), ii ((k : Nat) : Int), .ref (102 + 7)]) dm_X12_print_37 (q_getr hm rfl (fun m i l => rg_15 m i l)) rfl rfl rfl ?_
        refine me1 (pc' := 41) (L' := [(0, .ref 102), (1, ii ((k : Nat) : Int))]) (S' := [ii ((k : Nat) : Int), .ref (102 + 6), ii ((k : Nat) : Int), .ref (102 + 7)]) dm_X12_print_40 rfl rfl rfl rfl ?_
        refine me3 (pc' := 42) (S' := [ii ((((ptS t k).2.2.1) 15) k), ii ((k : Nat) : Int), .ref (102 + 7)]) dm_X12_print_41 (q_bald (v := (((ptS t k).2.2.1) 15) k) (k := 15) (n := 400) hm (fun m i l I J => rc_15 m i l I J) (by omega) (by omega) (by decide) rfl) rfl rfl rfl ?_
        have hby := hmr k (by omega)
        refine pg_st0 (S' := [ii (t.2.2.1 15 k), ii ((k : Nat) : Int), .ref (102 + 7)]) (congrArg (fun z => ii z :: [ii ((k : Nat) : Int), .ref (102 + 7)]) ((congrFun (pt_I (by decide)) k))) ?_
        refine me3 (pc' := 43) (S' := []) (h1 := rI pre post ((ptS t k).1) ((ptS t k).2.1) (va_up ((ptS t k).2.2.1) 16 (va_up (((ptS t k).2.2.1) 16) k (t.2.2.1 15 k))) ((ptS t k).2.2.2)) dm_X12_print_42 (q_bast (j := ((k : Nat) : Int)) (k := 16) (n := 400) hm (fun m i l I J => rc_16 m i l I J) (fun m i l I J f => rs_16 m i l I J f) (by omega) (by omega) (by decide) (by omega)) rfl rfl rfl ?_
        refine pg_cast (h2 := rI pre post ((ptS t (k + 1)).1) ((ptS t (k + 1)).2.1) ((ptS t (k + 1)).2.2.1) ((ptS t (k + 1)).2.2.2)) (by first | exact congrArg (rS pre post) ptS_s | exact ptS_s) ?_
        refine y_iinc (pc' := 46) (L' := [(1, ii (((k : Nat) : Int) + 1)), (0, .ref 102)]) dm_X12_print_43 (y_incp (a := ((k : Nat) : Int)) (c := 1) rfl rfl (by decide)) rfl ?_
        refine me2 (pc' := 23) (S' := []) dm_X12_print_46 rfl rfl rfl ?_
        exact pg_sub (L := [(0, .ref 102), (1, ii (((k + 1) : Nat) : Int))]) rfl rfl rfl (ih23 (m - (k + 1)) (by omega) (k + 1) rfl (by omega))
  refine pg_cast (h2 := rI pre post ((ptS t 0).1) ((ptS t 0).2.1) ((ptS t 0).2.2.1) ((ptS t 0).2.2.2)) (by first | exact congrArg (rS pre post) ptS_0 | exact ptS_0) ?_
  exact pg_sub (L := [(0, .ref 102), (1, ii ((0 : Nat) : Int))]) rfl rfl rfl (lp23 _ 0 rfl (Nat.zero_le _))
