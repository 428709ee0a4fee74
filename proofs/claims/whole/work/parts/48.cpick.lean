/-- what an act makes: an error or a value -/
def ares (A : Nat → Prop) (h : mj_H) (e : Nat) (o : Nat ⊕ VV) (a b : Nat) (r : Value) (h' : mj_H) : Prop := match o with
  | .inl n => ∃ q X, r = .ref q ∧ h' = h ++ X ∧ X.length ≤ a ∧ mj_sl X ≤ b ∧ 2 ≤ q ∧ h'[q]? = some (cVal 8 (Int64.ofInt (n : Int)) 1 0 0 0)
  | .inr w => vres A h e w a b r h'
theorem ares_f {A : Nat → Prop} {h : mj_H} {e a b : Nat} (n : Nat) (hl : 2 ≤ h.length) (ha : 1 ≤ a) (hb : 9 ≤ b) : ares A h e (.inl n) a b (.ref h.length) (h ++ [cVal 8 (Int64.ofInt (n : Int)) 1 0 0 0]) :=
  ⟨h.length, _, rfl, rfl, ha, hb, hl, hl_new⟩
/-- the form of a row picked out of v -/
def pickk (v : VV) : Nat := if vk v = 1 then 3 else if vk v = 0 then (if fitsB (vn v 0) = true then 4 else 5) else vk v
def vpick (v : VV) (o : Nat → Nat) (n : Nat) : VV := if vk v = 7 then vnest n (fun k => vd v (o k)) else if vk v = 6 then vtab n (vc v) (fun i => vn v (o (i / vc v) * vc v + i % vc v)) else vrow (pickk v) n (fun k => vn v (if vk v ≤ 1 then 0 else o k))
def s_pick (v : VV) (o : Nat → Nat) (n : Nat) : Nat ⊕ VV := if vk v = 7 then (if 24 < n then .inl 8 else .inr (vpick v o n)) else if vk v = 6 then (if n = 0 then .inl 4 else if 12 < n then .inl 8 else .inr (vpick v o n)) else .inr (vpick v o n)
/-- how many numbers or values are picked -/
def pcl (v : VV) (n : Nat) : Nat := if vk v = 6 then n * vc v else n
theorem pcl_6 {v : VV} {n : Nat} (h : vk v = 6) : pcl v n = n * vc v := by unfold pcl; rw [if_pos h]
theorem pcl_n {v : VV} {n : Nat} (h : vk v ≠ 6) : pcl v n = n := by unfold pcl; rw [if_neg h]
theorem vpick_7 {v : VV} {o : Nat → Nat} {n : Nat} (h : vk v = 7) : vpick v o n = vnest n (fun k => vd v (o k)) := by unfold vpick; rw [if_pos h]
theorem vpick_6 {v : VV} {o : Nat → Nat} {n : Nat} (h : vk v = 6) : vpick v o n = vtab n (vc v) (fun i => vn v (o (i / vc v) * vc v + i % vc v)) := by unfold vpick; rw [if_neg (by omega), if_pos h]
theorem vpick_r {v : VV} {o : Nat → Nat} {n : Nat} (h : vk v ≤ 5) : vpick v o n = vrow (pickk v) n (fun k => vn v (if vk v ≤ 1 then 0 else o k)) := by unfold vpick; rw [if_neg (by omega), if_neg (by omega)]
theorem s_pick_7 {v : VV} {o : Nat → Nat} {n : Nat} (h : vk v = 7) (hn : n ≤ 24) : s_pick v o n = .inr (vpick v o n) := by unfold s_pick; rw [if_pos h, if_neg (by omega)]
theorem s_pick_7e {v : VV} {o : Nat → Nat} {n : Nat} (h : vk v = 7) (hn : 24 < n) : s_pick v o n = .inl 8 := by unfold s_pick; rw [if_pos h, if_pos hn]
theorem s_pick_6 {v : VV} {o : Nat → Nat} {n : Nat} (h : vk v = 6) (h0 : n ≠ 0) (hn : n ≤ 12) : s_pick v o n = .inr (vpick v o n) := by unfold s_pick; rw [if_neg (by omega), if_pos h, if_neg h0, if_neg (by omega)]
theorem s_pick_60 {v : VV} {o : Nat → Nat} {n : Nat} (h : vk v = 6) (h0 : n = 0) : s_pick v o n = .inl 4 := by unfold s_pick; rw [if_neg (by omega), if_pos h, if_pos h0]
theorem s_pick_6e {v : VV} {o : Nat → Nat} {n : Nat} (h : vk v = 6) (hn : 12 < n) : s_pick v o n = .inl 8 := by unfold s_pick; rw [if_neg (by omega), if_pos h, if_neg (by omega), if_pos hn]
theorem s_pick_r {v : VV} {o : Nat → Nat} {n : Nat} (h : vk v ≤ 5) : s_pick v o n = .inr (vpick v o n) := by unfold s_pick; rw [if_neg (by omega), if_neg (by omega)]
/-- a nest's values are smaller than it -/
theorem vsz_kid {v : VV} {e k : Nat} (h : vk v = 7) (hk : k < vm v) : vsz e (vd v k) + 1 ≤ vsz (e + 1) v := by
  have := sumN_mem (f := fun k => vsz e (vd v k)) hk
  show _ ≤ if vk v ≤ 1 then 1 else if vk v = 6 then 1 + vm v * vc v else if vk v = 7 then 1 + sumN (vm v) (fun k => vsz e (vd v k)) else 1 + vm v
  rw [if_neg (by omega), if_neg (by omega), if_pos h]
  omega
/-- a new array of values, and a nest of it -/
theorem vres_nest {A : Nat → Prop} {h : mj_H} {e n a b : Nat} {g : Nat → Option Nat} {ch : Nat → VV} (hl : 127 ≤ h.length) (hn : n ≤ 24) (he : e ≤ 20) (hS : sumN n (fun k => vsz e (ch k)) ≤ 29999) (hq : ∀ k, k < n → ∃ q, g k = some q ∧ cv A h e q (ch k)) (ha : 2 ≤ a) (hb : n + 9 ≤ b) : vres A h (e + 1) (vnest n ch) a b (.ref (h.length + 1)) ((h ++ [cA 4 n g]) ++ [cNest (.ref h.length) 0 (n : Int) ((1 + sumN n (fun k => vsz e (ch k)) : Nat) : Int) ((1 + maxN n (fun k => vlv e (ch k)) : Nat) : Int)]) := by
  refine ⟨h.length + 1, [cA 4 n g, cNest (.ref h.length) 0 (n : Int) ((1 + sumN n (fun k => vsz e (ch k)) : Nat) : Int) ((1 + maxN n (fun k => vlv e (ch k)) : Nat) : Int)], rfl, by rw [List.append_assoc]; rfl, ha, ?_, ?_⟩
  · show n + (9 + 0) ≤ b; omega
  · rw [List.append_assoc]
    refine cv_nest (fr := 0) (a := h.length) (n := n) (g := g) hn (by omega) (newA_in (by omega) (by simp)) he hS ?_ (by omega) hl_new (by omega) (newA_in (Nat.le_refl _) (by simp)) (by omega) (by omega) (fun k hk => ?_)
    · show (h ++ [cA 4 n g, _])[h.length + 1]? = _
      rw [List.getElem?_append_right (by omega), Nat.add_sub_cancel_left]; rfl
    · obtain ⟨q, hq1, hq2⟩ := hq k hk
      exact ⟨q, by rw [Nat.zero_add]; exact hq1, cv_new hq2⟩
theorem c_valueAtK {xt : mj_X} {d p row a fr m n q : Nat} {h : mj_H} {num : Int64} {kd c sz lv i : Int} {g : Nat → Option Nat} (hd : 1 ≤ d) (hp : h[p]? = some (cO 10 [ii kd, .long num, .ref row, .ref a, ii (fr : Int), ii (m : Int), ii c, ii sz, ii lv])) (hp2 : 2 ≤ p) (hfr : fr ≤ 1000) (hm : m ≤ 1000) (hga : h[a]? = some (cA 4 n g)) (ha2 : 2 ≤ a) (hn : n ≤ 1000) (hb : fr + m ≤ n) (hi0 : 0 ≤ i) (hi : i < m) (hq : g (fr + i.toNat) = some q) : pgP xt d 77 [.ref p, ii i] h (.ref q) := by
  have hq3 : g ((fr : Int) + i).toNat = some q := by rw [← hq]; congr 1; omega
  refine x_enter pm_X10_valueAt (L0 := [(0, .ref p), (1, ii i)]) rfl (Nat.le_of_ble_eq_true rfl) (by omega) ?_
  refine me1 (pc' := 1) (L' := [(0, .ref p), (1, ii i)]) (S' := [.ref p]) dm_X10_valueAt_0 rfl rfl rfl rfl ?_
  refine me3 (pc' := 4) (S' := [.ref a]) dm_X10_valueAt_1 (g_get (v := .ref a) hp rfl rfl (by omega)) rfl rfl rfl ?_
  refine me2 (pc' := 7) (S' := []) dm_X10_valueAt_4 rfl rfl rfl ?_
  refine me1 (pc' := 8) (L' := [(0, .ref p), (1, ii i)]) (S' := [ii i]) dm_X10_valueAt_7 rfl rfl rfl rfl ?_
  refine y_1lt (a := i) (t := 47) (pc' := 11) dm_X10_valueAt_8 rfl rfl (by omega) (fun hb1 => ?_) (fun hb1 => ?_)
  · refine me1 (pc' := 48) (L' := [(0, .ref p), (1, ii i)]) (S' := [.ref p]) dm_X10_valueAt_47 rfl rfl rfl rfl ?_
    refine y_ret (r := some (.ref p)) dm_X10_valueAt_48 rfl rfl rfl ?_
    exfalso; omega
  · refine me1 (pc' := 12) (L' := [(0, .ref p), (1, ii i)]) (S' := [ii i]) dm_X10_valueAt_11 rfl rfl rfl rfl ?_
    refine me1 (pc' := 13) (L' := [(0, .ref p), (1, ii i)]) (S' := [.ref p, ii i]) dm_X10_valueAt_12 rfl rfl rfl rfl ?_
    refine me3 (pc' := 16) (S' := [ii (m : Int), ii i]) dm_X10_valueAt_13 (g_get (v := ii (m : Int)) hp rfl rfl (by omega)) rfl rfl rfl ?_
    refine y_2ge (a := i) (b := (m : Int)) (t := 47) (pc' := 19) dm_X10_valueAt_16 rfl rfl (by omega) (fun hb2 => ?_) (fun hb2 => ?_)
    · refine me1 (pc' := 48) (L' := [(0, .ref p), (1, ii i)]) (S' := [.ref p]) dm_X10_valueAt_47 rfl rfl rfl rfl ?_
      refine y_ret (r := some (.ref p)) dm_X10_valueAt_48 rfl rfl rfl ?_
      exfalso; omega
    · refine me1 (pc' := 20) (L' := [(0, .ref p), (1, ii i)]) (S' := [.ref p]) dm_X10_valueAt_19 rfl rfl rfl rfl ?_
      refine me3 (pc' := 23) (S' := [ii (fr : Int)]) dm_X10_valueAt_20 (g_get (v := ii (fr : Int)) hp rfl rfl (by omega)) rfl rfl rfl ?_
      refine me1 (pc' := 24) (L' := [(0, .ref p), (1, ii i)]) (S' := [ii i, ii (fr : Int)]) dm_X10_valueAt_23 rfl rfl rfl rfl ?_
      refine y_iadd (a := (fr : Int)) (b := i) dm_X10_valueAt_24 (pc' := 25) rfl ?_
      refine me1 (pc' := 26) (L' := [(0, .ref p), (1, ii i)]) (S' := [.ref p, ii ((fr : Int) + i)]) dm_X10_valueAt_25 rfl rfl rfl rfl ?_
      refine me3 (pc' := 29) (S' := [.ref a, ii ((fr : Int) + i)]) dm_X10_valueAt_26 (g_get (v := .ref a) hp rfl rfl (by omega)) rfl rfl rfl ?_
      refine me3 (pc' := 30) (S' := [ii n, ii ((fr : Int) + i)]) dm_X10_valueAt_29 (yh_len (n := n) rfl hga (by omega)) rfl rfl rfl ?_
      refine y_2ge (a := (fr : Int) + i) (b := n) (t := 47) (pc' := 33) dm_X10_valueAt_30 rfl rfl (by omega) (fun hb3 => ?_) (fun hb3 => ?_)
      · refine me1 (pc' := 48) (L' := [(0, .ref p), (1, ii i)]) (S' := [.ref p]) dm_X10_valueAt_47 rfl rfl rfl rfl ?_
        refine y_ret (r := some (.ref p)) dm_X10_valueAt_48 rfl rfl rfl ?_
        exfalso; omega
      · refine me1 (pc' := 34) (L' := [(0, .ref p), (1, ii i)]) (S' := [.ref p]) dm_X10_valueAt_33 rfl rfl rfl rfl ?_
        refine me3 (pc' := 37) (S' := [.ref a]) dm_X10_valueAt_34 (g_get (v := .ref a) hp rfl rfl (by omega)) rfl rfl rfl ?_
        refine me1 (pc' := 38) (L' := [(0, .ref p), (1, ii i)]) (S' := [.ref p, .ref a]) dm_X10_valueAt_37 rfl rfl rfl rfl ?_
        refine me3 (pc' := 41) (S' := [ii (fr : Int), .ref a]) dm_X10_valueAt_38 (g_get (v := ii (fr : Int)) hp rfl rfl (by omega)) rfl rfl rfl ?_
        refine me1 (pc' := 42) (L' := [(0, .ref p), (1, ii i)]) (S' := [ii i, ii (fr : Int), .ref a]) dm_X10_valueAt_41 rfl rfl rfl rfl ?_
        refine y_iadd (a := (fr : Int)) (b := i) dm_X10_valueAt_42 (pc' := 43) rfl ?_
        refine me3 (pc' := 44) (S' := [.ref q]) dm_X10_valueAt_43 (yh_aald (w := some q) rfl hga (by omega) (by omega) (by omega) (by omega) hq3) rfl rfl rfl ?_
        refine me2 (pc' := 48) (S' := [.ref q]) dm_X10_valueAt_44 rfl rfl rfl ?_
        refine y_ret (r := some (.ref q)) dm_X10_valueAt_48 rfl rfl rfl ?_
        exact ⟨rfl, rfl⟩
theorem hl_seta {h : mj_H} {e e' : mj_E} {a : Nat} (ha : h.length = a) : (h ++ [e]).set a e' = h ++ [e'] := by subst ha; exact hl_setl
set_option maxRecDepth 20000 in
theorem pm_X10_pickValues : mj_mmof pg_ms 114 = some ((⟨"ArrayCalculator$Value", "pickValues", "([II)LArrayCalculator$Value;"⟩, prog_12_method_25_code, 5, (Option.some (Jvm.ClassFile.FieldType.object "ArrayCalculator$Value"))), 10, false, mj_dec prog_12_method_25_code) := rfl
theorem dm_X10_pickValues_0 : mj_dec prog_12_method_25_code 0 = some (.iload_n 2, 1) := by decide +kernel
theorem dm_X10_pickValues_1 : mj_dec prog_12_method_25_code 1 = some (.anewarray 10, 3) := by decide +kernel
theorem dm_X10_pickValues_4 : mj_dec prog_12_method_25_code 4 = some (.astore_n 3, 1) := by decide +kernel
theorem dm_X10_pickValues_5 : mj_dec prog_12_method_25_code 5 = some (.iconst 0, 1) := by decide +kernel
theorem dm_X10_pickValues_6 : mj_dec prog_12_method_25_code 6 = some (.istore 4, 2) := by decide +kernel
theorem dm_X10_pickValues_8 : mj_dec prog_12_method_25_code 8 = some (.iload 4, 2) := by decide +kernel
theorem dm_X10_pickValues_10 : mj_dec prog_12_method_25_code 10 = some (.iload_n 2, 1) := by decide +kernel
theorem dm_X10_pickValues_11 : mj_dec prog_12_method_25_code 11 = some (.if_icmp .ge 28, 3) := by decide +kernel
theorem dm_X10_pickValues_39 : mj_dec prog_12_method_25_code 39 = some (.new 10, 3) := by decide +kernel
theorem dm_X10_pickValues_42 : mj_dec prog_12_method_25_code 42 = some (.dup, 1) := by decide +kernel
theorem dm_X10_pickValues_43 : mj_dec prog_12_method_25_code 43 = some (.aload_n 3, 1) := by decide +kernel
theorem dm_X10_pickValues_44 : mj_dec prog_12_method_25_code 44 = some (.iconst 0, 1) := by decide +kernel
theorem dm_X10_pickValues_45 : mj_dec prog_12_method_25_code 45 = some (.iload_n 2, 1) := by decide +kernel
theorem dm_X10_pickValues_46 : mj_dec prog_12_method_25_code 46 = some (.invokespecial 58, 3) := by decide +kernel
theorem dm_X10_pickValues_49 : mj_dec prog_12_method_25_code 49 = some (.areturn, 1) := by decide +kernel
theorem c_pickValues0 {xt : mj_X} {d e p : Nat} {A : Nat → Prop} {h : mj_H} {v : VV} {pl np : Nat} {pf : Nat → Int} (hd : 4 ≤ d) (hl : 127 ≤ h.length) (hA : okA A h) (hv : cv A h (e + 1) p v) (hpl : h[pl]? = some (cI np pf)) (hpl2 : 2 ≤ pl) (hk7 : vk v = 7) (he : e ≤ 20) : pgV xt d 114 [.ref p, .ref pl, ii ((0 : Nat) : Int)] h (vres A h (e + 1) (vpick v (fun k => (pf k).toNat) 0) 2 9) := by
  obtain ⟨hw, ⟨hp2, hpA⟩, hsz, hlv, row, fr, vals, hp, hfr, h1, h3, h7⟩ := id hv
  have hm := vw1_m hw
  clear h1 h3 h7
  refine x_enter pm_X10_pickValues (L0 := [(0, .ref p), (1, .ref pl), (2, ii 0)]) rfl (Nat.le_of_ble_eq_true rfl) (by omega) ?_
  refine me1 (pc' := 1) (L' := [(0, .ref p), (1, .ref pl), (2, ii 0)]) (S' := [ii 0]) dm_X10_pickValues_0 rfl rfl rfl rfl ?_
  refine me3 (pc' := 4) (S' := [.ref h.length]) (h1 := h ++ [cA 4 0 (fun _ => none)]) dm_X10_pickValues_1 (yh_newA rfl (by omega) (by omega) (by omega) rfl) rfl rfl rfl ?_
  refine me1 (pc' := 5) (L' := [(3, .ref h.length), (0, .ref p), (1, .ref pl), (2, ii 0)]) (S' := []) dm_X10_pickValues_4 rfl rfl rfl rfl ?_
  refine me0 (pc' := 6) (S' := [ii 0]) dm_X10_pickValues_5 rfl rfl rfl rfl ?_
  refine me1 (pc' := 8) (L' := [(4, ii 0), (3, .ref h.length), (0, .ref p), (1, .ref pl), (2, ii 0)]) (S' := []) dm_X10_pickValues_6 rfl rfl rfl rfl ?_
  refine me1 (pc' := 10) (L' := [(4, ii 0), (3, .ref h.length), (0, .ref p), (1, .ref pl), (2, ii 0)]) (S' := [ii 0]) dm_X10_pickValues_8 rfl rfl rfl rfl ?_
  refine me1 (pc' := 11) (L' := [(4, ii 0), (3, .ref h.length), (0, .ref p), (1, .ref pl), (2, ii 0)]) (S' := [ii 0, ii 0]) dm_X10_pickValues_10 rfl rfl rfl rfl ?_
  refine me_2t (pc' := 39) dm_X10_pickValues_11 rfl (by decide) ?_
  refine me3 (pc' := 42) (S' := [.ref (h.length + 1)]) (h1 := (h ++ [cA 4 0 (fun _ => none)]) ++ [cO 10 [ii 0, .long (Int64.ofInt 0), .null, .null, ii 0, ii 0, ii 0, ii 0, ii 0]]) dm_X10_pickValues_39 (g_nw (by simp) rfl rfl) rfl rfl rfl ?_
  refine me0 (pc' := 43) (S' := [.ref (h.length + 1), .ref (h.length + 1)]) dm_X10_pickValues_42 rfl rfl rfl rfl ?_
  refine me1 (pc' := 44) (L' := [(4, ii 0), (3, .ref h.length), (0, .ref p), (1, .ref pl), (2, ii 0)]) (S' := [.ref h.length, .ref (h.length + 1), .ref (h.length + 1)]) dm_X10_pickValues_43 rfl rfl rfl rfl ?_
  refine me0 (pc' := 45) (S' := [ii 0, .ref h.length, .ref (h.length + 1), .ref (h.length + 1)]) dm_X10_pickValues_44 rfl rfl rfl rfl ?_
  refine me1 (pc' := 46) (L' := [(4, ii 0), (3, .ref h.length), (0, .ref p), (1, .ref pl), (2, ii 0)]) (S' := [ii 0, ii 0, .ref h.length, .ref (h.length + 1), .ref (h.length + 1)]) dm_X10_pickValues_45 rfl rfl rfl rfl ?_
  refine x_cn (pc' := 49) (rest := [.ref (h.length + 1)]) dm_X10_pickValues_46 rfl (g_invp (As := [.ref h.length, ii 0, ii 0]) (S := [.ref (h.length + 1)]) rfl rfl rfl) rfl rfl rfl (c_newN (A := A) (e := e) (n := 0) (g := fun _ => none) (fr := 0) (m := 0) (ch := fun k => vd v (pf k).toNat) (by omega) (hl_newa (by simp)) (by omega) (nA hA (Or.inr (by simp))) (hl_app hl_new) (by omega) (by simp) (by omega) (by omega) (by omega) (by omega) he (by show 0 ≤ 29999; omega) (fun k hk => absurd hk (Nat.not_lt_zero k)) (hl_seta (by simp))) ?_
  rintro _ rfl
  refine y_ret (r := some (.ref (h.length + 1))) dm_X10_pickValues_49 rfl rfl rfl ?_
  rw [vpick_7 hk7]
  exact ⟨_, rfl, vres_nest (n := 0) (ch := fun k => vd v (pf k).toNat) (by omega) (by omega) he (by show 0 ≤ 29999; omega) (fun k hk => absurd hk (Nat.not_lt_zero k)) (by omega) (by omega)⟩
theorem dm_X10_pickValues_14 : mj_dec prog_12_method_25_code 14 = some (.iload 4, 2) := by decide +kernel
theorem dm_X10_pickValues_16 : mj_dec prog_12_method_25_code 16 = some (.aload_n 1, 1) := by decide +kernel
theorem dm_X10_pickValues_17 : mj_dec prog_12_method_25_code 17 = some (.arraylength, 1) := by decide +kernel
theorem dm_X10_pickValues_18 : mj_dec prog_12_method_25_code 18 = some (.if_icmp .ge 21, 3) := by decide +kernel
theorem dm_X10_pickValues_21 : mj_dec prog_12_method_25_code 21 = some (.aload_n 3, 1) := by decide +kernel
theorem dm_X10_pickValues_22 : mj_dec prog_12_method_25_code 22 = some (.iload 4, 2) := by decide +kernel
theorem dm_X10_pickValues_24 : mj_dec prog_12_method_25_code 24 = some (.aload_n 0, 1) := by decide +kernel
theorem dm_X10_pickValues_25 : mj_dec prog_12_method_25_code 25 = some (.aload_n 1, 1) := by decide +kernel
theorem dm_X10_pickValues_26 : mj_dec prog_12_method_25_code 26 = some (.iload 4, 2) := by decide +kernel
theorem dm_X10_pickValues_28 : mj_dec prog_12_method_25_code 28 = some (.iaload, 1) := by decide +kernel
theorem dm_X10_pickValues_29 : mj_dec prog_12_method_25_code 29 = some (.invokevirtual 65, 3) := by decide +kernel
theorem dm_X10_pickValues_32 : mj_dec prog_12_method_25_code 32 = some (.aastore, 1) := by decide +kernel
theorem dm_X10_pickValues_33 : mj_dec prog_12_method_25_code 33 = some (.iinc 4 1, 3) := by decide +kernel
theorem dm_X10_pickValues_36 : mj_dec prog_12_method_25_code 36 = some (.goto (-28), 3) := by decide +kernel
theorem c_pickValues {xt : mj_X} {d e p : Nat} {A : Nat → Prop} {h : mj_H} {v : VV} {pl np n : Nat} {pf : Nat → Int} (hd : 4 ≤ d) (hA : okA A h) (hl : 127 ≤ h.length) (hv : cv A h (e + 1) p v) (hpl : h[pl]? = some (cI np pf)) (hpl2 : 2 ≤ pl) (hnp : np ≤ 1000) (hn : n ≤ np) (hk7 : vk v = 7) (he : e ≤ 20) (hset : vsz (e + 1) v ≤ 1000) (hn24 : n ≤ 24) (hpf : ∀ k, k < n → 0 ≤ pf k ∧ pf k < vm v) : pgV xt d 114 [.ref p, .ref pl, ii (n : Int)] h (vres A h (e + 1) (vpick v (fun k => (pf k).toNat) n) 2 (n + 9)) := by
  by_cases hn0 : n = 0 ∧ vm v = 0
  · obtain ⟨rfl, hm0⟩ := hn0
    exact c_pickValues0 hd hl hA hv hpl hpl2 hk7 he
  have hS : sumN n (fun k => vsz e (vd v (pf k).toNat)) ≤ 29999 := by
    have := sumN_bd (n := n) (b := 999) (f := fun k => vsz e (vd v (pf k).toNat)) (fun k hk => by have h9 := hpf k hk; have := vsz_kid (e := e) hk7 (show (pf k).toNat < vm v by omega); omega)
    omega
  obtain ⟨hw, ⟨hp2, hpA⟩, hsz, hlv, row, fr, vals, hp, hfr, h1, h3, h7⟩ := id hv
  have hm := vw1_m hw
  rcases (h7 hk7).2 with ⟨z, -⟩ | ⟨a, n7, g, rfl, ha2, hga, haA, hn7, hb7, hkid⟩
  · clear h1 h3 h7; exfalso; have := hpf 0 (by omega); omega
  clear h1 h3 h7
  refine x_enter pm_X10_pickValues (L0 := [(0, .ref p), (1, .ref pl), (2, ii (n : Int))]) rfl (Nat.le_of_ble_eq_true rfl) (by omega) ?_
  refine me1 (pc' := 1) (L' := [(0, .ref p), (1, .ref pl), (2, ii (n : Int))]) (S' := [ii (n : Int)]) dm_X10_pickValues_0 rfl rfl rfl rfl ?_
  refine me3 (pc' := 4) (S' := [.ref h.length]) (h1 := h ++ [cA 4 n (fun _ => none)]) dm_X10_pickValues_1 (yh_newA rfl (by omega) (by omega) (by omega) rfl) rfl rfl rfl ?_
  refine me1 (pc' := 5) (L' := [(3, .ref h.length), (0, .ref p), (1, .ref pl), (2, ii (n : Int))]) (S' := []) dm_X10_pickValues_4 rfl rfl rfl rfl ?_
  refine me0 (pc' := 6) (S' := [ii 0]) dm_X10_pickValues_5 rfl rfl rfl rfl ?_
  refine me1 (pc' := 8) (L' := [(4, ii 0), (3, .ref h.length), (0, .ref p), (1, .ref pl), (2, ii (n : Int))]) (S' := []) dm_X10_pickValues_6 rfl rfl rfl rfl ?_
  have lp8 : ∀ (n8 : Nat) (k : Nat) (G : Nat → Option Nat), n - k = n8 → (k ≤ n) → (∀ j, j < k → ∃ q, G j = some q ∧ cv A h e q (vd v (pf j).toNat)) → pgE xt (d - 1) 10 5 false (Option.some (Jvm.ClassFile.FieldType.object "ArrayCalculator$Value")) (mj_dec prog_12_method_25_code) 8 [(0, .ref p), (1, .ref pl), (2, ii (n : Int)), (3, .ref h.length), (4, ii (k : Int))] [] (h ++ [cA 4 n G]) (fun r h' => ∃ x, r = some x ∧ vres A h (e + 1) (vpick v (fun k => (pf k).toNat) n) 2 (n + 9) x h') := by
    intro n8
    induction n8 using Nat.strongRecOn with
    | ind n8 ih8 =>
      intro k G hm8 hk hG
      refine me1 (pc' := 10) (L' := [(0, .ref p), (1, .ref pl), (2, ii (n : Int)), (3, .ref h.length), (4, ii (k : Int))]) (S' := [ii (k : Int)]) dm_X10_pickValues_8 rfl rfl rfl rfl ?_
      refine me1 (pc' := 11) (L' := [(0, .ref p), (1, .ref pl), (2, ii (n : Int)), (3, .ref h.length), (4, ii (k : Int))]) (S' := [ii (n : Int), ii (k : Int)]) dm_X10_pickValues_10 rfl rfl rfl rfl ?_
      refine y_2ge (a := (k : Int)) (b := (n : Int)) (t := 39) (pc' := 14) dm_X10_pickValues_11 rfl rfl (by omega) (fun hb1 => ?_) (fun hb1 => ?_)
      · refine me3 (pc' := 42) (S' := [.ref (h.length + 1)]) (h1 := (h ++ [cA 4 n G]) ++ [cO 10 [ii 0, .long (Int64.ofInt 0), .null, .null, ii 0, ii 0, ii 0, ii 0, ii 0]]) dm_X10_pickValues_39 (g_nw (by simp) rfl rfl) rfl rfl rfl ?_
        refine me0 (pc' := 43) (S' := [.ref (h.length + 1), .ref (h.length + 1)]) dm_X10_pickValues_42 rfl rfl rfl rfl ?_
        refine me1 (pc' := 44) (L' := [(0, .ref p), (1, .ref pl), (2, ii (n : Int)), (3, .ref h.length), (4, ii (k : Int))]) (S' := [.ref h.length, .ref (h.length + 1), .ref (h.length + 1)]) dm_X10_pickValues_43 rfl rfl rfl rfl ?_
        refine me0 (pc' := 45) (S' := [ii 0, .ref h.length, .ref (h.length + 1), .ref (h.length + 1)]) dm_X10_pickValues_44 rfl rfl rfl rfl ?_
        refine me1 (pc' := 46) (L' := [(0, .ref p), (1, .ref pl), (2, ii (n : Int)), (3, .ref h.length), (4, ii (k : Int))]) (S' := [ii (n : Int), ii 0, .ref h.length, .ref (h.length + 1), .ref (h.length + 1)]) dm_X10_pickValues_45 rfl rfl rfl rfl ?_
        refine x_cn (pc' := 49) (rest := [.ref (h.length + 1)]) dm_X10_pickValues_46 rfl (g_invp (As := [.ref h.length, ii 0, ii (n : Int)]) (S := [.ref (h.length + 1)]) rfl rfl rfl) rfl rfl rfl (c_newN (A := A) (e := e) (n := n) (g := G) (fr := 0) (m := n) (ch := fun k => vd v (pf k).toNat) (by omega) (hl_newa (by simp)) (by omega) (nA hA (Or.inr (by simp))) (hl_app hl_new) (by omega) (by simp) (by omega) (by omega) (by omega) (by omega) he hS (fun k hk => by obtain ⟨q, hq1, hq2⟩ := hG k (by omega); exact ⟨q, by rw [Nat.zero_add]; exact hq1, cv_app (cv_app hq2)⟩) (hl_seta (by simp))) ?_
        rintro _ rfl
        refine y_ret (r := some (.ref (h.length + 1))) dm_X10_pickValues_49 rfl rfl rfl ?_
        have hkn : k = n := by omega
        subst hkn
        rw [vpick_7 hk7]
        exact ⟨_, rfl, vres_nest (ch := fun k => vd v (pf k).toNat) (by omega) (by omega) he hS hG (by omega) (by omega)⟩
      · refine me1 (pc' := 16) (L' := [(0, .ref p), (1, .ref pl), (2, ii (n : Int)), (3, .ref h.length), (4, ii (k : Int))]) (S' := [ii (k : Int)]) dm_X10_pickValues_14 rfl rfl rfl rfl ?_
        refine me1 (pc' := 17) (L' := [(0, .ref p), (1, .ref pl), (2, ii (n : Int)), (3, .ref h.length), (4, ii (k : Int))]) (S' := [.ref pl, ii (k : Int)]) dm_X10_pickValues_16 rfl rfl rfl rfl ?_
        refine me3 (pc' := 18) (S' := [ii np, ii (k : Int)]) dm_X10_pickValues_17 (yh_len (n := np) rfl (hl_app hpl) (by omega)) rfl rfl rfl ?_
        refine y_2ge (a := (k : Int)) (b := np) (t := 39) (pc' := 21) dm_X10_pickValues_18 rfl rfl (by omega) (fun hb2 => ?_) (fun hb2 => ?_)
        · refine me3 (pc' := 42) (S' := [.ref (h.length + 1)]) (h1 := (h ++ [cA 4 n G]) ++ [cO 10 [ii 0, .long (Int64.ofInt 0), .null, .null, ii 0, ii 0, ii 0, ii 0, ii 0]]) dm_X10_pickValues_39 (g_nw (by simp) rfl rfl) rfl rfl rfl ?_
          refine me0 (pc' := 43) (S' := [.ref (h.length + 1), .ref (h.length + 1)]) dm_X10_pickValues_42 rfl rfl rfl rfl ?_
          refine me1 (pc' := 44) (L' := [(0, .ref p), (1, .ref pl), (2, ii (n : Int)), (3, .ref h.length), (4, ii (k : Int))]) (S' := [.ref h.length, .ref (h.length + 1), .ref (h.length + 1)]) dm_X10_pickValues_43 rfl rfl rfl rfl ?_
          refine me0 (pc' := 45) (S' := [ii 0, .ref h.length, .ref (h.length + 1), .ref (h.length + 1)]) dm_X10_pickValues_44 rfl rfl rfl rfl ?_
          refine me1 (pc' := 46) (L' := [(0, .ref p), (1, .ref pl), (2, ii (n : Int)), (3, .ref h.length), (4, ii (k : Int))]) (S' := [ii (n : Int), ii 0, .ref h.length, .ref (h.length + 1), .ref (h.length + 1)]) dm_X10_pickValues_45 rfl rfl rfl rfl ?_
          refine x_cn (pc' := 49) (rest := [.ref (h.length + 1)]) dm_X10_pickValues_46 rfl (g_invp (As := [.ref h.length, ii 0, ii (n : Int)]) (S := [.ref (h.length + 1)]) rfl rfl rfl) rfl rfl rfl (c_newN (A := A) (e := e) (n := n) (g := G) (fr := 0) (m := n) (ch := fun k => vd v (pf k).toNat) (by omega) (hl_newa (by simp)) (by omega) (nA hA (Or.inr (by simp))) (hl_app hl_new) (by omega) (by simp) (by omega) (by omega) (by omega) (by omega) he hS (fun k hk => by obtain ⟨q, hq1, hq2⟩ := hG k (by omega); exact ⟨q, by rw [Nat.zero_add]; exact hq1, cv_app (cv_app hq2)⟩) (hl_seta (by simp))) ?_
          rintro _ rfl
          refine y_ret (r := some (.ref (h.length + 1))) dm_X10_pickValues_49 rfl rfl rfl ?_
          have hkn : k = n := by omega
          subst hkn
          rw [vpick_7 hk7]
          exact ⟨_, rfl, vres_nest (ch := fun k => vd v (pf k).toNat) (by omega) (by omega) he hS hG (by omega) (by omega)⟩
        · refine me1 (pc' := 22) (L' := [(0, .ref p), (1, .ref pl), (2, ii (n : Int)), (3, .ref h.length), (4, ii (k : Int))]) (S' := [.ref h.length]) dm_X10_pickValues_21 rfl rfl rfl rfl ?_
          refine me1 (pc' := 24) (L' := [(0, .ref p), (1, .ref pl), (2, ii (n : Int)), (3, .ref h.length), (4, ii (k : Int))]) (S' := [ii (k : Int), .ref h.length]) dm_X10_pickValues_22 rfl rfl rfl rfl ?_
          refine me1 (pc' := 25) (L' := [(0, .ref p), (1, .ref pl), (2, ii (n : Int)), (3, .ref h.length), (4, ii (k : Int))]) (S' := [.ref p, ii (k : Int), .ref h.length]) dm_X10_pickValues_24 rfl rfl rfl rfl ?_
          refine me1 (pc' := 26) (L' := [(0, .ref p), (1, .ref pl), (2, ii (n : Int)), (3, .ref h.length), (4, ii (k : Int))]) (S' := [.ref pl, .ref p, ii (k : Int), .ref h.length]) dm_X10_pickValues_25 rfl rfl rfl rfl ?_
          refine me1 (pc' := 28) (L' := [(0, .ref p), (1, .ref pl), (2, ii (n : Int)), (3, .ref h.length), (4, ii (k : Int))]) (S' := [ii (k : Int), .ref pl, .ref p, ii (k : Int), .ref h.length]) dm_X10_pickValues_26 rfl rfl rfl rfl ?_
          refine me3 (pc' := 29) (S' := [ii (pf k), .ref p, ii (k : Int), .ref h.length]) dm_X10_pickValues_28 (yh_iald (v := pf k) (hl_app hpl) (by omega) (by omega) (by omega) (by omega) rfl) rfl rfl rfl ?_
          have hpk := hpf k (by omega)
          obtain ⟨q, hq1, hqv⟩ := hkid (pf k).toNat (by omega)
          obtain ⟨row1, fr1, vals1, hqc, hq2, hqA, -⟩ := cv_valE hqv
          refine x_cp (pc' := 32) (v := .ref q) (rest := [ii (k : Int), .ref h.length]) dm_X10_pickValues_29 rfl (g_inv (As := [ii (pf k)]) (S := [ii (k : Int), .ref h.length]) (hl_app hp) rfl rfl rfl (by omega)) rfl rfl rfl (c_valueAtK (i := pf k) (by omega) (hl_app hp) hp2 hfr (by omega) (hl_app hga) ha2 hn7 hb7 hpk.1 hpk.2 hq1) ?_
          refine me3 (pc' := 33) (S' := []) (h1 := h ++ [cA 4 n (va_up G k (some q))]) dm_X10_pickValues_32 (y_hs (yh_aasr (j := (k : Int)) rfl hl_new (hl_app hqc) (by omega) (by omega) (by omega) (by omega) (by omega)) (by rw [show (k : Int).toNat = k from rfl]; exact (hl_setl))) rfl rfl rfl ?_
          refine y_iinc (pc' := 36) (L' := [(4, ii ((k : Int) + 1)), (0, .ref p), (1, .ref pl), (2, ii (n : Int)), (3, .ref h.length)]) dm_X10_pickValues_33 (y_incp (a := (k : Int)) (c := 1) rfl rfl (by decide)) rfl ?_
          refine me2 (pc' := 8) (S' := []) dm_X10_pickValues_36 rfl rfl rfl ?_
          exact pg_sub (L := [(0, .ref p), (1, .ref pl), (2, ii (n : Int)), (3, .ref h.length), (4, ii ((k + 1) : Int))]) rfl rfl rfl (ih8 (n - (k + 1)) (by omega) (k + 1) (va_up G k (some q)) rfl (by omega) (fun j hj => by unfold va_up; by_cases z : j = k; (subst z; exact ⟨q, if_pos rfl, hqv⟩); (rw [if_neg z]; exact hG j (by omega))))
  exact pg_sub (L := [(0, .ref p), (1, .ref pl), (2, ii (n : Int)), (3, .ref h.length), (4, ii (0 : Int))]) rfl rfl rfl (lp8 _ 0 (fun _ => none) rfl (by omega) (fun j hj => absurd hj (Nat.not_lt_zero j)))
