theorem hl_self {h : mj_H} {a : Nat} {e : mj_E} (hg : h[a]? = some e) : h.set a e = h := by
  apply List.ext_getElem?
  intro i
  by_cases z : i = a
  · subst z; rw [List.getElem?_set_self (hl_lt hg), hg]
  · rw [List.getElem?_set_ne (fun y => z y.symm)]
theorem ares_ref {A : Nat → Prop} {h h' : mj_H} {e a b : Nat} {o : Nat ⊕ VV} {r : Value} (hr : ares A h e o a b r h') : ∃ q, r = .ref q := by
  cases o with
  | inl n => obtain ⟨q, X, h1, -⟩ := hr; exact ⟨q, h1⟩
  | inr w => exact vres_ref hr
theorem ares_up {A : Nat → Prop} {h h' : mj_H} {e a b a' b' : Nat} {o : Nat ⊕ VV} {r : Value} (hr : ares A h e o a b r h') (ha : a ≤ a') (hb : b ≤ b') : ares A h e o a' b' r h' := by
  cases o with
  | inl n => obtain ⟨q, X, h1, h2, h3, h4, h5⟩ := hr; exact ⟨q, X, h1, h2, by omega, by omega, h5⟩
  | inr w => exact vres_up ha hb hr
theorem s_pick_w {v : VV} {o : Nat → Nat} (hw : vw1 v) : s_pick v o (vm v) = .inr (vpick v o (vm v)) := by
  by_cases a : vk v = 7
  · exact s_pick_7 a (hw.2.2.2.2.1 a).1
  · by_cases b : vk v = 6
    · have := hw.2.2.2.1 b
      exact s_pick_6 b (by omega) (by omega)
    · exact s_pick_r (by have := hw.1; omega)
/-- | -/
def m_turn (v : VV) : Nat ⊕ VV := if vk v ≤ 1 then .inr v else .inr (vpick v (fun k => vm v - 1 - k) (vm v))
/-- ! -/
def m_upto (v : VV) : Nat ⊕ VV := if 2 ≤ vk v then .inl 3 else if vk v = 1 ∨ (vn v 0).toInt < 0 ∨ 120 < (vn v 0).toInt then .inl 5 else .inr (vrow 4 (vn v 0).toInt.toNat (fun k => Int64.ofInt (k : Int)))
/-- _ -/
def m_shape (v : VV) : Nat ⊕ VV := .inr (vrow 4 (if vk v ≤ 1 then 0 else if vk v = 6 then 2 else 1) (fun k => Int64.ofInt (if k = 0 then (vm v : Int) else (vc v : Int))))
theorem actH_18 {h : mj_H} (ha : actH h) (f : Nat → Int) : actH (h.set 18 (cI 144 f)) := by
  obtain ⟨a1, ⟨f2, a2⟩, ⟨f3, a3⟩, ⟨f4, a4, b4⟩, ⟨f5, a5⟩, ⟨f6, a6⟩, ⟨x1, x2, x3, x4, x5, x6, x7, x8, x9, x10, x11, a7⟩, ⟨f8, a8⟩, ⟨f9, a9⟩, ⟨y1, y2, y3, y4, y5, y6, y7, y8, y9, y10, y11, a10⟩, ⟨f11, a11⟩, ⟨f12, a12⟩, ⟨f13, a13⟩, ⟨f14, a14⟩⟩ := ha
  exact ⟨hl_ne (by decide) a1, ⟨f, hl_set (hl_lt a2)⟩, ⟨f3, hl_ne (by decide) a3⟩, ⟨f4, hl_ne (by decide) a4, b4⟩, ⟨f5, hl_ne (by decide) a5⟩, ⟨f6, hl_ne (by decide) a6⟩, ⟨x1, x2, x3, x4, x5, x6, x7, x8, x9, x10, x11, hl_ne (by decide) a7⟩, ⟨f8, hl_ne (by decide) a8⟩, ⟨f9, hl_ne (by decide) a9⟩, ⟨y1, y2, y3, y4, y5, y6, y7, y8, y9, y10, y11, hl_ne (by decide) a10⟩, ⟨f11, hl_ne (by decide) a11⟩, ⟨f12, hl_ne (by decide) a12⟩, ⟨f13, hl_ne (by decide) a13⟩, ⟨f14, hl_ne (by decide) a14⟩⟩
theorem actH_19 {h : mj_H} (ha : actH h) (f : Nat → Int64) : actH (h.set 19 (cJ 144 f)) := by
  obtain ⟨a1, ⟨f2, a2⟩, ⟨f3, a3⟩, ⟨f4, a4, b4⟩, ⟨f5, a5⟩, ⟨f6, a6⟩, ⟨x1, x2, x3, x4, x5, x6, x7, x8, x9, x10, x11, a7⟩, ⟨f8, a8⟩, ⟨f9, a9⟩, ⟨y1, y2, y3, y4, y5, y6, y7, y8, y9, y10, y11, a10⟩, ⟨f11, a11⟩, ⟨f12, a12⟩, ⟨f13, a13⟩, ⟨f14, a14⟩⟩ := ha
  exact ⟨hl_ne (by decide) a1, ⟨f2, hl_ne (by decide) a2⟩, ⟨f, hl_set (hl_lt a3)⟩, ⟨f4, hl_ne (by decide) a4, b4⟩, ⟨f5, hl_ne (by decide) a5⟩, ⟨f6, hl_ne (by decide) a6⟩, ⟨x1, x2, x3, x4, x5, x6, x7, x8, x9, x10, x11, hl_ne (by decide) a7⟩, ⟨f8, hl_ne (by decide) a8⟩, ⟨f9, hl_ne (by decide) a9⟩, ⟨y1, y2, y3, y4, y5, y6, y7, y8, y9, y10, y11, hl_ne (by decide) a10⟩, ⟨f11, hl_ne (by decide) a11⟩, ⟨f12, hl_ne (by decide) a12⟩, ⟨f13, hl_ne (by decide) a13⟩, ⟨f14, hl_ne (by decide) a14⟩⟩
theorem actH_29 {h : mj_H} (ha : actH h) (f : Nat → Int) : actH (h.set 29 (cI 144 f)) := by
  obtain ⟨a1, ⟨f2, a2⟩, ⟨f3, a3⟩, ⟨f4, a4, b4⟩, ⟨f5, a5⟩, ⟨f6, a6⟩, ⟨x1, x2, x3, x4, x5, x6, x7, x8, x9, x10, x11, a7⟩, ⟨f8, a8⟩, ⟨f9, a9⟩, ⟨y1, y2, y3, y4, y5, y6, y7, y8, y9, y10, y11, a10⟩, ⟨f11, a11⟩, ⟨f12, a12⟩, ⟨f13, a13⟩, ⟨f14, a14⟩⟩ := ha
  exact ⟨hl_ne (by decide) a1, ⟨f2, hl_ne (by decide) a2⟩, ⟨f3, hl_ne (by decide) a3⟩, ⟨f4, hl_ne (by decide) a4, b4⟩, ⟨f5, hl_ne (by decide) a5⟩, ⟨f6, hl_ne (by decide) a6⟩, ⟨x1, x2, x3, x4, x5, x6, x7, x8, x9, x10, x11, hl_ne (by decide) a7⟩, ⟨f8, hl_ne (by decide) a8⟩, ⟨f9, hl_ne (by decide) a9⟩, ⟨y1, y2, y3, y4, y5, y6, y7, y8, y9, y10, y11, hl_ne (by decide) a10⟩, ⟨f11, hl_ne (by decide) a11⟩, ⟨f, hl_set (hl_lt a12)⟩, ⟨f13, hl_ne (by decide) a13⟩, ⟨f14, hl_ne (by decide) a14⟩⟩
theorem actH_30 {h : mj_H} (ha : actH h) (f : Nat → Int64) : actH (h.set 30 (cJ 144 f)) := by
  obtain ⟨a1, ⟨f2, a2⟩, ⟨f3, a3⟩, ⟨f4, a4, b4⟩, ⟨f5, a5⟩, ⟨f6, a6⟩, ⟨x1, x2, x3, x4, x5, x6, x7, x8, x9, x10, x11, a7⟩, ⟨f8, a8⟩, ⟨f9, a9⟩, ⟨y1, y2, y3, y4, y5, y6, y7, y8, y9, y10, y11, a10⟩, ⟨f11, a11⟩, ⟨f12, a12⟩, ⟨f13, a13⟩, ⟨f14, a14⟩⟩ := ha
  exact ⟨hl_ne (by decide) a1, ⟨f2, hl_ne (by decide) a2⟩, ⟨f3, hl_ne (by decide) a3⟩, ⟨f4, hl_ne (by decide) a4, b4⟩, ⟨f5, hl_ne (by decide) a5⟩, ⟨f6, hl_ne (by decide) a6⟩, ⟨x1, x2, x3, x4, x5, x6, x7, x8, x9, x10, x11, hl_ne (by decide) a7⟩, ⟨f8, hl_ne (by decide) a8⟩, ⟨f9, hl_ne (by decide) a9⟩, ⟨y1, y2, y3, y4, y5, y6, y7, y8, y9, y10, y11, hl_ne (by decide) a10⟩, ⟨f11, hl_ne (by decide) a11⟩, ⟨f12, hl_ne (by decide) a12⟩, ⟨f, hl_set (hl_lt a13)⟩, ⟨f14, hl_ne (by decide) a14⟩⟩
theorem actH_31 {h : mj_H} (ha : actH h) (f : Nat → Option Nat) : actH (h.set 31 (cA 4 120 f)) := by
  obtain ⟨a1, ⟨f2, a2⟩, ⟨f3, a3⟩, ⟨f4, a4, b4⟩, ⟨f5, a5⟩, ⟨f6, a6⟩, ⟨x1, x2, x3, x4, x5, x6, x7, x8, x9, x10, x11, a7⟩, ⟨f8, a8⟩, ⟨f9, a9⟩, ⟨y1, y2, y3, y4, y5, y6, y7, y8, y9, y10, y11, a10⟩, ⟨f11, a11⟩, ⟨f12, a12⟩, ⟨f13, a13⟩, ⟨f14, a14⟩⟩ := ha
  exact ⟨hl_ne (by decide) a1, ⟨f2, hl_ne (by decide) a2⟩, ⟨f3, hl_ne (by decide) a3⟩, ⟨f4, hl_ne (by decide) a4, b4⟩, ⟨f5, hl_ne (by decide) a5⟩, ⟨f6, hl_ne (by decide) a6⟩, ⟨x1, x2, x3, x4, x5, x6, x7, x8, x9, x10, x11, hl_ne (by decide) a7⟩, ⟨f8, hl_ne (by decide) a8⟩, ⟨f9, hl_ne (by decide) a9⟩, ⟨y1, y2, y3, y4, y5, y6, y7, y8, y9, y10, y11, hl_ne (by decide) a10⟩, ⟨f11, hl_ne (by decide) a11⟩, ⟨f12, hl_ne (by decide) a12⟩, ⟨f13, hl_ne (by decide) a13⟩, ⟨f, hl_set (hl_lt a14)⟩⟩
theorem actH_26 {h : mj_H} (ha : actH h) (f : Int) : actH (h.set 26 (cO 9 [.ref 27, .ref 29, .ref 30, .ref 31, ii f])) := by
  obtain ⟨a1, ⟨f2, a2⟩, ⟨f3, a3⟩, ⟨f4, a4, b4⟩, ⟨f5, a5⟩, ⟨f6, a6⟩, ⟨x1, x2, x3, x4, x5, x6, x7, x8, x9, x10, x11, a7⟩, ⟨f8, a8⟩, ⟨f9, a9⟩, ⟨y1, y2, y3, y4, y5, y6, y7, y8, y9, y10, y11, a10⟩, ⟨f11, a11⟩, ⟨f12, a12⟩, ⟨f13, a13⟩, ⟨f14, a14⟩⟩ := ha
  exact ⟨hl_ne (by decide) a1, ⟨f2, hl_ne (by decide) a2⟩, ⟨f3, hl_ne (by decide) a3⟩, ⟨f4, hl_ne (by decide) a4, b4⟩, ⟨f5, hl_ne (by decide) a5⟩, ⟨f6, hl_ne (by decide) a6⟩, ⟨x1, x2, x3, x4, x5, x6, x7, x8, x9, x10, x11, hl_ne (by decide) a7⟩, ⟨f8, hl_ne (by decide) a8⟩, ⟨f, hl_set (hl_lt a9)⟩, ⟨y1, y2, y3, y4, y5, y6, y7, y8, y9, y10, y11, hl_ne (by decide) a10⟩, ⟨f11, hl_ne (by decide) a11⟩, ⟨f12, hl_ne (by decide) a12⟩, ⟨f13, hl_ne (by decide) a13⟩, ⟨f14, hl_ne (by decide) a14⟩⟩
set_option maxRecDepth 20000 in
theorem pm_X3_turned : mj_mmof pg_ms 112 = some ((⟨"ArrayCalculator$OneAct", "turned", "(LArrayCalculator$Value;)LArrayCalculator$Value;"⟩, prog_5_method_5_code, 3, (Option.some (Jvm.ClassFile.FieldType.object "ArrayCalculator$Value"))), 3, false, mj_dec prog_5_method_5_code) := rfl
theorem dm_X3_turned_0 : mj_dec prog_5_method_5_code 0 = some (.aload_n 1, 1) := by decide +kernel
theorem dm_X3_turned_1 : mj_dec prog_5_method_5_code 1 = some (.invokevirtual 139, 3) := by decide +kernel
theorem dm_X3_turned_4 : mj_dec prog_5_method_5_code 4 = some (.ifCond .eq 5, 3) := by decide +kernel
theorem dm_X3_turned_7 : mj_dec prog_5_method_5_code 7 = some (.aload_n 1, 1) := by decide +kernel
theorem dm_X3_turned_8 : mj_dec prog_5_method_5_code 8 = some (.areturn, 1) := by decide +kernel
theorem dm_X3_turned_9 : mj_dec prog_5_method_5_code 9 = some (.iconst 0, 1) := by decide +kernel
theorem dm_X3_turned_10 : mj_dec prog_5_method_5_code 10 = some (.istore_n 2, 1) := by decide +kernel
theorem dm_X3_turned_11 : mj_dec prog_5_method_5_code 11 = some (.iload_n 2, 1) := by decide +kernel
theorem dm_X3_turned_12 : mj_dec prog_5_method_5_code 12 = some (.aload_n 1, 1) := by decide +kernel
theorem dm_X3_turned_13 : mj_dec prog_5_method_5_code 13 = some (.getfield 76, 3) := by decide +kernel
theorem dm_X3_turned_16 : mj_dec prog_5_method_5_code 16 = some (.if_icmp .ge 23, 3) := by decide +kernel
theorem dm_X3_turned_19 : mj_dec prog_5_method_5_code 19 = some (.aload_n 0, 1) := by decide +kernel
theorem dm_X3_turned_20 : mj_dec prog_5_method_5_code 20 = some (.getfield 9, 3) := by decide +kernel
theorem dm_X3_turned_23 : mj_dec prog_5_method_5_code 23 = some (.iload_n 2, 1) := by decide +kernel
theorem dm_X3_turned_24 : mj_dec prog_5_method_5_code 24 = some (.aload_n 1, 1) := by decide +kernel
theorem dm_X3_turned_25 : mj_dec prog_5_method_5_code 25 = some (.getfield 76, 3) := by decide +kernel
theorem dm_X3_turned_28 : mj_dec prog_5_method_5_code 28 = some (.iconst 1, 1) := by decide +kernel
theorem dm_X3_turned_29 : mj_dec prog_5_method_5_code 29 = some (.isub, 1) := by decide +kernel
theorem dm_X3_turned_30 : mj_dec prog_5_method_5_code 30 = some (.iload_n 2, 1) := by decide +kernel
theorem dm_X3_turned_31 : mj_dec prog_5_method_5_code 31 = some (.isub, 1) := by decide +kernel
theorem dm_X3_turned_32 : mj_dec prog_5_method_5_code 32 = some (.iastore, 1) := by decide +kernel
theorem dm_X3_turned_33 : mj_dec prog_5_method_5_code 33 = some (.iinc 2 1, 3) := by decide +kernel
theorem dm_X3_turned_36 : mj_dec prog_5_method_5_code 36 = some (.goto (-25), 3) := by decide +kernel
theorem dm_X3_turned_39 : mj_dec prog_5_method_5_code 39 = some (.aload_n 1, 1) := by decide +kernel
theorem dm_X3_turned_40 : mj_dec prog_5_method_5_code 40 = some (.aload_n 0, 1) := by decide +kernel
theorem dm_X3_turned_41 : mj_dec prog_5_method_5_code 41 = some (.getfield 9, 3) := by decide +kernel
theorem dm_X3_turned_44 : mj_dec prog_5_method_5_code 44 = some (.aload_n 1, 1) := by decide +kernel
theorem dm_X3_turned_45 : mj_dec prog_5_method_5_code 45 = some (.getfield 76, 3) := by decide +kernel
theorem dm_X3_turned_48 : mj_dec prog_5_method_5_code 48 = some (.invokevirtual 142, 3) := by decide +kernel
theorem dm_X3_turned_51 : mj_dec prog_5_method_5_code 51 = some (.areturn, 1) := by decide +kernel
theorem o_turned {xt : mj_X} {d e p : Nat} {A : Nat → Prop} {h : mj_H} {v : VV} {f1 : Nat → Value} (hx1 : xt 1 = some (.long, 0, f1)) (hd : 8 ≤ d) (hl : 127 ≤ h.length) (hA : okA A h) (hH : actH h) (hv : cv A h (e + 1) p v) (he : e ≤ 20) (hset : vsz (e + 1) v ≤ 1000) : pgV xt d 112 [.ref 17, .ref p] h (aact A h (e + 1) (m_turn v) 2 (pcl v (vm v) + 9)) := by
  have h17 := hH.1
  obtain ⟨pf0, h18⟩ := hH.2.1
  obtain ⟨nf0, h19⟩ := hH.2.2.1
  have hcv := vw1_c hv.1
  obtain ⟨row, fr, vals, hp, hp2, hpA, hvk, hvm, hvc, hvs, hvl⟩ := cv_val hv
  have hpb := hA p hpA
  refine x_enter pm_X3_turned (L0 := [(0, .ref 17), (1, .ref p)]) rfl (Nat.le_of_ble_eq_true rfl) (by omega) ?_
  refine me1 (pc' := 1) (L' := [(0, .ref 17), (1, .ref p)]) (S' := [.ref p]) dm_X3_turned_0 rfl rfl rfl rfl ?_
  refine x_cp (pc' := 4) (v := zz (decide (vk v ≤ 1))) (rest := []) dm_X3_turned_1 rfl (g_inv (As := []) (S := []) hp rfl rfl rfl (by omega)) rfl rfl rfl (c_isOne (by omega) hv) ?_
  refine y_zeq (c := decide (vk v ≤ 1)) (t := 9) (pc' := 7) dm_X3_turned_4 rfl rfl (fun hb1 => ?_) (fun hb1 => ?_)
  · replace hb1 := dF hb1
    refine me0 (pc' := 10) (S' := [ii 0]) dm_X3_turned_9 rfl rfl rfl rfl ?_
    refine me1 (pc' := 11) (L' := [(2, ii 0), (0, .ref 17), (1, .ref p)]) (S' := []) dm_X3_turned_10 rfl rfl rfl rfl ?_
    have lp11 : ∀ (n11 : Nat) (k : Nat), vm v - k = n11 → (k ≤ vm v) → pgE xt (d - 1) 3 3 false (Option.some (Jvm.ClassFile.FieldType.object "ArrayCalculator$Value")) (mj_dec prog_5_method_5_code) 11 [(0, .ref 17), (1, .ref p), (2, ii (k : Int))] [] ((h).set 18 (cI 144 (fl k (fun k : Nat => (vm v : Int) - 1 - (k : Int)) pf0))) (fun r h' => ∃ x, r = some x ∧ aact A h (e + 1) (m_turn v) 2 (pcl v (vm v) + 9) x h') := by
      intro n11
      induction n11 using Nat.strongRecOn with
      | ind n11 ih11 =>
        intro k hm11 hk
        refine me1 (pc' := 12) (L' := [(0, .ref 17), (1, .ref p), (2, ii (k : Int))]) (S' := [ii (k : Int)]) dm_X3_turned_11 rfl rfl rfl rfl ?_
        refine me1 (pc' := 13) (L' := [(0, .ref 17), (1, .ref p), (2, ii (k : Int))]) (S' := [.ref p, ii (k : Int)]) dm_X3_turned_12 rfl rfl rfl rfl ?_
        refine me3 (pc' := 16) (S' := [ii (vm v : Int), ii (k : Int)]) dm_X3_turned_13 (g_get (v := ii (vm v : Int)) (hl_ne (by omega) hp) rfl rfl (by omega)) rfl rfl rfl ?_
        refine y_2ge (a := (k : Int)) (b := (vm v : Int)) (t := 39) (pc' := 19) dm_X3_turned_16 rfl rfl (by omega) (fun hb2 => ?_) (fun hb2 => ?_)
        · have hkn : k = vm v := by omega
          have hpk : ∀ j, j < vm v → -2147483648 ≤ fl k (fun k : Nat => (vm v : Int) - 1 - (k : Int)) pf0 j ∧ fl k (fun k : Nat => (vm v : Int) - 1 - (k : Int)) pf0 j ≤ 2147483647 ∧ (vk v ≤ 1 ∨ 0 ≤ fl k (fun k : Nat => (vm v : Int) - 1 - (k : Int)) pf0 j ∧ fl k (fun k : Nat => (vm v : Int) - 1 - (k : Int)) pf0 j < vm v) := fun j hj => by rw [fl_at _ _ (by omega)]; show _ ≤ (vm v : Int) - 1 - (j : Int) ∧ (vm v : Int) - 1 - (j : Int) ≤ _ ∧ (vk v ≤ 1 ∨ 0 ≤ (vm v : Int) - 1 - (j : Int) ∧ (vm v : Int) - 1 - (j : Int) < (vm v : Int)); omega
          refine me1 (pc' := 40) (L' := [(0, .ref 17), (1, .ref p), (2, ii (k : Int))]) (S' := [.ref p]) dm_X3_turned_39 rfl rfl rfl rfl ?_
          refine me1 (pc' := 41) (L' := [(0, .ref 17), (1, .ref p), (2, ii (k : Int))]) (S' := [.ref 17, .ref p]) dm_X3_turned_40 rfl rfl rfl rfl ?_
          refine me3 (pc' := 44) (S' := [.ref 18, .ref p]) dm_X3_turned_41 (g_get (v := .ref 18) (hl_ne (by decide) h17) rfl rfl (by decide)) rfl rfl rfl ?_
          refine me1 (pc' := 45) (L' := [(0, .ref 17), (1, .ref p), (2, ii (k : Int))]) (S' := [.ref p, .ref 18, .ref p]) dm_X3_turned_44 rfl rfl rfl rfl ?_
          refine me3 (pc' := 48) (S' := [ii (vm v : Int), .ref 18, .ref p]) dm_X3_turned_45 (g_get (v := ii (vm v : Int)) (hl_ne (by omega) hp) rfl rfl (by omega)) rfl rfl rfl ?_
          have hs1 : scrS h ((h).set 18 (cI 144 (fl k (fun k : Nat => (vm v : Int) - 1 - (k : Int)) pf0))) := scrS_set (by unfold scr; decide) h18 rfl
          have hA1 := okA_scr hA hs1
          have hl1 : 127 ≤ ((h).set 18 (cI 144 (fl k (fun k : Nat => (vm v : Int) - 1 - (k : Int)) pf0))).length := by rw [hs1.1]; exact hl
          refine x_cv (pc' := 51) (rest := []) dm_X3_turned_48 rfl (g_inv (As := [.ref 18, ii (vm v : Int)]) (S := []) (hl_ne (by omega) hp) rfl rfl rfl (by omega)) rfl rfl rfl (c_pick hx1 (by omega) hA1 hl1 (cv_set (nA hA (Or.inl (by decide))) hv) (hl_set (hl_lt h18)) (by decide) (by decide) (by omega) he hset (by omega) hpk) ?_
          rintro x h2 hres
          obtain ⟨q, rfl⟩ := ares_ref hres
          refine y_ret (r := some (.ref q)) dm_X3_turned_51 rfl rfl rfl ?_
          refine ⟨_, rfl, _, hs1, actH_18 hH _, ?_⟩
          unfold m_turn
          rw [if_neg (by omega)]
          rw [s_pick_w hv.1] at hres
          exact ares_congr hres (vpick_congr (by omega) (fun j hj => by rw [fl_at _ _ (by omega)]; show ((vm v : Int) - 1 - (j : Int)).toNat = vm v - 1 - j; omega))
        · refine me1 (pc' := 20) (L' := [(0, .ref 17), (1, .ref p), (2, ii (k : Int))]) (S' := [.ref 17]) dm_X3_turned_19 rfl rfl rfl rfl ?_
          refine me3 (pc' := 23) (S' := [.ref 18]) dm_X3_turned_20 (g_get (v := .ref 18) (hl_ne (by decide) h17) rfl rfl (by decide)) rfl rfl rfl ?_
          refine me1 (pc' := 24) (L' := [(0, .ref 17), (1, .ref p), (2, ii (k : Int))]) (S' := [ii (k : Int), .ref 18]) dm_X3_turned_23 rfl rfl rfl rfl ?_
          refine me1 (pc' := 25) (L' := [(0, .ref 17), (1, .ref p), (2, ii (k : Int))]) (S' := [.ref p, ii (k : Int), .ref 18]) dm_X3_turned_24 rfl rfl rfl rfl ?_
          refine me3 (pc' := 28) (S' := [ii (vm v : Int), ii (k : Int), .ref 18]) dm_X3_turned_25 (g_get (v := ii (vm v : Int)) (hl_ne (by omega) hp) rfl rfl (by omega)) rfl rfl rfl ?_
          refine me0 (pc' := 29) (S' := [ii 1, ii (vm v : Int), ii (k : Int), .ref 18]) dm_X3_turned_28 rfl rfl rfl rfl ?_
          refine y_isub (a := (vm v : Int)) (b := 1) dm_X3_turned_29 (pc' := 30) rfl ?_
          refine me1 (pc' := 31) (L' := [(0, .ref 17), (1, .ref p), (2, ii (k : Int))]) (S' := [ii (k : Int), ii ((vm v : Int) - 1), ii (k : Int), .ref 18]) dm_X3_turned_30 rfl rfl rfl rfl ?_
          refine y_isub (a := (vm v : Int) - 1) (b := (k : Int)) dm_X3_turned_31 (pc' := 32) rfl ?_
          refine me3 (pc' := 33) (S' := []) (h1 := (h).set 18 (cI 144 (va_up (fl k (fun k : Nat => (vm v : Int) - 1 - (k : Int)) pf0) k (((vm v : Int) - 1) - (k : Int))))) dm_X3_turned_32 (y_hs (yh_iast (j := (k : Int)) (hl_set (hl_lt h18)) (by omega) (by omega) (by omega) (by decide)) (by rw [show (k : Int).toNat = k from rfl]; rw [List.set_set])) rfl rfl rfl ?_
          refine y_iinc (pc' := 36) (L' := [(2, ii ((k : Int) + 1)), (0, .ref 17), (1, .ref p)]) dm_X3_turned_33 (y_incp (a := (k : Int)) (c := 1) rfl rfl (by decide)) rfl ?_
          refine me2 (pc' := 11) (S' := []) dm_X3_turned_36 rfl rfl rfl ?_
          refine pg_cast (h2 := (h).set 18 (cI 144 (fl (k + 1) (fun k : Nat => (vm v : Int) - 1 - (k : Int)) pf0))) (congrArg (fun z => h.set 18 (cI 144 z)) (fl_s k (fun k : Nat => (vm v : Int) - 1 - (k : Int)) pf0)) ?_
          exact pg_sub (L := [(0, .ref 17), (1, .ref p), (2, ii ((k + 1) : Int))]) rfl rfl rfl (ih11 (vm v - (k + 1)) (by omega) (k + 1) rfl (by omega))
    refine pg_cast (h2 := (h).set 18 (cI 144 (fl 0 (fun k : Nat => (vm v : Int) - 1 - (k : Int)) pf0))) (by rw [fl_0]; exact (hl_self h18).symm) ?_
    exact pg_sub (L := [(0, .ref 17), (1, .ref p), (2, ii (0 : Int))]) rfl rfl rfl (lp11 _ 0 rfl (Nat.zero_le _))
  · replace hb1 := dT hb1
    refine me1 (pc' := 8) (L' := [(0, .ref 17), (1, .ref p)]) (S' := [.ref p]) dm_X3_turned_7 rfl rfl rfl rfl ?_
    refine y_ret (r := some (.ref p)) dm_X3_turned_8 rfl rfl rfl ?_
    exact ⟨_, rfl, h, scrS_rf h, hH, by unfold m_turn; rw [if_pos (by omega)]; exact vres_same hv⟩
