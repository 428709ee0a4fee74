/-! what has changed: cells of S alone; how much was made -/
def FX (S : Nat → Prop) (a b : Nat) (h h' : mj_H) : Prop := h.length ≤ h'.length ∧ h'.length ≤ h.length + a ∧ mj_sl h' ≤ mj_sl h + b ∧ ∀ y, y < h.length → ¬ S y → h'[y]? = h[y]?
section FXs
variable {S : Nat → Prop} {a b a' b' y : Nat} {h h' g : mj_H} {c c' : mj_E}
theorem FX_rf (S : Nat → Prop) (h : mj_H) : FX S 0 0 h h := ⟨Nat.le_refl _, Nat.le_refl _, Nat.le_refl _, fun _ _ _ => rfl⟩
theorem FX_set (hs : S y) (hg : h'[y]? = some c) (e : mj_sl1 c' = mj_sl1 c) (x : FX S a b h h') : FX S a b h (h'.set y c') := by
  obtain ⟨x1, x2, x3, x4⟩ := x
  refine ⟨by rw [List.length_set]; exact x1, by rw [List.length_set]; exact x2, by rw [sl_set hg e]; exact x3, fun z z1 z2 => ?_⟩
  rw [List.getElem?_set_ne (fun q => z2 (by rw [← q]; exact hs))]
  exact x4 z z1 z2
theorem FX_vres {A : Nat → Prop} {D : Nat} {v : VV} {r : Value} (x : FX S a b h h') (hr : vres A h' D v a' b' r g) : FX S (a + a') (b + b') h g := by
  obtain ⟨x1, x2, x3, x4⟩ := x
  obtain ⟨q, X, -, rfl, y1, y2, -⟩ := hr
  have e : (h' ++ X).length = h'.length + X.length := List.length_append
  refine ⟨by omega, by omega, by rw [sl_app]; omega, fun z z1 z2 => ?_⟩
  rw [List.getElem?_append_left (by omega)]
  exact x4 z z1 z2
theorem FX_up (x : FX S a b h h') (h1 : a ≤ a') (h2 : b ≤ b') : FX S a' b' h h' := ⟨x.1, by have := x.2.1; omega, by have := x.2.2.1; omega, x.2.2.2⟩
theorem FX_S {S' : Nat → Prop} (x : FX S a b h h') (k : ∀ y, S y → S' y) : FX S' a b h h' := ⟨x.1, x.2.1, x.2.2.1, fun y y1 y2 => x.2.2.2 y y1 (fun z => y2 (k y z))⟩
theorem FX_tr (x : FX S a b h h') (z : FX S a' b' h' g) : FX S (a + a') (b + b') h g := by
  obtain ⟨x1, x2, x3, x4⟩ := x
  obtain ⟨z1, z2, z3, z4⟩ := z
  exact ⟨by omega, by omega, by omega, fun y y1 y2 => (z4 y (by omega) y2).trans (x4 y y1 y2)⟩
end FXs
theorem cv_to {A B : Nat → Prop} {h g : mj_H} {D q : Nat} {v : VV} {c : mj_E} (hA : okA A h) (hl : 127 ≤ h.length) (hB : ∀ a, B a → A a ∨ (h.length ≤ a ∧ a < g.length)) (hv : cv B g D q v) : cv (newA A h (g.set 16 c)) (g.set 16 c) D q v := by
  refine cv_keep (fun a e ha hg => ?_) hv
  have h16 : a ≠ 16 := fun z => by
    rcases hB a ha with y | y
    · have := hA a y; omega
    · omega
  refine ⟨?_, by rw [List.getElem?_set_ne (Ne.symm h16)]; exact hg⟩
  rcases hB a ha with y | y
  · exact Or.inl y
  · exact Or.inr ⟨y.1, by rw [List.length_set]; exact y.2⟩
theorem vres_B {A A0 : Nat → Prop} {h0 h g : mj_H} {D a b : Nat} {v : VV} {q : Nat} (hr : vres A h D v a b (.ref q) g) (hB : ∀ x, A x → A0 x ∨ (h0.length ≤ x ∧ x < h.length)) (hl : h0.length ≤ h.length) : h.length ≤ g.length ∧ cv (newA A h g) g D q v ∧ (∀ x, newA A h g x → A0 x ∨ (h0.length ≤ x ∧ x < g.length)) := by
  obtain ⟨q', X, e, rfl, x1, x2, x3⟩ := hr
  have e : q = q' := by injection e
  subst e
  have gl : (h ++ X).length = h.length + X.length := List.length_append
  refine ⟨by omega, x3, fun x hx => ?_⟩
  rcases hx with z | z
  · rcases hB x z with y | y
    · exact Or.inl y
    · exact Or.inr ⟨y.1, by omega⟩
  · exact Or.inr ⟨by omega, z.2⟩
theorem vres_cvN {A : Nat → Prop} {h g : mj_H} {D D' a b p : Nat} {v w : VV} {r : Value} (hr : vres A h D v a b r g) (hw : cv A h D' p w) : cv (newA A h g) g D' p w := by
  obtain ⟨q', X, e, rfl, x1, x2, x3⟩ := hr
  exact cv_keep (fun a e ha hg => ⟨Or.inl ha, hl_app hg⟩) hw
set_option maxRecDepth 20000 in
theorem pm_X1_advance : mj_mmof pg_ms 160 = some ((⟨"ArrayCalculator$Machine", "advance", "(LArrayCalculator$Frame;)V"⟩, prog_3_method_21_code, 6, (Option.none : Option Jvm.ClassFile.FieldType)), 1, false, mj_dec prog_3_method_21_code) := rfl
theorem dm_X1_advance_0 : mj_dec prog_3_method_21_code 0 = some (.aload_n 1, 1) := by decide +kernel
theorem dm_X1_advance_1 : mj_dec prog_3_method_21_code 1 = some (.getfield 222, 3) := by decide +kernel
theorem dm_X1_advance_4 : mj_dec prog_3_method_21_code 4 = some (.astore_n 2, 1) := by decide +kernel
theorem dm_X1_advance_5 : mj_dec prog_3_method_21_code 5 = some (.aload_n 2, 1) := by decide +kernel
theorem dm_X1_advance_6 : mj_dec prog_3_method_21_code 6 = some (.aload_n 1, 1) := by decide +kernel
theorem dm_X1_advance_7 : mj_dec prog_3_method_21_code 7 = some (.getfield 102, 3) := by decide +kernel
theorem dm_X1_advance_10 : mj_dec prog_3_method_21_code 10 = some (.invokevirtual 227, 3) := by decide +kernel
theorem dm_X1_advance_13 : mj_dec prog_3_method_21_code 13 = some (.istore_n 3, 1) := by decide +kernel
theorem dm_X1_advance_14 : mj_dec prog_3_method_21_code 14 = some (.aload_n 1, 1) := by decide +kernel
theorem dm_X1_advance_15 : mj_dec prog_3_method_21_code 15 = some (.getfield 240, 3) := by decide +kernel
theorem dm_X1_advance_18 : mj_dec prog_3_method_21_code 18 = some (.aload_n 1, 1) := by decide +kernel
theorem dm_X1_advance_19 : mj_dec prog_3_method_21_code 19 = some (.getfield 242, 3) := by decide +kernel
theorem dm_X1_advance_22 : mj_dec prog_3_method_21_code 22 = some (.if_icmp .lt 39, 3) := by decide +kernel
theorem dm_X1_advance_25 : mj_dec prog_3_method_21_code 25 = some (.aload_n 0, 1) := by decide +kernel
theorem dm_X1_advance_26 : mj_dec prog_3_method_21_code 26 = some (.dup, 1) := by decide +kernel
theorem dm_X1_advance_27 : mj_dec prog_3_method_21_code 27 = some (.getfield 56, 3) := by decide +kernel
theorem dm_X1_advance_30 : mj_dec prog_3_method_21_code 30 = some (.iconst 1, 1) := by decide +kernel
theorem dm_X1_advance_31 : mj_dec prog_3_method_21_code 31 = some (.isub, 1) := by decide +kernel
theorem dm_X1_advance_32 : mj_dec prog_3_method_21_code 32 = some (.putfield 56, 3) := by decide +kernel
theorem dm_X1_advance_35 : mj_dec prog_3_method_21_code 35 = some (.iload_n 3, 1) := by decide +kernel
theorem dm_X1_advance_36 : mj_dec prog_3_method_21_code 36 = some (.bipush 47, 2) := by decide +kernel
theorem dm_X1_advance_38 : mj_dec prog_3_method_21_code 38 = some (.if_icmp .eq 22, 3) := by decide +kernel
theorem dm_X1_advance_60 : mj_dec prog_3_method_21_code 60 = some (.return_, 1) := by decide +kernel
theorem m_avE {xt : mj_X} {f1 : Nat → Value} {d t e dq qw fr p i k mk ln j n b : Nat} {T : Nat → Tok} {A : Nat → Prop} {h : mj_H} {w : VV} {sf : Nat → Option Nat} {dd ca ou wk pl lv : Int} {nx fx nw vx vy lf rt : Value} (hx1 : xt 1 = some (.long, 0, f1)) (hd : 6 ≤ d) (hl : 127 ≤ h.length) (hA : okA A h) (hK : TOKS T mk ln) (h16 : h[16]? = some (mcC (t : Int) ((dq + 1 : Nat) : Int) ca ou wk 0 pl nw vx vy .null lv lf rt)) (h32 : h[32]? = some (cA 4 8192 sf)) (hfr2 : 34 ≤ fr ∧ fr ≤ 97) (hfr : h[fr]? = some (cO 0 [ii ((k + 1 : Nat) : Int), .ref p, fx, .ref qw, ii ((j : Nat) : Int), ii ((n : Nat) : Int), ii ((b : Nat) : Int)])) (hp : h[p]? = some (doC T i dd nx)) (hp2 : 127 ≤ p) (hkA : k < avM T i) (had : -2147483648 ≤ tqD (T (i + 1 + k)) ∧ tqD (T (i + 1 + k)) ≤ 2147483647) (hjn : j ≤ 1000 ∧ n ≤ 1000) (hjn2 : n ≤ j) (hav : tqD (T (i + 1 + k)) = 47) {H : mj_H} (hH : h.set 16 (mcC (t : Int) ((dq : Nat) : Int) ca ou wk 0 pl nw vx vy .null lv lf rt) = H) : pgN xt d 160 [.ref 16, .ref fr] h (fun h' => h' = H) := by
  refine x_enter pm_X1_advance (L0 := [(0, .ref 16), (1, .ref fr)]) rfl (Nat.le_of_ble_eq_true rfl) (by omega) ?_
  refine me1 (pc' := 1) (L' := [(0, .ref 16), (1, .ref fr)]) (S' := [.ref fr]) dm_X1_advance_0 rfl rfl rfl rfl ?_
  refine me3 (pc' := 4) (S' := [.ref p]) dm_X1_advance_1 (g_get (v := .ref p) hfr rfl rfl (by omega)) rfl rfl rfl ?_
  refine me1 (pc' := 5) (L' := [(2, .ref p), (0, .ref 16), (1, .ref fr)]) (S' := []) dm_X1_advance_4 rfl rfl rfl rfl ?_
  refine me1 (pc' := 6) (L' := [(2, .ref p), (0, .ref 16), (1, .ref fr)]) (S' := [.ref p]) dm_X1_advance_5 rfl rfl rfl rfl ?_
  refine me1 (pc' := 7) (L' := [(2, .ref p), (0, .ref 16), (1, .ref fr)]) (S' := [.ref fr, .ref p]) dm_X1_advance_6 rfl rfl rfl rfl ?_
  refine me3 (pc' := 10) (S' := [ii ((k + 1 : Nat) : Int), .ref p]) dm_X1_advance_7 (g_get (v := ii ((k + 1 : Nat) : Int)) hfr rfl rfl (by omega)) rfl rfl rfl ?_
  refine x_cp (pc' := 13) (v := ii (tqD (T (i + 1 + k)))) (rest := []) dm_X1_advance_10 rfl (g_inv (As := [ii ((k + 1 : Nat) : Int)]) (S := []) hp rfl rfl rfl (by omega)) rfl rfl rfl (m_adverbAt (by omega) hK hp (by omega) hkA) ?_
  refine me1 (pc' := 14) (L' := [(3, ii (tqD (T (i + 1 + k)))), (2, .ref p), (0, .ref 16), (1, .ref fr)]) (S' := []) dm_X1_advance_13 rfl rfl rfl rfl ?_
  refine me1 (pc' := 15) (L' := [(3, ii (tqD (T (i + 1 + k)))), (2, .ref p), (0, .ref 16), (1, .ref fr)]) (S' := [.ref fr]) dm_X1_advance_14 rfl rfl rfl rfl ?_
  refine me3 (pc' := 18) (S' := [ii ((j : Nat) : Int)]) dm_X1_advance_15 (g_get (v := ii ((j : Nat) : Int)) hfr rfl rfl (by omega)) rfl rfl rfl ?_
  refine me1 (pc' := 19) (L' := [(3, ii (tqD (T (i + 1 + k)))), (2, .ref p), (0, .ref 16), (1, .ref fr)]) (S' := [.ref fr, ii ((j : Nat) : Int)]) dm_X1_advance_18 rfl rfl rfl rfl ?_
  refine me3 (pc' := 22) (S' := [ii ((n : Nat) : Int), ii ((j : Nat) : Int)]) dm_X1_advance_19 (g_get (v := ii ((n : Nat) : Int)) hfr rfl rfl (by omega)) rfl rfl rfl ?_
  refine y_2lt (a := ((j : Nat) : Int)) (b := ((n : Nat) : Int)) (t := 61) (pc' := 25) dm_X1_advance_22 rfl rfl (by omega) (fun hb1 => ?_) (fun hb1 => ?_)
  · exfalso; omega
  · refine me1 (pc' := 26) (L' := [(3, ii (tqD (T (i + 1 + k)))), (2, .ref p), (0, .ref 16), (1, .ref fr)]) (S' := [.ref 16]) dm_X1_advance_25 rfl rfl rfl rfl ?_
    refine me0 (pc' := 27) (S' := [.ref 16, .ref 16]) dm_X1_advance_26 rfl rfl rfl rfl ?_
    refine me3 (pc' := 30) (S' := [ii ((dq + 1 : Nat) : Int), .ref 16]) dm_X1_advance_27 (g_get (v := ii ((dq + 1 : Nat) : Int)) h16 rfl rfl (by decide)) rfl rfl rfl ?_
    refine me0 (pc' := 31) (S' := [ii 1, ii ((dq + 1 : Nat) : Int), .ref 16]) dm_X1_advance_30 rfl rfl rfl rfl ?_
    refine y_isub (a := ((dq + 1 : Nat) : Int)) (b := 1) dm_X1_advance_31 (pc' := 32) rfl ?_
    refine pg_st (S' := [ii ((dq : Nat) : Int), .ref 16]) (congrArg (fun z => ii z :: [.ref 16]) (by omega)) ?_
    refine me3 (pc' := 35) (S' := []) (h1 := (h).set 16 (cO 1 [.ref 4, .ref 17, .ref 26, .ref 32, ii (t : Int), .ref 33, ii ((dq : Nat) : Int), ii ca, ii ou, ii wk, ii 0, ii pl, nw, vx, vy, .null, ii lv, lf, rt])) dm_X1_advance_32 (g_put (fs' := [.ref 4, .ref 17, .ref 26, .ref 32, ii (t : Int), .ref 33, ii ((dq : Nat) : Int), ii ca, ii ou, ii wk, ii 0, ii pl, nw, vx, vy, .null, ii lv, lf, rt]) h16 rfl rfl rfl (by simp) rfl (by decide) (fun z => by cases z) (by decide)) rfl rfl rfl ?_
    refine me1 (pc' := 36) (L' := [(3, ii (tqD (T (i + 1 + k)))), (2, .ref p), (0, .ref 16), (1, .ref fr)]) (S' := [ii (tqD (T (i + 1 + k)))]) dm_X1_advance_35 rfl rfl rfl rfl ?_
    refine me0 (pc' := 38) (S' := [ii 47, ii (tqD (T (i + 1 + k)))]) dm_X1_advance_36 rfl rfl rfl rfl ?_
    refine y_2eq (a := tqD (T (i + 1 + k))) (b := 47) (t := 60) (pc' := 41) dm_X1_advance_38 rfl rfl (by omega) (fun hb2 => ?_) (fun hb2 => ?_)
    · refine y_ret (r := none) dm_X1_advance_60 rfl rfl rfl ?_
      exact ⟨rfl, hH⟩
    · exfalso; omega
theorem dm_X1_advance_41 : mj_dec prog_3_method_21_code 41 = some (.aload_n 0, 1) := by decide +kernel
theorem dm_X1_advance_42 : mj_dec prog_3_method_21_code 42 = some (.aload_n 2, 1) := by decide +kernel
theorem dm_X1_advance_43 : mj_dec prog_3_method_21_code 43 = some (.aload_n 1, 1) := by decide +kernel
theorem dm_X1_advance_44 : mj_dec prog_3_method_21_code 44 = some (.getfield 237, 3) := by decide +kernel
theorem dm_X1_advance_47 : mj_dec prog_3_method_21_code 47 = some (.aload_n 0, 1) := by decide +kernel
theorem dm_X1_advance_48 : mj_dec prog_3_method_21_code 48 = some (.getfield 53, 3) := by decide +kernel
theorem dm_X1_advance_51 : mj_dec prog_3_method_21_code 51 = some (.aload_n 1, 1) := by decide +kernel
theorem dm_X1_advance_52 : mj_dec prog_3_method_21_code 52 = some (.getfield 237, 3) := by decide +kernel
theorem dm_X1_advance_55 : mj_dec prog_3_method_21_code 55 = some (.isub, 1) := by decide +kernel
theorem dm_X1_advance_56 : mj_dec prog_3_method_21_code 56 = some (.iconst 1, 1) := by decide +kernel
theorem dm_X1_advance_57 : mj_dec prog_3_method_21_code 57 = some (.invokevirtual 155, 3) := by decide +kernel
theorem m_avG {xt : mj_X} {f1 : Nat → Value} {d t e dq qw fr p i k mk ln j n b : Nat} {T : Nat → Tok} {A : Nat → Prop} {h : mj_H} {w : VV} {sf : Nat → Option Nat} {dd ca ou wk pl lv : Int} {nx fx nw vx vy lf rt : Value} (hx1 : xt 1 = some (.long, 0, f1)) (hd : 6 ≤ d) (hl : 127 ≤ h.length) (hA : okA A h) (hK : TOKS T mk ln) (h16 : h[16]? = some (mcC (t : Int) ((dq + 1 : Nat) : Int) ca ou wk 0 pl nw vx vy .null lv lf rt)) (h32 : h[32]? = some (cA 4 8192 sf)) (hfr2 : 34 ≤ fr ∧ fr ≤ 97) (hfr : h[fr]? = some (cO 0 [ii ((k + 1 : Nat) : Int), .ref p, fx, .ref qw, ii ((j : Nat) : Int), ii ((n : Nat) : Int), ii ((b : Nat) : Int)])) (hp : h[p]? = some (doC T i dd nx)) (hp2 : 127 ≤ p) (hkA : k < avM T i) (had : -2147483648 ≤ tqD (T (i + 1 + k)) ∧ tqD (T (i + 1 + k)) ≤ 2147483647) (hjn : j ≤ 1000 ∧ n ≤ 1000) (hjn2 : n ≤ j) (hav : tqD (T (i + 1 + k)) ≠ 47) {Q : mj_H → Prop} (hcall : pgN xt (d - 1) 161 [.ref 16, .ref p, ii ((b : Nat) : Int), ii ((t : Int) - ((b : Nat) : Int)), ii 1] (h.set 16 (mcC (t : Int) ((dq : Nat) : Int) ca ou wk 0 pl nw vx vy .null lv lf rt)) Q) : pgN xt d 160 [.ref 16, .ref fr] h Q := by
  refine x_enter pm_X1_advance (L0 := [(0, .ref 16), (1, .ref fr)]) rfl (Nat.le_of_ble_eq_true rfl) (by omega) ?_
  refine me1 (pc' := 1) (L' := [(0, .ref 16), (1, .ref fr)]) (S' := [.ref fr]) dm_X1_advance_0 rfl rfl rfl rfl ?_
  refine me3 (pc' := 4) (S' := [.ref p]) dm_X1_advance_1 (g_get (v := .ref p) hfr rfl rfl (by omega)) rfl rfl rfl ?_
  refine me1 (pc' := 5) (L' := [(2, .ref p), (0, .ref 16), (1, .ref fr)]) (S' := []) dm_X1_advance_4 rfl rfl rfl rfl ?_
  refine me1 (pc' := 6) (L' := [(2, .ref p), (0, .ref 16), (1, .ref fr)]) (S' := [.ref p]) dm_X1_advance_5 rfl rfl rfl rfl ?_
  refine me1 (pc' := 7) (L' := [(2, .ref p), (0, .ref 16), (1, .ref fr)]) (S' := [.ref fr, .ref p]) dm_X1_advance_6 rfl rfl rfl rfl ?_
  refine me3 (pc' := 10) (S' := [ii ((k + 1 : Nat) : Int), .ref p]) dm_X1_advance_7 (g_get (v := ii ((k + 1 : Nat) : Int)) hfr rfl rfl (by omega)) rfl rfl rfl ?_
  refine x_cp (pc' := 13) (v := ii (tqD (T (i + 1 + k)))) (rest := []) dm_X1_advance_10 rfl (g_inv (As := [ii ((k + 1 : Nat) : Int)]) (S := []) hp rfl rfl rfl (by omega)) rfl rfl rfl (m_adverbAt (by omega) hK hp (by omega) hkA) ?_
  refine me1 (pc' := 14) (L' := [(3, ii (tqD (T (i + 1 + k)))), (2, .ref p), (0, .ref 16), (1, .ref fr)]) (S' := []) dm_X1_advance_13 rfl rfl rfl rfl ?_
  refine me1 (pc' := 15) (L' := [(3, ii (tqD (T (i + 1 + k)))), (2, .ref p), (0, .ref 16), (1, .ref fr)]) (S' := [.ref fr]) dm_X1_advance_14 rfl rfl rfl rfl ?_
  refine me3 (pc' := 18) (S' := [ii ((j : Nat) : Int)]) dm_X1_advance_15 (g_get (v := ii ((j : Nat) : Int)) hfr rfl rfl (by omega)) rfl rfl rfl ?_
  refine me1 (pc' := 19) (L' := [(3, ii (tqD (T (i + 1 + k)))), (2, .ref p), (0, .ref 16), (1, .ref fr)]) (S' := [.ref fr, ii ((j : Nat) : Int)]) dm_X1_advance_18 rfl rfl rfl rfl ?_
  refine me3 (pc' := 22) (S' := [ii ((n : Nat) : Int), ii ((j : Nat) : Int)]) dm_X1_advance_19 (g_get (v := ii ((n : Nat) : Int)) hfr rfl rfl (by omega)) rfl rfl rfl ?_
  refine y_2lt (a := ((j : Nat) : Int)) (b := ((n : Nat) : Int)) (t := 61) (pc' := 25) dm_X1_advance_22 rfl rfl (by omega) (fun hb1 => ?_) (fun hb1 => ?_)
  · exfalso; omega
  · refine me1 (pc' := 26) (L' := [(3, ii (tqD (T (i + 1 + k)))), (2, .ref p), (0, .ref 16), (1, .ref fr)]) (S' := [.ref 16]) dm_X1_advance_25 rfl rfl rfl rfl ?_
    refine me0 (pc' := 27) (S' := [.ref 16, .ref 16]) dm_X1_advance_26 rfl rfl rfl rfl ?_
    refine me3 (pc' := 30) (S' := [ii ((dq + 1 : Nat) : Int), .ref 16]) dm_X1_advance_27 (g_get (v := ii ((dq + 1 : Nat) : Int)) h16 rfl rfl (by decide)) rfl rfl rfl ?_
    refine me0 (pc' := 31) (S' := [ii 1, ii ((dq + 1 : Nat) : Int), .ref 16]) dm_X1_advance_30 rfl rfl rfl rfl ?_
    refine y_isub (a := ((dq + 1 : Nat) : Int)) (b := 1) dm_X1_advance_31 (pc' := 32) rfl ?_
    refine pg_st (S' := [ii ((dq : Nat) : Int), .ref 16]) (congrArg (fun z => ii z :: [.ref 16]) (by omega)) ?_
    refine me3 (pc' := 35) (S' := []) (h1 := (h).set 16 (cO 1 [.ref 4, .ref 17, .ref 26, .ref 32, ii (t : Int), .ref 33, ii ((dq : Nat) : Int), ii ca, ii ou, ii wk, ii 0, ii pl, nw, vx, vy, .null, ii lv, lf, rt])) dm_X1_advance_32 (g_put (fs' := [.ref 4, .ref 17, .ref 26, .ref 32, ii (t : Int), .ref 33, ii ((dq : Nat) : Int), ii ca, ii ou, ii wk, ii 0, ii pl, nw, vx, vy, .null, ii lv, lf, rt]) h16 rfl rfl rfl (by simp) rfl (by decide) (fun z => by cases z) (by decide)) rfl rfl rfl ?_
    refine me1 (pc' := 36) (L' := [(3, ii (tqD (T (i + 1 + k)))), (2, .ref p), (0, .ref 16), (1, .ref fr)]) (S' := [ii (tqD (T (i + 1 + k)))]) dm_X1_advance_35 rfl rfl rfl rfl ?_
    refine me0 (pc' := 38) (S' := [ii 47, ii (tqD (T (i + 1 + k)))]) dm_X1_advance_36 rfl rfl rfl rfl ?_
    refine y_2eq (a := tqD (T (i + 1 + k))) (b := 47) (t := 60) (pc' := 41) dm_X1_advance_38 rfl rfl (by omega) (fun hb2 => ?_) (fun hb2 => ?_)
    · exfalso; omega
    · refine me1 (pc' := 42) (L' := [(3, ii (tqD (T (i + 1 + k)))), (2, .ref p), (0, .ref 16), (1, .ref fr)]) (S' := [.ref 16]) dm_X1_advance_41 rfl rfl rfl rfl ?_
      refine me1 (pc' := 43) (L' := [(3, ii (tqD (T (i + 1 + k)))), (2, .ref p), (0, .ref 16), (1, .ref fr)]) (S' := [.ref p, .ref 16]) dm_X1_advance_42 rfl rfl rfl rfl ?_
      refine me1 (pc' := 44) (L' := [(3, ii (tqD (T (i + 1 + k)))), (2, .ref p), (0, .ref 16), (1, .ref fr)]) (S' := [.ref fr, .ref p, .ref 16]) dm_X1_advance_43 rfl rfl rfl rfl ?_
      refine me3 (pc' := 47) (S' := [ii ((b : Nat) : Int), .ref p, .ref 16]) dm_X1_advance_44 (g_get (v := ii ((b : Nat) : Int)) (hl_ne (by omega) hfr) rfl rfl (by omega)) rfl rfl rfl ?_
      refine me1 (pc' := 48) (L' := [(3, ii (tqD (T (i + 1 + k)))), (2, .ref p), (0, .ref 16), (1, .ref fr)]) (S' := [.ref 16, ii ((b : Nat) : Int), .ref p, .ref 16]) dm_X1_advance_47 rfl rfl rfl rfl ?_
      refine me3 (pc' := 51) (S' := [ii (t : Int), ii ((b : Nat) : Int), .ref p, .ref 16]) dm_X1_advance_48 (g_get (v := ii (t : Int)) (hl_set (hl_lt h16)) rfl rfl (by decide)) rfl rfl rfl ?_
      refine me1 (pc' := 52) (L' := [(3, ii (tqD (T (i + 1 + k)))), (2, .ref p), (0, .ref 16), (1, .ref fr)]) (S' := [.ref fr, ii (t : Int), ii ((b : Nat) : Int), .ref p, .ref 16]) dm_X1_advance_51 rfl rfl rfl rfl ?_
      refine me3 (pc' := 55) (S' := [ii ((b : Nat) : Int), ii (t : Int), ii ((b : Nat) : Int), .ref p, .ref 16]) dm_X1_advance_52 (g_get (v := ii ((b : Nat) : Int)) (hl_ne (by omega) hfr) rfl rfl (by omega)) rfl rfl rfl ?_
      refine y_isub (a := (t : Int)) (b := ((b : Nat) : Int)) dm_X1_advance_55 (pc' := 56) rfl ?_
      refine me0 (pc' := 57) (S' := [ii 1, ii ((t : Int) - ((b : Nat) : Int)), ii ((b : Nat) : Int), .ref p, .ref 16]) dm_X1_advance_56 rfl rfl rfl rfl ?_
      refine x_cn (pc' := 60) (rest := []) dm_X1_advance_57 rfl (g_inv (As := [.ref p, ii ((b : Nat) : Int), ii ((t : Int) - ((b : Nat) : Int)), ii 1]) (S := []) (hl_set (hl_lt h16)) rfl rfl rfl (by decide)) rfl rfl rfl (hcall) ?_
      rintro h1 hQ
      refine y_ret (r := none) dm_X1_advance_60 rfl rfl rfl ?_
      exact ⟨rfl, hQ⟩
theorem dm_X1_advance_61 : mj_dec prog_3_method_21_code 61 = some (.aload_n 1, 1) := by decide +kernel
theorem dm_X1_advance_62 : mj_dec prog_3_method_21_code 62 = some (.getfield 240, 3) := by decide +kernel
theorem dm_X1_advance_65 : mj_dec prog_3_method_21_code 65 = some (.istore 4, 2) := by decide +kernel
theorem dm_X1_advance_67 : mj_dec prog_3_method_21_code 67 = some (.aload_n 1, 1) := by decide +kernel
theorem dm_X1_advance_68 : mj_dec prog_3_method_21_code 68 = some (.dup, 1) := by decide +kernel
theorem dm_X1_advance_69 : mj_dec prog_3_method_21_code 69 = some (.getfield 240, 3) := by decide +kernel
theorem dm_X1_advance_72 : mj_dec prog_3_method_21_code 72 = some (.iconst 1, 1) := by decide +kernel
theorem dm_X1_advance_73 : mj_dec prog_3_method_21_code 73 = some (.iadd, 1) := by decide +kernel
theorem dm_X1_advance_74 : mj_dec prog_3_method_21_code 74 = some (.putfield 240, 3) := by decide +kernel
theorem dm_X1_advance_77 : mj_dec prog_3_method_21_code 77 = some (.iload_n 3, 1) := by decide +kernel
theorem dm_X1_advance_78 : mj_dec prog_3_method_21_code 78 = some (.bipush 39, 2) := by decide +kernel
theorem dm_X1_advance_80 : mj_dec prog_3_method_21_code 80 = some (.if_icmp .ne 10, 3) := by decide +kernel
theorem dm_X1_advance_83 : mj_dec prog_3_method_21_code 83 = some (.aload_n 1, 1) := by decide +kernel
theorem dm_X1_advance_84 : mj_dec prog_3_method_21_code 84 = some (.getfield 225, 3) := by decide +kernel
theorem dm_X1_advance_87 : mj_dec prog_3_method_21_code 87 = some (.goto 7, 3) := by decide +kernel
theorem dm_X1_advance_94 : mj_dec prog_3_method_21_code 94 = some (.astore 5, 2) := by decide +kernel
theorem dm_X1_advance_96 : mj_dec prog_3_method_21_code 96 = some (.iload_n 3, 1) := by decide +kernel
theorem dm_X1_advance_97 : mj_dec prog_3_method_21_code 97 = some (.bipush 92, 2) := by decide +kernel
theorem dm_X1_advance_99 : mj_dec prog_3_method_21_code 99 = some (.if_icmp .ne 9, 3) := by decide +kernel
theorem dm_X1_advance_108 : mj_dec prog_3_method_21_code 108 = some (.iload_n 3, 1) := by decide +kernel
theorem dm_X1_advance_109 : mj_dec prog_3_method_21_code 109 = some (.bipush 39, 2) := by decide +kernel
theorem dm_X1_advance_111 : mj_dec prog_3_method_21_code 111 = some (.if_icmp .ne 17, 3) := by decide +kernel
theorem dm_X1_advance_114 : mj_dec prog_3_method_21_code 114 = some (.aload 5, 2) := by decide +kernel
theorem dm_X1_advance_116 : mj_dec prog_3_method_21_code 116 = some (.ifnull 12, 3) := by decide +kernel
theorem dm_X1_advance_128 : mj_dec prog_3_method_21_code 128 = some (.aload_n 0, 1) := by decide +kernel
theorem dm_X1_advance_129 : mj_dec prog_3_method_21_code 129 = some (.aload_n 2, 1) := by decide +kernel
theorem dm_X1_advance_130 : mj_dec prog_3_method_21_code 130 = some (.aload_n 1, 1) := by decide +kernel
theorem dm_X1_advance_131 : mj_dec prog_3_method_21_code 131 = some (.getfield 102, 3) := by decide +kernel
theorem dm_X1_advance_134 : mj_dec prog_3_method_21_code 134 = some (.iconst 1, 1) := by decide +kernel
theorem dm_X1_advance_135 : mj_dec prog_3_method_21_code 135 = some (.isub, 1) := by decide +kernel
theorem dm_X1_advance_136 : mj_dec prog_3_method_21_code 136 = some (.aload 5, 2) := by decide +kernel
theorem dm_X1_advance_138 : mj_dec prog_3_method_21_code 138 = some (.aload_n 1, 1) := by decide +kernel
theorem dm_X1_advance_139 : mj_dec prog_3_method_21_code 139 = some (.getfield 226, 3) := by decide +kernel
theorem dm_X1_advance_142 : mj_dec prog_3_method_21_code 142 = some (.iload 4, 2) := by decide +kernel
theorem dm_X1_advance_144 : mj_dec prog_3_method_21_code 144 = some (.invokevirtual 243, 3) := by decide +kernel
theorem dm_X1_advance_147 : mj_dec prog_3_method_21_code 147 = some (.invokevirtual 148, 3) := by decide +kernel
theorem dm_X1_advance_150 : mj_dec prog_3_method_21_code 150 = some (.return_, 1) := by decide +kernel
theorem m_avE0 {xt : mj_X} {f1 : Nat → Value} {d t e dq qw fr p i k mk ln j n b : Nat} {T : Nat → Tok} {A : Nat → Prop} {h : mj_H} {w : VV} {sf : Nat → Option Nat} {dd ca ou wk pl lv : Int} {nx nw vx vy lf rt : Value} (hx1 : xt 1 = some (.long, 0, f1)) (hd : 6 ≤ d) (hl : 127 ≤ h.length) (hA : okA A h) (hK : TOKS T mk ln) (h16 : h[16]? = some (mcC (t : Int) ((dq + 1 : Nat) : Int) ca ou wk 0 pl nw vx vy .null lv lf rt)) (h32 : h[32]? = some (cA 4 8192 sf)) (hfr2 : 34 ≤ fr ∧ fr ≤ 97) (hfr : h[fr]? = some (cO 0 [ii ((k + 1 : Nat) : Int), .ref p, .null, .ref qw, ii ((j : Nat) : Int), ii ((n : Nat) : Int), ii ((b : Nat) : Int)])) (hp : h[p]? = some (doC T i dd nx)) (hp2 : 127 ≤ p) (hkA : k < avM T i) (had : -2147483648 ≤ tqD (T (i + 1 + k)) ∧ tqD (T (i + 1 + k)) ≤ 2147483647) (hjn : j ≤ 1000 ∧ n ≤ 1000) (hjn2 : j < n) (hav : tqD (T (i + 1 + k)) = 39) (hw : cv A h (e + 1) qw w) (hiw : vk w ≤ 1 ∨ j < vm w) : pgN xt d 160 [.ref 16, .ref fr] h (fun h' => ∃ q2 : Nat, FX (fun y => y = 16 ∨ y = 32 ∨ y = fr) 1 9 h h' ∧ h'[16]? = some (mcC (t : Int) ((dq + 1 : Nat) : Int) ca ou wk 0 pl nw vx vy (.ref p) ((k : Nat) : Int) .null (.ref q2)) ∧ h'[32]? = some (cA 4 8192 sf) ∧ h'[fr]? = some (cO 0 [ii ((k + 1 : Nat) : Int), .ref p, .null, .ref qw, ii ((j + 1 : Nat) : Int), ii ((n : Nat) : Int), ii ((b : Nat) : Int)]) ∧ cv (newA A h h') h' (e + 1) q2 (vit w j)) := by
  have hz8 := hw
  obtain ⟨hw2, ⟨hq2, hqA2⟩, hsz2, hlv2, row2, fr2, vals2, hwq, -, -, -, -⟩ := id hw
  have hqw : qw = 25 ∨ qw = 101 ∨ 127 ≤ qw := (hA qw hqA2).2
  have hwm := vw1_m hw2
  refine x_enter pm_X1_advance (L0 := [(0, .ref 16), (1, .ref fr)]) rfl (Nat.le_of_ble_eq_true rfl) (by omega) ?_
  refine me1 (pc' := 1) (L' := [(0, .ref 16), (1, .ref fr)]) (S' := [.ref fr]) dm_X1_advance_0 rfl rfl rfl rfl ?_
  refine me3 (pc' := 4) (S' := [.ref p]) dm_X1_advance_1 (g_get (v := .ref p) hfr rfl rfl (by omega)) rfl rfl rfl ?_
  refine me1 (pc' := 5) (L' := [(2, .ref p), (0, .ref 16), (1, .ref fr)]) (S' := []) dm_X1_advance_4 rfl rfl rfl rfl ?_
  refine me1 (pc' := 6) (L' := [(2, .ref p), (0, .ref 16), (1, .ref fr)]) (S' := [.ref p]) dm_X1_advance_5 rfl rfl rfl rfl ?_
  refine me1 (pc' := 7) (L' := [(2, .ref p), (0, .ref 16), (1, .ref fr)]) (S' := [.ref fr, .ref p]) dm_X1_advance_6 rfl rfl rfl rfl ?_
  refine me3 (pc' := 10) (S' := [ii ((k + 1 : Nat) : Int), .ref p]) dm_X1_advance_7 (g_get (v := ii ((k + 1 : Nat) : Int)) hfr rfl rfl (by omega)) rfl rfl rfl ?_
  refine x_cp (pc' := 13) (v := ii (tqD (T (i + 1 + k)))) (rest := []) dm_X1_advance_10 rfl (g_inv (As := [ii ((k + 1 : Nat) : Int)]) (S := []) hp rfl rfl rfl (by omega)) rfl rfl rfl (m_adverbAt (by omega) hK hp (by omega) hkA) ?_
  refine me1 (pc' := 14) (L' := [(3, ii (tqD (T (i + 1 + k)))), (2, .ref p), (0, .ref 16), (1, .ref fr)]) (S' := []) dm_X1_advance_13 rfl rfl rfl rfl ?_
  refine me1 (pc' := 15) (L' := [(3, ii (tqD (T (i + 1 + k)))), (2, .ref p), (0, .ref 16), (1, .ref fr)]) (S' := [.ref fr]) dm_X1_advance_14 rfl rfl rfl rfl ?_
  refine me3 (pc' := 18) (S' := [ii ((j : Nat) : Int)]) dm_X1_advance_15 (g_get (v := ii ((j : Nat) : Int)) hfr rfl rfl (by omega)) rfl rfl rfl ?_
  refine me1 (pc' := 19) (L' := [(3, ii (tqD (T (i + 1 + k)))), (2, .ref p), (0, .ref 16), (1, .ref fr)]) (S' := [.ref fr, ii ((j : Nat) : Int)]) dm_X1_advance_18 rfl rfl rfl rfl ?_
  refine me3 (pc' := 22) (S' := [ii ((n : Nat) : Int), ii ((j : Nat) : Int)]) dm_X1_advance_19 (g_get (v := ii ((n : Nat) : Int)) hfr rfl rfl (by omega)) rfl rfl rfl ?_
  refine y_2lt (a := ((j : Nat) : Int)) (b := ((n : Nat) : Int)) (t := 61) (pc' := 25) dm_X1_advance_22 rfl rfl (by omega) (fun hb1 => ?_) (fun hb1 => ?_)
  · refine me1 (pc' := 62) (L' := [(3, ii (tqD (T (i + 1 + k)))), (2, .ref p), (0, .ref 16), (1, .ref fr)]) (S' := [.ref fr]) dm_X1_advance_61 rfl rfl rfl rfl ?_
    refine me3 (pc' := 65) (S' := [ii ((j : Nat) : Int)]) dm_X1_advance_62 (g_get (v := ii ((j : Nat) : Int)) hfr rfl rfl (by omega)) rfl rfl rfl ?_
    refine me1 (pc' := 67) (L' := [(4, ii ((j : Nat) : Int)), (3, ii (tqD (T (i + 1 + k)))), (2, .ref p), (0, .ref 16), (1, .ref fr)]) (S' := []) dm_X1_advance_65 rfl rfl rfl rfl ?_
    refine me1 (pc' := 68) (L' := [(4, ii ((j : Nat) : Int)), (3, ii (tqD (T (i + 1 + k)))), (2, .ref p), (0, .ref 16), (1, .ref fr)]) (S' := [.ref fr]) dm_X1_advance_67 rfl rfl rfl rfl ?_
    refine me0 (pc' := 69) (S' := [.ref fr, .ref fr]) dm_X1_advance_68 rfl rfl rfl rfl ?_
    refine me3 (pc' := 72) (S' := [ii ((j : Nat) : Int), .ref fr]) dm_X1_advance_69 (g_get (v := ii ((j : Nat) : Int)) hfr rfl rfl (by omega)) rfl rfl rfl ?_
    refine me0 (pc' := 73) (S' := [ii 1, ii ((j : Nat) : Int), .ref fr]) dm_X1_advance_72 rfl rfl rfl rfl ?_
    refine y_iadd (a := ((j : Nat) : Int)) (b := 1) dm_X1_advance_73 (pc' := 74) rfl ?_
    refine pg_st (S' := [ii ((j + 1 : Nat) : Int), .ref fr]) (congrArg (fun z => ii z :: [.ref fr]) (by push_cast; rfl)) ?_
    refine me3 (pc' := 77) (S' := []) (h1 := (h).set fr (cO 0 [ii ((k + 1 : Nat) : Int), .ref p, .null, .ref qw, ii ((j + 1 : Nat) : Int), ii ((n : Nat) : Int), ii ((b : Nat) : Int)])) dm_X1_advance_74 (g_put (fs' := [ii ((k + 1 : Nat) : Int), .ref p, .null, .ref qw, ii ((j + 1 : Nat) : Int), ii ((n : Nat) : Int), ii ((b : Nat) : Int)]) hfr rfl rfl rfl (by simp) rfl (by decide) (fun z => by cases z) (by omega)) rfl rfl rfl ?_
    refine me1 (pc' := 78) (L' := [(4, ii ((j : Nat) : Int)), (3, ii (tqD (T (i + 1 + k)))), (2, .ref p), (0, .ref 16), (1, .ref fr)]) (S' := [ii (tqD (T (i + 1 + k)))]) dm_X1_advance_77 rfl rfl rfl rfl ?_
    refine me0 (pc' := 80) (S' := [ii 39, ii (tqD (T (i + 1 + k)))]) dm_X1_advance_78 rfl rfl rfl rfl ?_
    refine y_2ne (a := tqD (T (i + 1 + k))) (b := 39) (t := 90) (pc' := 83) dm_X1_advance_80 rfl rfl (by omega) (fun hb2 => ?_) (fun hb2 => ?_)
    · exfalso; omega
    · refine me1 (pc' := 84) (L' := [(4, ii ((j : Nat) : Int)), (3, ii (tqD (T (i + 1 + k)))), (2, .ref p), (0, .ref 16), (1, .ref fr)]) (S' := [.ref fr]) dm_X1_advance_83 rfl rfl rfl rfl ?_
      refine me3 (pc' := 87) (S' := [.null]) dm_X1_advance_84 (g_get (v := .null) (hl_set (hl_lt hfr)) rfl rfl (by omega)) rfl rfl rfl ?_
      refine me2 (pc' := 94) (S' := [.null]) dm_X1_advance_87 rfl rfl rfl ?_
      refine me1 (pc' := 96) (L' := [(5, .null), (4, ii ((j : Nat) : Int)), (3, ii (tqD (T (i + 1 + k)))), (2, .ref p), (0, .ref 16), (1, .ref fr)]) (S' := []) dm_X1_advance_94 rfl rfl rfl rfl ?_
      refine me1 (pc' := 97) (L' := [(5, .null), (4, ii ((j : Nat) : Int)), (3, ii (tqD (T (i + 1 + k)))), (2, .ref p), (0, .ref 16), (1, .ref fr)]) (S' := [ii (tqD (T (i + 1 + k)))]) dm_X1_advance_96 rfl rfl rfl rfl ?_
      refine me0 (pc' := 99) (S' := [ii 92, ii (tqD (T (i + 1 + k)))]) dm_X1_advance_97 rfl rfl rfl rfl ?_
      refine y_2ne (a := tqD (T (i + 1 + k))) (b := 92) (t := 108) (pc' := 102) dm_X1_advance_99 rfl rfl (by omega) (fun hb3 => ?_) (fun hb3 => ?_)
      · refine me1 (pc' := 109) (L' := [(5, .null), (4, ii ((j : Nat) : Int)), (3, ii (tqD (T (i + 1 + k)))), (2, .ref p), (0, .ref 16), (1, .ref fr)]) (S' := [ii (tqD (T (i + 1 + k)))]) dm_X1_advance_108 rfl rfl rfl rfl ?_
        refine me0 (pc' := 111) (S' := [ii 39, ii (tqD (T (i + 1 + k)))]) dm_X1_advance_109 rfl rfl rfl rfl ?_
        refine y_2ne (a := tqD (T (i + 1 + k))) (b := 39) (t := 128) (pc' := 114) dm_X1_advance_111 rfl rfl (by omega) (fun hb4 => ?_) (fun hb4 => ?_)
        · exfalso; omega
        · refine me1 (pc' := 116) (L' := [(5, .null), (4, ii ((j : Nat) : Int)), (3, ii (tqD (T (i + 1 + k)))), (2, .ref p), (0, .ref 16), (1, .ref fr)]) (S' := [.null]) dm_X1_advance_114 rfl rfl rfl rfl ?_
          refine me2 (pc' := 128) (S' := []) dm_X1_advance_116 rfl rfl rfl ?_
          refine me1 (pc' := 129) (L' := [(5, .null), (4, ii ((j : Nat) : Int)), (3, ii (tqD (T (i + 1 + k)))), (2, .ref p), (0, .ref 16), (1, .ref fr)]) (S' := [.ref 16]) dm_X1_advance_128 rfl rfl rfl rfl ?_
          refine me1 (pc' := 130) (L' := [(5, .null), (4, ii ((j : Nat) : Int)), (3, ii (tqD (T (i + 1 + k)))), (2, .ref p), (0, .ref 16), (1, .ref fr)]) (S' := [.ref p, .ref 16]) dm_X1_advance_129 rfl rfl rfl rfl ?_
          refine me1 (pc' := 131) (L' := [(5, .null), (4, ii ((j : Nat) : Int)), (3, ii (tqD (T (i + 1 + k)))), (2, .ref p), (0, .ref 16), (1, .ref fr)]) (S' := [.ref fr, .ref p, .ref 16]) dm_X1_advance_130 rfl rfl rfl rfl ?_
          refine me3 (pc' := 134) (S' := [ii ((k + 1 : Nat) : Int), .ref p, .ref 16]) dm_X1_advance_131 (g_get (v := ii ((k + 1 : Nat) : Int)) (hl_set (hl_lt hfr)) rfl rfl (by omega)) rfl rfl rfl ?_
          refine me0 (pc' := 135) (S' := [ii 1, ii ((k + 1 : Nat) : Int), .ref p, .ref 16]) dm_X1_advance_134 rfl rfl rfl rfl ?_
          refine y_isub (a := ((k + 1 : Nat) : Int)) (b := 1) dm_X1_advance_135 (pc' := 136) rfl ?_
          refine pg_st (S' := [ii ((k : Nat) : Int), .ref p, .ref 16]) (congrArg (fun z => ii z :: [.ref p, .ref 16]) (by omega)) ?_
          refine me1 (pc' := 138) (L' := [(5, .null), (4, ii ((j : Nat) : Int)), (3, ii (tqD (T (i + 1 + k)))), (2, .ref p), (0, .ref 16), (1, .ref fr)]) (S' := [.null, ii ((k : Nat) : Int), .ref p, .ref 16]) dm_X1_advance_136 rfl rfl rfl rfl ?_
          refine me1 (pc' := 139) (L' := [(5, .null), (4, ii ((j : Nat) : Int)), (3, ii (tqD (T (i + 1 + k)))), (2, .ref p), (0, .ref 16), (1, .ref fr)]) (S' := [.ref fr, .null, ii ((k : Nat) : Int), .ref p, .ref 16]) dm_X1_advance_138 rfl rfl rfl rfl ?_
          refine me3 (pc' := 142) (S' := [.ref qw, .null, ii ((k : Nat) : Int), .ref p, .ref 16]) dm_X1_advance_139 (g_get (v := .ref qw) (hl_set (hl_lt hfr)) rfl rfl (by omega)) rfl rfl rfl ?_
          refine me1 (pc' := 144) (L' := [(5, .null), (4, ii ((j : Nat) : Int)), (3, ii (tqD (T (i + 1 + k)))), (2, .ref p), (0, .ref 16), (1, .ref fr)]) (S' := [ii ((j : Nat) : Int), .ref qw, .null, ii ((k : Nat) : Int), .ref p, .ref 16]) dm_X1_advance_142 rfl rfl rfl rfl ?_
          refine x_cv (pc' := 147) (rest := [.null, ii ((k : Nat) : Int), .ref p, .ref 16]) dm_X1_advance_144 rfl (g_inv (As := [ii ((j : Nat) : Int)]) (S := [.null, ii ((k : Nat) : Int), .ref p, .ref 16]) (hl_ne (by omega) hwq) rfl rfl rfl (by omega)) rfl rfl rfl (c_itemAt (A := A) (e := e) (i := j) hx1 (by omega) (by simp only [List.length_set]; omega) (cv_set (fun z => by have := hA _ z; omega) hz8) hiw (by omega)) ?_
          rintro x2 g2 hres2
          obtain ⟨q2, rfl⟩ := vres_ref hres2
          have fx2 := FX_vres (FX_set (c := cO 0 [ii ((k + 1 : Nat) : Int), .ref p, .null, .ref qw, ii ((j : Nat) : Int), ii ((n : Nat) : Int), ii ((b : Nat) : Int)]) (c' := cO 0 [ii ((k + 1 : Nat) : Int), .ref p, .null, .ref qw, ii ((j + 1 : Nat) : Int), ii ((n : Nat) : Int), ii ((b : Nat) : Int)]) (Or.inr (Or.inr rfl)) hfr rfl (FX_rf (fun y => y = 16 ∨ y = 32 ∨ y = fr) h)) hres2
          have k216 := vres_get hres2 (hl_ne (by omega) h16)
          have k232 := vres_get hres2 (hl_ne (by omega) h32)
          have k2fr := vres_get hres2 (hl_set (hl_lt hfr))
          have k2p := vres_get hres2 (hl_ne (by omega) hp)
          have k2qw := vres_get hres2 (hl_ne (by omega) hwq)
          refine x_cn (pc' := 150) (rest := []) dm_X1_advance_147 rfl (g_inv (As := [.ref p, ii ((k : Nat) : Int), .null, .ref q2]) (S := []) k216 rfl rfl rfl (by decide)) rfl rfl rfl (m_pend (bl := none) (bw := (some q2)) (by omega) k216 rfl) ?_
          rintro _ rfl
          refine y_ret (r := none) dm_X1_advance_150 rfl rfl rfl ?_
          have bq := vres_B hres2 (h0 := h) (A0 := A) (fun x hx => Or.inl hx) (by simp only [List.length_set]; omega)
          refine ⟨rfl, q2, FX_up (FX_set (c := cO 1 [.ref 4, .ref 17, .ref 26, .ref 32, ii (t : Int), .ref 33, ii ((dq + 1 : Nat) : Int), ii ca, ii ou, ii wk, ii 0, ii pl, nw, vx, vy, .null, ii lv, lf, rt]) (c' := cO 1 [.ref 4, .ref 17, .ref 26, .ref 32, ii (t : Int), .ref 33, ii ((dq + 1 : Nat) : Int), ii ca, ii ou, ii wk, ii 0, ii pl, nw, vx, vy, .ref p, ii ((k : Nat) : Int), .null, .ref q2]) (Or.inl rfl) k216 rfl fx2) (by omega) (by omega), (hl_set (hl_lt k216)), (hl_ne (by decide) k232), (hl_ne (by omega) k2fr), cv_to hA hl bq.2.2 bq.2.1⟩
      · exfalso; omega
  · exfalso; omega
theorem dm_X1_advance_119 : mj_dec prog_3_method_21_code 119 = some (.aload 5, 2) := by decide +kernel
theorem dm_X1_advance_121 : mj_dec prog_3_method_21_code 121 = some (.iload 4, 2) := by decide +kernel
theorem dm_X1_advance_123 : mj_dec prog_3_method_21_code 123 = some (.invokevirtual 243, 3) := by decide +kernel
theorem dm_X1_advance_126 : mj_dec prog_3_method_21_code 126 = some (.astore 5, 2) := by decide +kernel
theorem m_avE1 {xt : mj_X} {f1 : Nat → Value} {d t e dq qw ql fr p i k mk ln j n b : Nat} {T : Nat → Tok} {A : Nat → Prop} {h : mj_H} {v w : VV} {sf : Nat → Option Nat} {dd ca ou wk pl lv : Int} {nx nw vx vy lf rt : Value} (hx1 : xt 1 = some (.long, 0, f1)) (hd : 6 ≤ d) (hl : 127 ≤ h.length) (hA : okA A h) (hK : TOKS T mk ln) (h16 : h[16]? = some (mcC (t : Int) ((dq + 1 : Nat) : Int) ca ou wk 0 pl nw vx vy .null lv lf rt)) (h32 : h[32]? = some (cA 4 8192 sf)) (hfr2 : 34 ≤ fr ∧ fr ≤ 97) (hfr : h[fr]? = some (cO 0 [ii ((k + 1 : Nat) : Int), .ref p, .ref ql, .ref qw, ii ((j : Nat) : Int), ii ((n : Nat) : Int), ii ((b : Nat) : Int)])) (hp : h[p]? = some (doC T i dd nx)) (hp2 : 127 ≤ p) (hkA : k < avM T i) (had : -2147483648 ≤ tqD (T (i + 1 + k)) ∧ tqD (T (i + 1 + k)) ≤ 2147483647) (hjn : j ≤ 1000 ∧ n ≤ 1000) (hjn2 : j < n) (hav : tqD (T (i + 1 + k)) = 39) (hw : cv A h (e + 1) qw w) (hiw : vk w ≤ 1 ∨ j < vm w) (hv : cv A h (e + 1) ql v) (hiv : vk v ≤ 1 ∨ j < vm v) : pgN xt d 160 [.ref 16, .ref fr] h (fun h' => ∃ q1 q2 : Nat, FX (fun y => y = 16 ∨ y = 32 ∨ y = fr) 2 18 h h' ∧ h'[16]? = some (mcC (t : Int) ((dq + 1 : Nat) : Int) ca ou wk 0 pl nw vx vy (.ref p) ((k : Nat) : Int) (.ref q1) (.ref q2)) ∧ h'[32]? = some (cA 4 8192 sf) ∧ h'[fr]? = some (cO 0 [ii ((k + 1 : Nat) : Int), .ref p, .ref ql, .ref qw, ii ((j + 1 : Nat) : Int), ii ((n : Nat) : Int), ii ((b : Nat) : Int)]) ∧ cv (newA A h h') h' (e + 1) q2 (vit w j) ∧ cv (newA A h h') h' (e + 1) q1 (vit v j)) := by
  have hz8 := hw
  obtain ⟨hw2, ⟨hq2, hqA2⟩, hsz2, hlv2, row2, fr2, vals2, hwq, -, -, -, -⟩ := id hw
  have hqw : qw = 25 ∨ qw = 101 ∨ 127 ≤ qw := (hA qw hqA2).2
  have hwm := vw1_m hw2
  have hz7 := hv
  obtain ⟨hw1, ⟨hq1, hqA1⟩, hsz1, hlv1, row1, fr1, vals1, hvq, -, -, -, -⟩ := id hv
  have hql : ql = 25 ∨ ql = 101 ∨ 127 ≤ ql := (hA ql hqA1).2
  have hvm := vw1_m hw1
  refine x_enter pm_X1_advance (L0 := [(0, .ref 16), (1, .ref fr)]) rfl (Nat.le_of_ble_eq_true rfl) (by omega) ?_
  refine me1 (pc' := 1) (L' := [(0, .ref 16), (1, .ref fr)]) (S' := [.ref fr]) dm_X1_advance_0 rfl rfl rfl rfl ?_
  refine me3 (pc' := 4) (S' := [.ref p]) dm_X1_advance_1 (g_get (v := .ref p) hfr rfl rfl (by omega)) rfl rfl rfl ?_
  refine me1 (pc' := 5) (L' := [(2, .ref p), (0, .ref 16), (1, .ref fr)]) (S' := []) dm_X1_advance_4 rfl rfl rfl rfl ?_
  refine me1 (pc' := 6) (L' := [(2, .ref p), (0, .ref 16), (1, .ref fr)]) (S' := [.ref p]) dm_X1_advance_5 rfl rfl rfl rfl ?_
  refine me1 (pc' := 7) (L' := [(2, .ref p), (0, .ref 16), (1, .ref fr)]) (S' := [.ref fr, .ref p]) dm_X1_advance_6 rfl rfl rfl rfl ?_
  refine me3 (pc' := 10) (S' := [ii ((k + 1 : Nat) : Int), .ref p]) dm_X1_advance_7 (g_get (v := ii ((k + 1 : Nat) : Int)) hfr rfl rfl (by omega)) rfl rfl rfl ?_
  refine x_cp (pc' := 13) (v := ii (tqD (T (i + 1 + k)))) (rest := []) dm_X1_advance_10 rfl (g_inv (As := [ii ((k + 1 : Nat) : Int)]) (S := []) hp rfl rfl rfl (by omega)) rfl rfl rfl (m_adverbAt (by omega) hK hp (by omega) hkA) ?_
  refine me1 (pc' := 14) (L' := [(3, ii (tqD (T (i + 1 + k)))), (2, .ref p), (0, .ref 16), (1, .ref fr)]) (S' := []) dm_X1_advance_13 rfl rfl rfl rfl ?_
  refine me1 (pc' := 15) (L' := [(3, ii (tqD (T (i + 1 + k)))), (2, .ref p), (0, .ref 16), (1, .ref fr)]) (S' := [.ref fr]) dm_X1_advance_14 rfl rfl rfl rfl ?_
  refine me3 (pc' := 18) (S' := [ii ((j : Nat) : Int)]) dm_X1_advance_15 (g_get (v := ii ((j : Nat) : Int)) hfr rfl rfl (by omega)) rfl rfl rfl ?_
  refine me1 (pc' := 19) (L' := [(3, ii (tqD (T (i + 1 + k)))), (2, .ref p), (0, .ref 16), (1, .ref fr)]) (S' := [.ref fr, ii ((j : Nat) : Int)]) dm_X1_advance_18 rfl rfl rfl rfl ?_
  refine me3 (pc' := 22) (S' := [ii ((n : Nat) : Int), ii ((j : Nat) : Int)]) dm_X1_advance_19 (g_get (v := ii ((n : Nat) : Int)) hfr rfl rfl (by omega)) rfl rfl rfl ?_
  refine y_2lt (a := ((j : Nat) : Int)) (b := ((n : Nat) : Int)) (t := 61) (pc' := 25) dm_X1_advance_22 rfl rfl (by omega) (fun hb1 => ?_) (fun hb1 => ?_)
  · refine me1 (pc' := 62) (L' := [(3, ii (tqD (T (i + 1 + k)))), (2, .ref p), (0, .ref 16), (1, .ref fr)]) (S' := [.ref fr]) dm_X1_advance_61 rfl rfl rfl rfl ?_
    refine me3 (pc' := 65) (S' := [ii ((j : Nat) : Int)]) dm_X1_advance_62 (g_get (v := ii ((j : Nat) : Int)) hfr rfl rfl (by omega)) rfl rfl rfl ?_
    refine me1 (pc' := 67) (L' := [(4, ii ((j : Nat) : Int)), (3, ii (tqD (T (i + 1 + k)))), (2, .ref p), (0, .ref 16), (1, .ref fr)]) (S' := []) dm_X1_advance_65 rfl rfl rfl rfl ?_
    refine me1 (pc' := 68) (L' := [(4, ii ((j : Nat) : Int)), (3, ii (tqD (T (i + 1 + k)))), (2, .ref p), (0, .ref 16), (1, .ref fr)]) (S' := [.ref fr]) dm_X1_advance_67 rfl rfl rfl rfl ?_
    refine me0 (pc' := 69) (S' := [.ref fr, .ref fr]) dm_X1_advance_68 rfl rfl rfl rfl ?_
    refine me3 (pc' := 72) (S' := [ii ((j : Nat) : Int), .ref fr]) dm_X1_advance_69 (g_get (v := ii ((j : Nat) : Int)) hfr rfl rfl (by omega)) rfl rfl rfl ?_
    refine me0 (pc' := 73) (S' := [ii 1, ii ((j : Nat) : Int), .ref fr]) dm_X1_advance_72 rfl rfl rfl rfl ?_
    refine y_iadd (a := ((j : Nat) : Int)) (b := 1) dm_X1_advance_73 (pc' := 74) rfl ?_
    refine pg_st (S' := [ii ((j + 1 : Nat) : Int), .ref fr]) (congrArg (fun z => ii z :: [.ref fr]) (by push_cast; rfl)) ?_
    refine me3 (pc' := 77) (S' := []) (h1 := (h).set fr (cO 0 [ii ((k + 1 : Nat) : Int), .ref p, .ref ql, .ref qw, ii ((j + 1 : Nat) : Int), ii ((n : Nat) : Int), ii ((b : Nat) : Int)])) dm_X1_advance_74 (g_put (fs' := [ii ((k + 1 : Nat) : Int), .ref p, .ref ql, .ref qw, ii ((j + 1 : Nat) : Int), ii ((n : Nat) : Int), ii ((b : Nat) : Int)]) hfr rfl rfl rfl (by simp) rfl (by decide) (fun z => by cases z) (by omega)) rfl rfl rfl ?_
    refine me1 (pc' := 78) (L' := [(4, ii ((j : Nat) : Int)), (3, ii (tqD (T (i + 1 + k)))), (2, .ref p), (0, .ref 16), (1, .ref fr)]) (S' := [ii (tqD (T (i + 1 + k)))]) dm_X1_advance_77 rfl rfl rfl rfl ?_
    refine me0 (pc' := 80) (S' := [ii 39, ii (tqD (T (i + 1 + k)))]) dm_X1_advance_78 rfl rfl rfl rfl ?_
    refine y_2ne (a := tqD (T (i + 1 + k))) (b := 39) (t := 90) (pc' := 83) dm_X1_advance_80 rfl rfl (by omega) (fun hb2 => ?_) (fun hb2 => ?_)
    · exfalso; omega
    · refine me1 (pc' := 84) (L' := [(4, ii ((j : Nat) : Int)), (3, ii (tqD (T (i + 1 + k)))), (2, .ref p), (0, .ref 16), (1, .ref fr)]) (S' := [.ref fr]) dm_X1_advance_83 rfl rfl rfl rfl ?_
      refine me3 (pc' := 87) (S' := [.ref ql]) dm_X1_advance_84 (g_get (v := .ref ql) (hl_set (hl_lt hfr)) rfl rfl (by omega)) rfl rfl rfl ?_
      refine me2 (pc' := 94) (S' := [.ref ql]) dm_X1_advance_87 rfl rfl rfl ?_
      refine me1 (pc' := 96) (L' := [(5, .ref ql), (4, ii ((j : Nat) : Int)), (3, ii (tqD (T (i + 1 + k)))), (2, .ref p), (0, .ref 16), (1, .ref fr)]) (S' := []) dm_X1_advance_94 rfl rfl rfl rfl ?_
      refine me1 (pc' := 97) (L' := [(5, .ref ql), (4, ii ((j : Nat) : Int)), (3, ii (tqD (T (i + 1 + k)))), (2, .ref p), (0, .ref 16), (1, .ref fr)]) (S' := [ii (tqD (T (i + 1 + k)))]) dm_X1_advance_96 rfl rfl rfl rfl ?_
      refine me0 (pc' := 99) (S' := [ii 92, ii (tqD (T (i + 1 + k)))]) dm_X1_advance_97 rfl rfl rfl rfl ?_
      refine y_2ne (a := tqD (T (i + 1 + k))) (b := 92) (t := 108) (pc' := 102) dm_X1_advance_99 rfl rfl (by omega) (fun hb3 => ?_) (fun hb3 => ?_)
      · refine me1 (pc' := 109) (L' := [(5, .ref ql), (4, ii ((j : Nat) : Int)), (3, ii (tqD (T (i + 1 + k)))), (2, .ref p), (0, .ref 16), (1, .ref fr)]) (S' := [ii (tqD (T (i + 1 + k)))]) dm_X1_advance_108 rfl rfl rfl rfl ?_
        refine me0 (pc' := 111) (S' := [ii 39, ii (tqD (T (i + 1 + k)))]) dm_X1_advance_109 rfl rfl rfl rfl ?_
        refine y_2ne (a := tqD (T (i + 1 + k))) (b := 39) (t := 128) (pc' := 114) dm_X1_advance_111 rfl rfl (by omega) (fun hb4 => ?_) (fun hb4 => ?_)
        · exfalso; omega
        · refine me1 (pc' := 116) (L' := [(5, .ref ql), (4, ii ((j : Nat) : Int)), (3, ii (tqD (T (i + 1 + k)))), (2, .ref p), (0, .ref 16), (1, .ref fr)]) (S' := [.ref ql]) dm_X1_advance_114 rfl rfl rfl rfl ?_
          refine me2 (pc' := 119) (S' := []) dm_X1_advance_116 rfl rfl rfl ?_
          refine me1 (pc' := 121) (L' := [(5, .ref ql), (4, ii ((j : Nat) : Int)), (3, ii (tqD (T (i + 1 + k)))), (2, .ref p), (0, .ref 16), (1, .ref fr)]) (S' := [.ref ql]) dm_X1_advance_119 rfl rfl rfl rfl ?_
          refine me1 (pc' := 123) (L' := [(5, .ref ql), (4, ii ((j : Nat) : Int)), (3, ii (tqD (T (i + 1 + k)))), (2, .ref p), (0, .ref 16), (1, .ref fr)]) (S' := [ii ((j : Nat) : Int), .ref ql]) dm_X1_advance_121 rfl rfl rfl rfl ?_
          refine x_cv (pc' := 126) (rest := []) dm_X1_advance_123 rfl (g_inv (As := [ii ((j : Nat) : Int)]) (S := []) (hl_ne (by omega) hvq) rfl rfl rfl (by omega)) rfl rfl rfl (c_itemAt (A := A) (e := e) (i := j) hx1 (by omega) (by simp only [List.length_set]; omega) (cv_set (fun z => by have := hA _ z; omega) hz7) hiv (by omega)) ?_
          rintro x1 g1 hres1
          obtain ⟨q1, rfl⟩ := vres_ref hres1
          have fx1 := FX_vres (FX_set (c := cO 0 [ii ((k + 1 : Nat) : Int), .ref p, .ref ql, .ref qw, ii ((j : Nat) : Int), ii ((n : Nat) : Int), ii ((b : Nat) : Int)]) (c' := cO 0 [ii ((k + 1 : Nat) : Int), .ref p, .ref ql, .ref qw, ii ((j + 1 : Nat) : Int), ii ((n : Nat) : Int), ii ((b : Nat) : Int)]) (Or.inr (Or.inr rfl)) hfr rfl (FX_rf (fun y => y = 16 ∨ y = 32 ∨ y = fr) h)) hres1
          have k116 := vres_get hres1 (hl_ne (by omega) h16)
          have k132 := vres_get hres1 (hl_ne (by omega) h32)
          have k1fr := vres_get hres1 (hl_set (hl_lt hfr))
          have k1p := vres_get hres1 (hl_ne (by omega) hp)
          have k1qw := vres_get hres1 (hl_ne (by omega) hwq)
          have k1ql := vres_get hres1 (hl_ne (by omega) hvq)
          have hg1l : 127 ≤ g1.length := by have := fx1.1; omega
          refine me1 (pc' := 128) (L' := [(5, .ref q1), (4, ii ((j : Nat) : Int)), (3, ii (tqD (T (i + 1 + k)))), (2, .ref p), (0, .ref 16), (1, .ref fr)]) (S' := []) dm_X1_advance_126 rfl rfl rfl rfl ?_
          refine me1 (pc' := 129) (L' := [(5, .ref q1), (4, ii ((j : Nat) : Int)), (3, ii (tqD (T (i + 1 + k)))), (2, .ref p), (0, .ref 16), (1, .ref fr)]) (S' := [.ref 16]) dm_X1_advance_128 rfl rfl rfl rfl ?_
          refine me1 (pc' := 130) (L' := [(5, .ref q1), (4, ii ((j : Nat) : Int)), (3, ii (tqD (T (i + 1 + k)))), (2, .ref p), (0, .ref 16), (1, .ref fr)]) (S' := [.ref p, .ref 16]) dm_X1_advance_129 rfl rfl rfl rfl ?_
          refine me1 (pc' := 131) (L' := [(5, .ref q1), (4, ii ((j : Nat) : Int)), (3, ii (tqD (T (i + 1 + k)))), (2, .ref p), (0, .ref 16), (1, .ref fr)]) (S' := [.ref fr, .ref p, .ref 16]) dm_X1_advance_130 rfl rfl rfl rfl ?_
          refine me3 (pc' := 134) (S' := [ii ((k + 1 : Nat) : Int), .ref p, .ref 16]) dm_X1_advance_131 (g_get (v := ii ((k + 1 : Nat) : Int)) k1fr rfl rfl (by omega)) rfl rfl rfl ?_
          refine me0 (pc' := 135) (S' := [ii 1, ii ((k + 1 : Nat) : Int), .ref p, .ref 16]) dm_X1_advance_134 rfl rfl rfl rfl ?_
          refine y_isub (a := ((k + 1 : Nat) : Int)) (b := 1) dm_X1_advance_135 (pc' := 136) rfl ?_
          refine pg_st (S' := [ii ((k : Nat) : Int), .ref p, .ref 16]) (congrArg (fun z => ii z :: [.ref p, .ref 16]) (by omega)) ?_
          refine me1 (pc' := 138) (L' := [(5, .ref q1), (4, ii ((j : Nat) : Int)), (3, ii (tqD (T (i + 1 + k)))), (2, .ref p), (0, .ref 16), (1, .ref fr)]) (S' := [.ref q1, ii ((k : Nat) : Int), .ref p, .ref 16]) dm_X1_advance_136 rfl rfl rfl rfl ?_
          refine me1 (pc' := 139) (L' := [(5, .ref q1), (4, ii ((j : Nat) : Int)), (3, ii (tqD (T (i + 1 + k)))), (2, .ref p), (0, .ref 16), (1, .ref fr)]) (S' := [.ref fr, .ref q1, ii ((k : Nat) : Int), .ref p, .ref 16]) dm_X1_advance_138 rfl rfl rfl rfl ?_
          refine me3 (pc' := 142) (S' := [.ref qw, .ref q1, ii ((k : Nat) : Int), .ref p, .ref 16]) dm_X1_advance_139 (g_get (v := .ref qw) k1fr rfl rfl (by omega)) rfl rfl rfl ?_
          refine me1 (pc' := 144) (L' := [(5, .ref q1), (4, ii ((j : Nat) : Int)), (3, ii (tqD (T (i + 1 + k)))), (2, .ref p), (0, .ref 16), (1, .ref fr)]) (S' := [ii ((j : Nat) : Int), .ref qw, .ref q1, ii ((k : Nat) : Int), .ref p, .ref 16]) dm_X1_advance_142 rfl rfl rfl rfl ?_
          refine x_cv (pc' := 147) (rest := [.ref q1, ii ((k : Nat) : Int), .ref p, .ref 16]) dm_X1_advance_144 rfl (g_inv (As := [ii ((j : Nat) : Int)]) (S := [.ref q1, ii ((k : Nat) : Int), .ref p, .ref 16]) k1qw rfl rfl rfl (by omega)) rfl rfl rfl (c_itemAt (A := _) (e := e) (i := j) hx1 (by omega) (by omega) (vres_cvN hres1 (cv_set (fun z => by have := hA _ z; omega) hz8)) hiw (by omega)) ?_
          rintro x2 g2 hres2
          obtain ⟨q2, rfl⟩ := vres_ref hres2
          have fx2 := FX_vres fx1 hres2
          have k216 := vres_get hres2 k116
          have k232 := vres_get hres2 k132
          have k2fr := vres_get hres2 k1fr
          have k2p := vres_get hres2 k1p
          have k2qw := vres_get hres2 k1qw
          have k2ql := vres_get hres2 k1ql
          have bq := vres_B hres1 (h0 := h) (A0 := A) (fun x hx => Or.inl hx) (by simp only [List.length_set]; omega)
          have bq2 := vres_B hres2 (h0 := h) (A0 := A) bq.2.2 (by have := bq.1; simp only [List.length_set] at this; omega)
          refine x_cn (pc' := 150) (rest := []) dm_X1_advance_147 rfl (g_inv (As := [.ref p, ii ((k : Nat) : Int), .ref q1, .ref q2]) (S := []) k216 rfl rfl rfl (by decide)) rfl rfl rfl (m_pend (bl := (some q1)) (bw := (some q2)) (by omega) k216 rfl) ?_
          rintro _ rfl
          refine y_ret (r := none) dm_X1_advance_150 rfl rfl rfl ?_
          refine ⟨rfl, q1, q2, FX_up (FX_set (c := cO 1 [.ref 4, .ref 17, .ref 26, .ref 32, ii (t : Int), .ref 33, ii ((dq + 1 : Nat) : Int), ii ca, ii ou, ii wk, ii 0, ii pl, nw, vx, vy, .null, ii lv, lf, rt]) (c' := cO 1 [.ref 4, .ref 17, .ref 26, .ref 32, ii (t : Int), .ref 33, ii ((dq + 1 : Nat) : Int), ii ca, ii ou, ii wk, ii 0, ii pl, nw, vx, vy, .ref p, ii ((k : Nat) : Int), .ref q1, .ref q2]) (Or.inl rfl) k216 rfl fx2) (by omega) (by omega), (hl_set (hl_lt k216)), (hl_ne (by decide) k232), (hl_ne (by omega) k2fr), cv_to hA hl bq2.2.2 bq2.2.1, ?_⟩
          exact cv_to hA hl bq2.2.2 (vres_cvN hres2 bq.2.1)
      · exfalso; omega
  · exfalso; omega
theorem dm_X1_advance_90 : mj_dec prog_3_method_21_code 90 = some (.aload_n 0, 1) := by decide +kernel
theorem dm_X1_advance_91 : mj_dec prog_3_method_21_code 91 = some (.invokevirtual 113, 3) := by decide +kernel
theorem dm_X1_advance_102 : mj_dec prog_3_method_21_code 102 = some (.aload_n 0, 1) := by decide +kernel
theorem dm_X1_advance_103 : mj_dec prog_3_method_21_code 103 = some (.aload 5, 2) := by decide +kernel
theorem dm_X1_advance_105 : mj_dec prog_3_method_21_code 105 = some (.invokevirtual 138, 3) := by decide +kernel
theorem m_avS {xt : mj_X} {f1 : Nat → Value} {d t e dq qw ql fr p i k mk ln j n b : Nat} {T : Nat → Tok} {A : Nat → Prop} {h : mj_H} {v w : VV} {sf : Nat → Option Nat} {dd ca ou wk pl lv : Int} {nx fx nw vx vy lf rt : Value} (hx1 : xt 1 = some (.long, 0, f1)) (hd : 6 ≤ d) (hl : 127 ≤ h.length) (hA : okA A h) (hK : TOKS T mk ln) (h16 : h[16]? = some (mcC ((t + 1 : Nat) : Int) ((dq + 1 : Nat) : Int) ca ou wk 0 pl nw vx vy .null lv lf rt)) (h32 : h[32]? = some (cA 4 8192 sf)) (hfr2 : 34 ≤ fr ∧ fr ≤ 97) (hfr : h[fr]? = some (cO 0 [ii ((k + 1 : Nat) : Int), .ref p, fx, .ref qw, ii ((j : Nat) : Int), ii ((n : Nat) : Int), ii ((b : Nat) : Int)])) (hp : h[p]? = some (doC T i dd nx)) (hp2 : 127 ≤ p) (hkA : k < avM T i) (had : -2147483648 ≤ tqD (T (i + 1 + k)) ∧ tqD (T (i + 1 + k)) ≤ 2147483647) (hjn : j ≤ 1000 ∧ n ≤ 1000) (hjn2 : j < n) (hav : tqD (T (i + 1 + k)) = 92) (hw : cv A h (e + 1) qw w) (hiw : vk w ≤ 1 ∨ j < vm w) (hv : cv A h (e + 1) ql v) (ht : t < 8192) (hs1 : sf t = some ql) : pgN xt d 160 [.ref 16, .ref fr] h (fun h' => ∃ q2 : Nat, FX (fun y => y = 16 ∨ y = 32 ∨ y = fr) 1 9 h h' ∧ h'[16]? = some (mcC ((t + 1 : Nat) : Int) ((dq + 1 : Nat) : Int) ca ou wk 0 pl nw vx vy (.ref p) ((k : Nat) : Int) (.ref ql) (.ref q2)) ∧ h'[32]? = some (cA 4 8192 (va_up sf t (some ql))) ∧ h'[fr]? = some (cO 0 [ii ((k + 1 : Nat) : Int), .ref p, fx, .ref qw, ii ((j + 1 : Nat) : Int), ii ((n : Nat) : Int), ii ((b : Nat) : Int)]) ∧ cv (newA A h h') h' (e + 1) q2 (vit w j) ∧ cv (newA A h h') h' (e + 1) ql v) := by
  have hz8 := hw
  obtain ⟨hw2, ⟨hq2, hqA2⟩, hsz2, hlv2, row2, fr2, vals2, hwq, -, -, -, -⟩ := id hw
  have hqw : qw = 25 ∨ qw = 101 ∨ 127 ≤ qw := (hA qw hqA2).2
  have hwm := vw1_m hw2
  have hz7 := hv
  obtain ⟨hw1, ⟨hq1, hqA1⟩, hsz1, hlv1, row1, fr1, vals1, hvq, -, -, -, -⟩ := id hv
  have hql : ql = 25 ∨ ql = 101 ∨ 127 ≤ ql := (hA ql hqA1).2
  have hvm := vw1_m hw1
  refine x_enter pm_X1_advance (L0 := [(0, .ref 16), (1, .ref fr)]) rfl (Nat.le_of_ble_eq_true rfl) (by omega) ?_
  refine me1 (pc' := 1) (L' := [(0, .ref 16), (1, .ref fr)]) (S' := [.ref fr]) dm_X1_advance_0 rfl rfl rfl rfl ?_
  refine me3 (pc' := 4) (S' := [.ref p]) dm_X1_advance_1 (g_get (v := .ref p) hfr rfl rfl (by omega)) rfl rfl rfl ?_
  refine me1 (pc' := 5) (L' := [(2, .ref p), (0, .ref 16), (1, .ref fr)]) (S' := []) dm_X1_advance_4 rfl rfl rfl rfl ?_
  refine me1 (pc' := 6) (L' := [(2, .ref p), (0, .ref 16), (1, .ref fr)]) (S' := [.ref p]) dm_X1_advance_5 rfl rfl rfl rfl ?_
  refine me1 (pc' := 7) (L' := [(2, .ref p), (0, .ref 16), (1, .ref fr)]) (S' := [.ref fr, .ref p]) dm_X1_advance_6 rfl rfl rfl rfl ?_
  refine me3 (pc' := 10) (S' := [ii ((k + 1 : Nat) : Int), .ref p]) dm_X1_advance_7 (g_get (v := ii ((k + 1 : Nat) : Int)) hfr rfl rfl (by omega)) rfl rfl rfl ?_
  refine x_cp (pc' := 13) (v := ii (tqD (T (i + 1 + k)))) (rest := []) dm_X1_advance_10 rfl (g_inv (As := [ii ((k + 1 : Nat) : Int)]) (S := []) hp rfl rfl rfl (by omega)) rfl rfl rfl (m_adverbAt (by omega) hK hp (by omega) hkA) ?_
  refine me1 (pc' := 14) (L' := [(3, ii (tqD (T (i + 1 + k)))), (2, .ref p), (0, .ref 16), (1, .ref fr)]) (S' := []) dm_X1_advance_13 rfl rfl rfl rfl ?_
  refine me1 (pc' := 15) (L' := [(3, ii (tqD (T (i + 1 + k)))), (2, .ref p), (0, .ref 16), (1, .ref fr)]) (S' := [.ref fr]) dm_X1_advance_14 rfl rfl rfl rfl ?_
  refine me3 (pc' := 18) (S' := [ii ((j : Nat) : Int)]) dm_X1_advance_15 (g_get (v := ii ((j : Nat) : Int)) hfr rfl rfl (by omega)) rfl rfl rfl ?_
  refine me1 (pc' := 19) (L' := [(3, ii (tqD (T (i + 1 + k)))), (2, .ref p), (0, .ref 16), (1, .ref fr)]) (S' := [.ref fr, ii ((j : Nat) : Int)]) dm_X1_advance_18 rfl rfl rfl rfl ?_
  refine me3 (pc' := 22) (S' := [ii ((n : Nat) : Int), ii ((j : Nat) : Int)]) dm_X1_advance_19 (g_get (v := ii ((n : Nat) : Int)) hfr rfl rfl (by omega)) rfl rfl rfl ?_
  refine y_2lt (a := ((j : Nat) : Int)) (b := ((n : Nat) : Int)) (t := 61) (pc' := 25) dm_X1_advance_22 rfl rfl (by omega) (fun hb1 => ?_) (fun hb1 => ?_)
  · refine me1 (pc' := 62) (L' := [(3, ii (tqD (T (i + 1 + k)))), (2, .ref p), (0, .ref 16), (1, .ref fr)]) (S' := [.ref fr]) dm_X1_advance_61 rfl rfl rfl rfl ?_
    refine me3 (pc' := 65) (S' := [ii ((j : Nat) : Int)]) dm_X1_advance_62 (g_get (v := ii ((j : Nat) : Int)) hfr rfl rfl (by omega)) rfl rfl rfl ?_
    refine me1 (pc' := 67) (L' := [(4, ii ((j : Nat) : Int)), (3, ii (tqD (T (i + 1 + k)))), (2, .ref p), (0, .ref 16), (1, .ref fr)]) (S' := []) dm_X1_advance_65 rfl rfl rfl rfl ?_
    refine me1 (pc' := 68) (L' := [(4, ii ((j : Nat) : Int)), (3, ii (tqD (T (i + 1 + k)))), (2, .ref p), (0, .ref 16), (1, .ref fr)]) (S' := [.ref fr]) dm_X1_advance_67 rfl rfl rfl rfl ?_
    refine me0 (pc' := 69) (S' := [.ref fr, .ref fr]) dm_X1_advance_68 rfl rfl rfl rfl ?_
    refine me3 (pc' := 72) (S' := [ii ((j : Nat) : Int), .ref fr]) dm_X1_advance_69 (g_get (v := ii ((j : Nat) : Int)) hfr rfl rfl (by omega)) rfl rfl rfl ?_
    refine me0 (pc' := 73) (S' := [ii 1, ii ((j : Nat) : Int), .ref fr]) dm_X1_advance_72 rfl rfl rfl rfl ?_
    refine y_iadd (a := ((j : Nat) : Int)) (b := 1) dm_X1_advance_73 (pc' := 74) rfl ?_
    refine pg_st (S' := [ii ((j + 1 : Nat) : Int), .ref fr]) (congrArg (fun z => ii z :: [.ref fr]) (by push_cast; rfl)) ?_
    refine me3 (pc' := 77) (S' := []) (h1 := (h).set fr (cO 0 [ii ((k + 1 : Nat) : Int), .ref p, fx, .ref qw, ii ((j + 1 : Nat) : Int), ii ((n : Nat) : Int), ii ((b : Nat) : Int)])) dm_X1_advance_74 (g_put (fs' := [ii ((k + 1 : Nat) : Int), .ref p, fx, .ref qw, ii ((j + 1 : Nat) : Int), ii ((n : Nat) : Int), ii ((b : Nat) : Int)]) hfr rfl rfl rfl (by simp) rfl (by decide) (fun z => by cases z) (by omega)) rfl rfl rfl ?_
    refine me1 (pc' := 78) (L' := [(4, ii ((j : Nat) : Int)), (3, ii (tqD (T (i + 1 + k)))), (2, .ref p), (0, .ref 16), (1, .ref fr)]) (S' := [ii (tqD (T (i + 1 + k)))]) dm_X1_advance_77 rfl rfl rfl rfl ?_
    refine me0 (pc' := 80) (S' := [ii 39, ii (tqD (T (i + 1 + k)))]) dm_X1_advance_78 rfl rfl rfl rfl ?_
    refine y_2ne (a := tqD (T (i + 1 + k))) (b := 39) (t := 90) (pc' := 83) dm_X1_advance_80 rfl rfl (by omega) (fun hb2 => ?_) (fun hb2 => ?_)
    · refine me1 (pc' := 91) (L' := [(4, ii ((j : Nat) : Int)), (3, ii (tqD (T (i + 1 + k)))), (2, .ref p), (0, .ref 16), (1, .ref fr)]) (S' := [.ref 16]) dm_X1_advance_90 rfl rfl rfl rfl ?_
      refine x_cv (pc' := 94) (rest := []) dm_X1_advance_91 rfl (g_inv (As := []) (S := []) (hl_ne (by omega) h16) rfl rfl rfl (by decide)) rfl rfl rfl (m_pop (t := t) (by omega) (hl_ne (by omega) h16) (hl_ne (by omega) h32) (by omega) hs1 rfl) ?_
      rintro _ _ ⟨rfl, rfl⟩
      refine me1 (pc' := 96) (L' := [(5, .ref ql), (4, ii ((j : Nat) : Int)), (3, ii (tqD (T (i + 1 + k)))), (2, .ref p), (0, .ref 16), (1, .ref fr)]) (S' := []) dm_X1_advance_94 rfl rfl rfl rfl ?_
      refine me1 (pc' := 97) (L' := [(5, .ref ql), (4, ii ((j : Nat) : Int)), (3, ii (tqD (T (i + 1 + k)))), (2, .ref p), (0, .ref 16), (1, .ref fr)]) (S' := [ii (tqD (T (i + 1 + k)))]) dm_X1_advance_96 rfl rfl rfl rfl ?_
      refine me0 (pc' := 99) (S' := [ii 92, ii (tqD (T (i + 1 + k)))]) dm_X1_advance_97 rfl rfl rfl rfl ?_
      refine y_2ne (a := tqD (T (i + 1 + k))) (b := 92) (t := 108) (pc' := 102) dm_X1_advance_99 rfl rfl (by omega) (fun hb3 => ?_) (fun hb3 => ?_)
      · exfalso; omega
      · refine me1 (pc' := 103) (L' := [(5, .ref ql), (4, ii ((j : Nat) : Int)), (3, ii (tqD (T (i + 1 + k)))), (2, .ref p), (0, .ref 16), (1, .ref fr)]) (S' := [.ref 16]) dm_X1_advance_102 rfl rfl rfl rfl ?_
        refine me1 (pc' := 105) (L' := [(5, .ref ql), (4, ii ((j : Nat) : Int)), (3, ii (tqD (T (i + 1 + k)))), (2, .ref p), (0, .ref 16), (1, .ref fr)]) (S' := [.ref ql, .ref 16]) dm_X1_advance_103 rfl rfl rfl rfl ?_
        refine x_cn (pc' := 108) (rest := []) dm_X1_advance_105 rfl (g_inv (As := [.ref ql]) (S := []) (hl_set (hl_lt (hl_ne (by omega) h16))) rfl rfl rfl (by decide)) rfl rfl rfl (m_push (t := t) (by omega) (hl_ne (by omega) (hl_ne (by omega) hvq)) (by omega) (hl_set (hl_lt (hl_ne (by omega) h16))) (hl_ne (by decide) (hl_ne (by omega) h32)) ht rfl) ?_
        rintro _ rfl
        refine me1 (pc' := 109) (L' := [(5, .ref ql), (4, ii ((j : Nat) : Int)), (3, ii (tqD (T (i + 1 + k)))), (2, .ref p), (0, .ref 16), (1, .ref fr)]) (S' := [ii (tqD (T (i + 1 + k)))]) dm_X1_advance_108 rfl rfl rfl rfl ?_
        refine me0 (pc' := 111) (S' := [ii 39, ii (tqD (T (i + 1 + k)))]) dm_X1_advance_109 rfl rfl rfl rfl ?_
        refine y_2ne (a := tqD (T (i + 1 + k))) (b := 39) (t := 128) (pc' := 114) dm_X1_advance_111 rfl rfl (by omega) (fun hb4 => ?_) (fun hb4 => ?_)
        · refine me1 (pc' := 129) (L' := [(5, .ref ql), (4, ii ((j : Nat) : Int)), (3, ii (tqD (T (i + 1 + k)))), (2, .ref p), (0, .ref 16), (1, .ref fr)]) (S' := [.ref 16]) dm_X1_advance_128 rfl rfl rfl rfl ?_
          refine me1 (pc' := 130) (L' := [(5, .ref ql), (4, ii ((j : Nat) : Int)), (3, ii (tqD (T (i + 1 + k)))), (2, .ref p), (0, .ref 16), (1, .ref fr)]) (S' := [.ref p, .ref 16]) dm_X1_advance_129 rfl rfl rfl rfl ?_
          refine me1 (pc' := 131) (L' := [(5, .ref ql), (4, ii ((j : Nat) : Int)), (3, ii (tqD (T (i + 1 + k)))), (2, .ref p), (0, .ref 16), (1, .ref fr)]) (S' := [.ref fr, .ref p, .ref 16]) dm_X1_advance_130 rfl rfl rfl rfl ?_
          refine me3 (pc' := 134) (S' := [ii ((k + 1 : Nat) : Int), .ref p, .ref 16]) dm_X1_advance_131 (g_get (v := ii ((k + 1 : Nat) : Int)) (hl_ne (by omega) (hl_ne (by omega) (hl_ne (by omega) (hl_set (hl_lt hfr))))) rfl rfl (by omega)) rfl rfl rfl ?_
          refine me0 (pc' := 135) (S' := [ii 1, ii ((k + 1 : Nat) : Int), .ref p, .ref 16]) dm_X1_advance_134 rfl rfl rfl rfl ?_
          refine y_isub (a := ((k + 1 : Nat) : Int)) (b := 1) dm_X1_advance_135 (pc' := 136) rfl ?_
          refine pg_st (S' := [ii ((k : Nat) : Int), .ref p, .ref 16]) (congrArg (fun z => ii z :: [.ref p, .ref 16]) (by omega)) ?_
          refine me1 (pc' := 138) (L' := [(5, .ref ql), (4, ii ((j : Nat) : Int)), (3, ii (tqD (T (i + 1 + k)))), (2, .ref p), (0, .ref 16), (1, .ref fr)]) (S' := [.ref ql, ii ((k : Nat) : Int), .ref p, .ref 16]) dm_X1_advance_136 rfl rfl rfl rfl ?_
          refine me1 (pc' := 139) (L' := [(5, .ref ql), (4, ii ((j : Nat) : Int)), (3, ii (tqD (T (i + 1 + k)))), (2, .ref p), (0, .ref 16), (1, .ref fr)]) (S' := [.ref fr, .ref ql, ii ((k : Nat) : Int), .ref p, .ref 16]) dm_X1_advance_138 rfl rfl rfl rfl ?_
          refine me3 (pc' := 142) (S' := [.ref qw, .ref ql, ii ((k : Nat) : Int), .ref p, .ref 16]) dm_X1_advance_139 (g_get (v := .ref qw) (hl_ne (by omega) (hl_ne (by omega) (hl_ne (by omega) (hl_set (hl_lt hfr))))) rfl rfl (by omega)) rfl rfl rfl ?_
          refine me1 (pc' := 144) (L' := [(5, .ref ql), (4, ii ((j : Nat) : Int)), (3, ii (tqD (T (i + 1 + k)))), (2, .ref p), (0, .ref 16), (1, .ref fr)]) (S' := [ii ((j : Nat) : Int), .ref qw, .ref ql, ii ((k : Nat) : Int), .ref p, .ref 16]) dm_X1_advance_142 rfl rfl rfl rfl ?_
          refine x_cv (pc' := 147) (rest := [.ref ql, ii ((k : Nat) : Int), .ref p, .ref 16]) dm_X1_advance_144 rfl (g_inv (As := [ii ((j : Nat) : Int)]) (S := [.ref ql, ii ((k : Nat) : Int), .ref p, .ref 16]) (hl_ne (by omega) (hl_ne (by omega) (hl_ne (by omega) (hl_ne (by omega) hwq)))) rfl rfl rfl (by omega)) rfl rfl rfl (c_itemAt (A := A) (e := e) (i := j) hx1 (by omega) (by simp only [List.length_set]; omega) (cv_set (fun z => by have := hA _ z; omega) (cv_set (fun z => by have := hA _ z; omega) (cv_set (fun z => by have := hA _ z; omega) (cv_set (fun z => by have := hA _ z; omega) hz8)))) hiw (by omega)) ?_
          rintro x2 g2 hres2
          obtain ⟨q2, rfl⟩ := vres_ref hres2
          have fx2 := FX_vres (FX_set (c := cO 1 [.ref 4, .ref 17, .ref 26, .ref 32, ii (t : Int), .ref 33, ii ((dq + 1 : Nat) : Int), ii ca, ii ou, ii wk, ii 0, ii pl, nw, vx, vy, .null, ii lv, lf, rt]) (c' := cO 1 [.ref 4, .ref 17, .ref 26, .ref 32, ii ((t + 1 : Nat) : Int), .ref 33, ii ((dq + 1 : Nat) : Int), ii ca, ii ou, ii wk, ii 0, ii pl, nw, vx, vy, .null, ii lv, lf, rt]) (Or.inl rfl) (hl_ne (by decide) (hl_set (hl_lt (hl_ne (by omega) h16)))) rfl (FX_set (c := cA 4 8192 sf) (c' := cA 4 8192 (va_up sf t (some ql))) (Or.inr (Or.inl rfl)) (hl_ne (by decide) (hl_ne (by omega) h32)) rfl (FX_set (c := cO 1 [.ref 4, .ref 17, .ref 26, .ref 32, ii ((t + 1 : Nat) : Int), .ref 33, ii ((dq + 1 : Nat) : Int), ii ca, ii ou, ii wk, ii 0, ii pl, nw, vx, vy, .null, ii lv, lf, rt]) (c' := cO 1 [.ref 4, .ref 17, .ref 26, .ref 32, ii (t : Int), .ref 33, ii ((dq + 1 : Nat) : Int), ii ca, ii ou, ii wk, ii 0, ii pl, nw, vx, vy, .null, ii lv, lf, rt]) (Or.inl rfl) (hl_ne (by omega) h16) rfl (FX_set (c := cO 0 [ii ((k + 1 : Nat) : Int), .ref p, fx, .ref qw, ii ((j : Nat) : Int), ii ((n : Nat) : Int), ii ((b : Nat) : Int)]) (c' := cO 0 [ii ((k + 1 : Nat) : Int), .ref p, fx, .ref qw, ii ((j + 1 : Nat) : Int), ii ((n : Nat) : Int), ii ((b : Nat) : Int)]) (Or.inr (Or.inr rfl)) hfr rfl (FX_rf (fun y => y = 16 ∨ y = 32 ∨ y = fr) h))))) hres2
          have k216 := vres_get hres2 (hl_set (hl_lt (hl_ne (by decide) (hl_set (hl_lt (hl_ne (by omega) h16))))))
          have k232 := vres_get hres2 (hl_ne (by decide) (hl_set (hl_lt (hl_ne (by decide) (hl_ne (by omega) h32)))))
          have k2fr := vres_get hres2 (hl_ne (by omega) (hl_ne (by omega) (hl_ne (by omega) (hl_set (hl_lt hfr)))))
          have k2p := vres_get hres2 (hl_ne (by omega) (hl_ne (by omega) (hl_ne (by omega) (hl_ne (by omega) hp))))
          have k2qw := vres_get hres2 (hl_ne (by omega) (hl_ne (by omega) (hl_ne (by omega) (hl_ne (by omega) hwq))))
          have k2ql := vres_get hres2 (hl_ne (by omega) (hl_ne (by omega) (hl_ne (by omega) (hl_ne (by omega) hvq))))
          refine x_cn (pc' := 150) (rest := []) dm_X1_advance_147 rfl (g_inv (As := [.ref p, ii ((k : Nat) : Int), .ref ql, .ref q2]) (S := []) k216 rfl rfl rfl (by decide)) rfl rfl rfl (m_pend (bl := (some ql)) (bw := (some q2)) (by omega) k216 rfl) ?_
          rintro _ rfl
          refine y_ret (r := none) dm_X1_advance_150 rfl rfl rfl ?_
          have bq := vres_B hres2 (h0 := h) (A0 := A) (fun x hx => Or.inl hx) (by simp only [List.length_set]; omega)
          refine ⟨rfl, q2, FX_up (FX_set (c := cO 1 [.ref 4, .ref 17, .ref 26, .ref 32, ii ((t + 1 : Nat) : Int), .ref 33, ii ((dq + 1 : Nat) : Int), ii ca, ii ou, ii wk, ii 0, ii pl, nw, vx, vy, .null, ii lv, lf, rt]) (c' := cO 1 [.ref 4, .ref 17, .ref 26, .ref 32, ii ((t + 1 : Nat) : Int), .ref 33, ii ((dq + 1 : Nat) : Int), ii ca, ii ou, ii wk, ii 0, ii pl, nw, vx, vy, .ref p, ii ((k : Nat) : Int), .ref ql, .ref q2]) (Or.inl rfl) k216 rfl fx2) (by omega) (by omega), (hl_set (hl_lt k216)), (hl_ne (by decide) k232), (hl_ne (by omega) k2fr), cv_to hA hl bq.2.2 bq.2.1, ?_⟩
          exact cv_to hA hl bq.2.2 (vres_cvN hres2 (cv_set (fun z => by have := hA _ z; omega) (cv_set (fun z => by have := hA _ z; omega) (cv_set (fun z => by have := hA _ z; omega) (cv_set (fun z => by have := hA _ z; omega) hz7)))))
        · exfalso; omega
    · exfalso; omega
  · exfalso; omega
theorem m_avF {xt : mj_X} {f1 : Nat → Value} {d t e dq qw ql fr p i k mk ln j n b : Nat} {T : Nat → Tok} {A : Nat → Prop} {h : mj_H} {v w : VV} {sf : Nat → Option Nat} {dd ca ou wk pl lv : Int} {nx fx nw vx vy lf rt : Value} (hx1 : xt 1 = some (.long, 0, f1)) (hd : 6 ≤ d) (hl : 127 ≤ h.length) (hA : okA A h) (hK : TOKS T mk ln) (h16 : h[16]? = some (mcC ((t + 1 : Nat) : Int) ((dq + 1 : Nat) : Int) ca ou wk 0 pl nw vx vy .null lv lf rt)) (h32 : h[32]? = some (cA 4 8192 sf)) (hfr2 : 34 ≤ fr ∧ fr ≤ 97) (hfr : h[fr]? = some (cO 0 [ii ((k + 1 : Nat) : Int), .ref p, fx, .ref qw, ii ((j : Nat) : Int), ii ((n : Nat) : Int), ii ((b : Nat) : Int)])) (hp : h[p]? = some (doC T i dd nx)) (hp2 : 127 ≤ p) (hkA : k < avM T i) (had : -2147483648 ≤ tqD (T (i + 1 + k)) ∧ tqD (T (i + 1 + k)) ≤ 2147483647) (hjn : j ≤ 1000 ∧ n ≤ 1000) (hjn2 : j < n) (hav : tqD (T (i + 1 + k)) = 47) (hw : cv A h (e + 1) qw w) (hiw : vk w ≤ 1 ∨ j < vm w) (hv : cv A h (e + 1) ql v) (ht : t < 8192) (hs1 : sf t = some ql) : pgN xt d 160 [.ref 16, .ref fr] h (fun h' => ∃ q2 : Nat, FX (fun y => y = 16 ∨ y = 32 ∨ y = fr) 1 9 h h' ∧ h'[16]? = some (mcC (t : Int) ((dq + 1 : Nat) : Int) ca ou wk 0 pl nw vx vy (.ref p) ((k : Nat) : Int) (.ref ql) (.ref q2)) ∧ h'[32]? = some (cA 4 8192 sf) ∧ h'[fr]? = some (cO 0 [ii ((k + 1 : Nat) : Int), .ref p, fx, .ref qw, ii ((j + 1 : Nat) : Int), ii ((n : Nat) : Int), ii ((b : Nat) : Int)]) ∧ cv (newA A h h') h' (e + 1) q2 (vit w j) ∧ cv (newA A h h') h' (e + 1) ql v) := by
  have hz8 := hw
  obtain ⟨hw2, ⟨hq2, hqA2⟩, hsz2, hlv2, row2, fr2, vals2, hwq, -, -, -, -⟩ := id hw
  have hqw : qw = 25 ∨ qw = 101 ∨ 127 ≤ qw := (hA qw hqA2).2
  have hwm := vw1_m hw2
  have hz7 := hv
  obtain ⟨hw1, ⟨hq1, hqA1⟩, hsz1, hlv1, row1, fr1, vals1, hvq, -, -, -, -⟩ := id hv
  have hql : ql = 25 ∨ ql = 101 ∨ 127 ≤ ql := (hA ql hqA1).2
  have hvm := vw1_m hw1
  refine x_enter pm_X1_advance (L0 := [(0, .ref 16), (1, .ref fr)]) rfl (Nat.le_of_ble_eq_true rfl) (by omega) ?_
  refine me1 (pc' := 1) (L' := [(0, .ref 16), (1, .ref fr)]) (S' := [.ref fr]) dm_X1_advance_0 rfl rfl rfl rfl ?_
  refine me3 (pc' := 4) (S' := [.ref p]) dm_X1_advance_1 (g_get (v := .ref p) hfr rfl rfl (by omega)) rfl rfl rfl ?_
  refine me1 (pc' := 5) (L' := [(2, .ref p), (0, .ref 16), (1, .ref fr)]) (S' := []) dm_X1_advance_4 rfl rfl rfl rfl ?_
  refine me1 (pc' := 6) (L' := [(2, .ref p), (0, .ref 16), (1, .ref fr)]) (S' := [.ref p]) dm_X1_advance_5 rfl rfl rfl rfl ?_
  refine me1 (pc' := 7) (L' := [(2, .ref p), (0, .ref 16), (1, .ref fr)]) (S' := [.ref fr, .ref p]) dm_X1_advance_6 rfl rfl rfl rfl ?_
  refine me3 (pc' := 10) (S' := [ii ((k + 1 : Nat) : Int), .ref p]) dm_X1_advance_7 (g_get (v := ii ((k + 1 : Nat) : Int)) hfr rfl rfl (by omega)) rfl rfl rfl ?_
  refine x_cp (pc' := 13) (v := ii (tqD (T (i + 1 + k)))) (rest := []) dm_X1_advance_10 rfl (g_inv (As := [ii ((k + 1 : Nat) : Int)]) (S := []) hp rfl rfl rfl (by omega)) rfl rfl rfl (m_adverbAt (by omega) hK hp (by omega) hkA) ?_
  refine me1 (pc' := 14) (L' := [(3, ii (tqD (T (i + 1 + k)))), (2, .ref p), (0, .ref 16), (1, .ref fr)]) (S' := []) dm_X1_advance_13 rfl rfl rfl rfl ?_
  refine me1 (pc' := 15) (L' := [(3, ii (tqD (T (i + 1 + k)))), (2, .ref p), (0, .ref 16), (1, .ref fr)]) (S' := [.ref fr]) dm_X1_advance_14 rfl rfl rfl rfl ?_
  refine me3 (pc' := 18) (S' := [ii ((j : Nat) : Int)]) dm_X1_advance_15 (g_get (v := ii ((j : Nat) : Int)) hfr rfl rfl (by omega)) rfl rfl rfl ?_
  refine me1 (pc' := 19) (L' := [(3, ii (tqD (T (i + 1 + k)))), (2, .ref p), (0, .ref 16), (1, .ref fr)]) (S' := [.ref fr, ii ((j : Nat) : Int)]) dm_X1_advance_18 rfl rfl rfl rfl ?_
  refine me3 (pc' := 22) (S' := [ii ((n : Nat) : Int), ii ((j : Nat) : Int)]) dm_X1_advance_19 (g_get (v := ii ((n : Nat) : Int)) hfr rfl rfl (by omega)) rfl rfl rfl ?_
  refine y_2lt (a := ((j : Nat) : Int)) (b := ((n : Nat) : Int)) (t := 61) (pc' := 25) dm_X1_advance_22 rfl rfl (by omega) (fun hb1 => ?_) (fun hb1 => ?_)
  · refine me1 (pc' := 62) (L' := [(3, ii (tqD (T (i + 1 + k)))), (2, .ref p), (0, .ref 16), (1, .ref fr)]) (S' := [.ref fr]) dm_X1_advance_61 rfl rfl rfl rfl ?_
    refine me3 (pc' := 65) (S' := [ii ((j : Nat) : Int)]) dm_X1_advance_62 (g_get (v := ii ((j : Nat) : Int)) hfr rfl rfl (by omega)) rfl rfl rfl ?_
    refine me1 (pc' := 67) (L' := [(4, ii ((j : Nat) : Int)), (3, ii (tqD (T (i + 1 + k)))), (2, .ref p), (0, .ref 16), (1, .ref fr)]) (S' := []) dm_X1_advance_65 rfl rfl rfl rfl ?_
    refine me1 (pc' := 68) (L' := [(4, ii ((j : Nat) : Int)), (3, ii (tqD (T (i + 1 + k)))), (2, .ref p), (0, .ref 16), (1, .ref fr)]) (S' := [.ref fr]) dm_X1_advance_67 rfl rfl rfl rfl ?_
    refine me0 (pc' := 69) (S' := [.ref fr, .ref fr]) dm_X1_advance_68 rfl rfl rfl rfl ?_
    refine me3 (pc' := 72) (S' := [ii ((j : Nat) : Int), .ref fr]) dm_X1_advance_69 (g_get (v := ii ((j : Nat) : Int)) hfr rfl rfl (by omega)) rfl rfl rfl ?_
    refine me0 (pc' := 73) (S' := [ii 1, ii ((j : Nat) : Int), .ref fr]) dm_X1_advance_72 rfl rfl rfl rfl ?_
    refine y_iadd (a := ((j : Nat) : Int)) (b := 1) dm_X1_advance_73 (pc' := 74) rfl ?_
    refine pg_st (S' := [ii ((j + 1 : Nat) : Int), .ref fr]) (congrArg (fun z => ii z :: [.ref fr]) (by push_cast; rfl)) ?_
    refine me3 (pc' := 77) (S' := []) (h1 := (h).set fr (cO 0 [ii ((k + 1 : Nat) : Int), .ref p, fx, .ref qw, ii ((j + 1 : Nat) : Int), ii ((n : Nat) : Int), ii ((b : Nat) : Int)])) dm_X1_advance_74 (g_put (fs' := [ii ((k + 1 : Nat) : Int), .ref p, fx, .ref qw, ii ((j + 1 : Nat) : Int), ii ((n : Nat) : Int), ii ((b : Nat) : Int)]) hfr rfl rfl rfl (by simp) rfl (by decide) (fun z => by cases z) (by omega)) rfl rfl rfl ?_
    refine me1 (pc' := 78) (L' := [(4, ii ((j : Nat) : Int)), (3, ii (tqD (T (i + 1 + k)))), (2, .ref p), (0, .ref 16), (1, .ref fr)]) (S' := [ii (tqD (T (i + 1 + k)))]) dm_X1_advance_77 rfl rfl rfl rfl ?_
    refine me0 (pc' := 80) (S' := [ii 39, ii (tqD (T (i + 1 + k)))]) dm_X1_advance_78 rfl rfl rfl rfl ?_
    refine y_2ne (a := tqD (T (i + 1 + k))) (b := 39) (t := 90) (pc' := 83) dm_X1_advance_80 rfl rfl (by omega) (fun hb2 => ?_) (fun hb2 => ?_)
    · refine me1 (pc' := 91) (L' := [(4, ii ((j : Nat) : Int)), (3, ii (tqD (T (i + 1 + k)))), (2, .ref p), (0, .ref 16), (1, .ref fr)]) (S' := [.ref 16]) dm_X1_advance_90 rfl rfl rfl rfl ?_
      refine x_cv (pc' := 94) (rest := []) dm_X1_advance_91 rfl (g_inv (As := []) (S := []) (hl_ne (by omega) h16) rfl rfl rfl (by decide)) rfl rfl rfl (m_pop (t := t) (by omega) (hl_ne (by omega) h16) (hl_ne (by omega) h32) (by omega) hs1 rfl) ?_
      rintro _ _ ⟨rfl, rfl⟩
      refine me1 (pc' := 96) (L' := [(5, .ref ql), (4, ii ((j : Nat) : Int)), (3, ii (tqD (T (i + 1 + k)))), (2, .ref p), (0, .ref 16), (1, .ref fr)]) (S' := []) dm_X1_advance_94 rfl rfl rfl rfl ?_
      refine me1 (pc' := 97) (L' := [(5, .ref ql), (4, ii ((j : Nat) : Int)), (3, ii (tqD (T (i + 1 + k)))), (2, .ref p), (0, .ref 16), (1, .ref fr)]) (S' := [ii (tqD (T (i + 1 + k)))]) dm_X1_advance_96 rfl rfl rfl rfl ?_
      refine me0 (pc' := 99) (S' := [ii 92, ii (tqD (T (i + 1 + k)))]) dm_X1_advance_97 rfl rfl rfl rfl ?_
      refine y_2ne (a := tqD (T (i + 1 + k))) (b := 92) (t := 108) (pc' := 102) dm_X1_advance_99 rfl rfl (by omega) (fun hb3 => ?_) (fun hb3 => ?_)
      · refine me1 (pc' := 109) (L' := [(5, .ref ql), (4, ii ((j : Nat) : Int)), (3, ii (tqD (T (i + 1 + k)))), (2, .ref p), (0, .ref 16), (1, .ref fr)]) (S' := [ii (tqD (T (i + 1 + k)))]) dm_X1_advance_108 rfl rfl rfl rfl ?_
        refine me0 (pc' := 111) (S' := [ii 39, ii (tqD (T (i + 1 + k)))]) dm_X1_advance_109 rfl rfl rfl rfl ?_
        refine y_2ne (a := tqD (T (i + 1 + k))) (b := 39) (t := 128) (pc' := 114) dm_X1_advance_111 rfl rfl (by omega) (fun hb4 => ?_) (fun hb4 => ?_)
        · refine me1 (pc' := 129) (L' := [(5, .ref ql), (4, ii ((j : Nat) : Int)), (3, ii (tqD (T (i + 1 + k)))), (2, .ref p), (0, .ref 16), (1, .ref fr)]) (S' := [.ref 16]) dm_X1_advance_128 rfl rfl rfl rfl ?_
          refine me1 (pc' := 130) (L' := [(5, .ref ql), (4, ii ((j : Nat) : Int)), (3, ii (tqD (T (i + 1 + k)))), (2, .ref p), (0, .ref 16), (1, .ref fr)]) (S' := [.ref p, .ref 16]) dm_X1_advance_129 rfl rfl rfl rfl ?_
          refine me1 (pc' := 131) (L' := [(5, .ref ql), (4, ii ((j : Nat) : Int)), (3, ii (tqD (T (i + 1 + k)))), (2, .ref p), (0, .ref 16), (1, .ref fr)]) (S' := [.ref fr, .ref p, .ref 16]) dm_X1_advance_130 rfl rfl rfl rfl ?_
          refine me3 (pc' := 134) (S' := [ii ((k + 1 : Nat) : Int), .ref p, .ref 16]) dm_X1_advance_131 (g_get (v := ii ((k + 1 : Nat) : Int)) (hl_ne (by omega) (hl_set (hl_lt hfr))) rfl rfl (by omega)) rfl rfl rfl ?_
          refine me0 (pc' := 135) (S' := [ii 1, ii ((k + 1 : Nat) : Int), .ref p, .ref 16]) dm_X1_advance_134 rfl rfl rfl rfl ?_
          refine y_isub (a := ((k + 1 : Nat) : Int)) (b := 1) dm_X1_advance_135 (pc' := 136) rfl ?_
          refine pg_st (S' := [ii ((k : Nat) : Int), .ref p, .ref 16]) (congrArg (fun z => ii z :: [.ref p, .ref 16]) (by omega)) ?_
          refine me1 (pc' := 138) (L' := [(5, .ref ql), (4, ii ((j : Nat) : Int)), (3, ii (tqD (T (i + 1 + k)))), (2, .ref p), (0, .ref 16), (1, .ref fr)]) (S' := [.ref ql, ii ((k : Nat) : Int), .ref p, .ref 16]) dm_X1_advance_136 rfl rfl rfl rfl ?_
          refine me1 (pc' := 139) (L' := [(5, .ref ql), (4, ii ((j : Nat) : Int)), (3, ii (tqD (T (i + 1 + k)))), (2, .ref p), (0, .ref 16), (1, .ref fr)]) (S' := [.ref fr, .ref ql, ii ((k : Nat) : Int), .ref p, .ref 16]) dm_X1_advance_138 rfl rfl rfl rfl ?_
          refine me3 (pc' := 142) (S' := [.ref qw, .ref ql, ii ((k : Nat) : Int), .ref p, .ref 16]) dm_X1_advance_139 (g_get (v := .ref qw) (hl_ne (by omega) (hl_set (hl_lt hfr))) rfl rfl (by omega)) rfl rfl rfl ?_
          refine me1 (pc' := 144) (L' := [(5, .ref ql), (4, ii ((j : Nat) : Int)), (3, ii (tqD (T (i + 1 + k)))), (2, .ref p), (0, .ref 16), (1, .ref fr)]) (S' := [ii ((j : Nat) : Int), .ref qw, .ref ql, ii ((k : Nat) : Int), .ref p, .ref 16]) dm_X1_advance_142 rfl rfl rfl rfl ?_
          refine x_cv (pc' := 147) (rest := [.ref ql, ii ((k : Nat) : Int), .ref p, .ref 16]) dm_X1_advance_144 rfl (g_inv (As := [ii ((j : Nat) : Int)]) (S := [.ref ql, ii ((k : Nat) : Int), .ref p, .ref 16]) (hl_ne (by omega) (hl_ne (by omega) hwq)) rfl rfl rfl (by omega)) rfl rfl rfl (c_itemAt (A := A) (e := e) (i := j) hx1 (by omega) (by simp only [List.length_set]; omega) (cv_set (fun z => by have := hA _ z; omega) (cv_set (fun z => by have := hA _ z; omega) hz8)) hiw (by omega)) ?_
          rintro x2 g2 hres2
          obtain ⟨q2, rfl⟩ := vres_ref hres2
          have fx2 := FX_vres (FX_set (c := cO 1 [.ref 4, .ref 17, .ref 26, .ref 32, ii ((t + 1 : Nat) : Int), .ref 33, ii ((dq + 1 : Nat) : Int), ii ca, ii ou, ii wk, ii 0, ii pl, nw, vx, vy, .null, ii lv, lf, rt]) (c' := cO 1 [.ref 4, .ref 17, .ref 26, .ref 32, ii (t : Int), .ref 33, ii ((dq + 1 : Nat) : Int), ii ca, ii ou, ii wk, ii 0, ii pl, nw, vx, vy, .null, ii lv, lf, rt]) (Or.inl rfl) (hl_ne (by omega) h16) rfl (FX_set (c := cO 0 [ii ((k + 1 : Nat) : Int), .ref p, fx, .ref qw, ii ((j : Nat) : Int), ii ((n : Nat) : Int), ii ((b : Nat) : Int)]) (c' := cO 0 [ii ((k + 1 : Nat) : Int), .ref p, fx, .ref qw, ii ((j + 1 : Nat) : Int), ii ((n : Nat) : Int), ii ((b : Nat) : Int)]) (Or.inr (Or.inr rfl)) hfr rfl (FX_rf (fun y => y = 16 ∨ y = 32 ∨ y = fr) h))) hres2
          have k216 := vres_get hres2 (hl_set (hl_lt (hl_ne (by omega) h16)))
          have k232 := vres_get hres2 (hl_ne (by decide) (hl_ne (by omega) h32))
          have k2fr := vres_get hres2 (hl_ne (by omega) (hl_set (hl_lt hfr)))
          have k2p := vres_get hres2 (hl_ne (by omega) (hl_ne (by omega) hp))
          have k2qw := vres_get hres2 (hl_ne (by omega) (hl_ne (by omega) hwq))
          have k2ql := vres_get hres2 (hl_ne (by omega) (hl_ne (by omega) hvq))
          refine x_cn (pc' := 150) (rest := []) dm_X1_advance_147 rfl (g_inv (As := [.ref p, ii ((k : Nat) : Int), .ref ql, .ref q2]) (S := []) k216 rfl rfl rfl (by decide)) rfl rfl rfl (m_pend (bl := (some ql)) (bw := (some q2)) (by omega) k216 rfl) ?_
          rintro _ rfl
          refine y_ret (r := none) dm_X1_advance_150 rfl rfl rfl ?_
          have bq := vres_B hres2 (h0 := h) (A0 := A) (fun x hx => Or.inl hx) (by simp only [List.length_set]; omega)
          refine ⟨rfl, q2, FX_up (FX_set (c := cO 1 [.ref 4, .ref 17, .ref 26, .ref 32, ii (t : Int), .ref 33, ii ((dq + 1 : Nat) : Int), ii ca, ii ou, ii wk, ii 0, ii pl, nw, vx, vy, .null, ii lv, lf, rt]) (c' := cO 1 [.ref 4, .ref 17, .ref 26, .ref 32, ii (t : Int), .ref 33, ii ((dq + 1 : Nat) : Int), ii ca, ii ou, ii wk, ii 0, ii pl, nw, vx, vy, .ref p, ii ((k : Nat) : Int), .ref ql, .ref q2]) (Or.inl rfl) k216 rfl fx2) (by omega) (by omega), (hl_set (hl_lt k216)), (hl_ne (by decide) k232), (hl_ne (by omega) k2fr), cv_to hA hl bq.2.2 bq.2.1, ?_⟩
          exact cv_to hA hl bq.2.2 (vres_cvN hres2 (cv_set (fun z => by have := hA _ z; omega) (cv_set (fun z => by have := hA _ z; omega) hz7)))
        · exfalso; omega
      · exfalso; omega
    · exfalso; omega
  · exfalso; omega
