theorem dm_X1_run_0 : mj_dec prog_3_method_5_code 0 = some (.aload_n 0, 1) := by decide +kernel
theorem dm_X1_run_1 : mj_dec prog_3_method_5_code 1 = some (.iconst 0, 1) := by decide +kernel
theorem dm_X1_run_2 : mj_dec prog_3_method_5_code 2 = some (.putfield 53, 3) := by decide +kernel
theorem dm_X1_run_5 : mj_dec prog_3_method_5_code 5 = some (.aload_n 0, 1) := by decide +kernel
theorem dm_X1_run_6 : mj_dec prog_3_method_5_code 6 = some (.iconst 0, 1) := by decide +kernel
theorem dm_X1_run_7 : mj_dec prog_3_method_5_code 7 = some (.putfield 56, 3) := by decide +kernel
theorem dm_X1_run_10 : mj_dec prog_3_method_5_code 10 = some (.aload_n 0, 1) := by decide +kernel
theorem dm_X1_run_11 : mj_dec prog_3_method_5_code 11 = some (.iconst 0, 1) := by decide +kernel
theorem dm_X1_run_12 : mj_dec prog_3_method_5_code 12 = some (.putfield 59, 3) := by decide +kernel
theorem dm_X1_run_15 : mj_dec prog_3_method_5_code 15 = some (.aload_n 0, 1) := by decide +kernel
theorem dm_X1_run_16 : mj_dec prog_3_method_5_code 16 = some (.iconst 0, 1) := by decide +kernel
theorem dm_X1_run_17 : mj_dec prog_3_method_5_code 17 = some (.putfield 47, 3) := by decide +kernel
theorem dm_X1_run_20 : mj_dec prog_3_method_5_code 20 = some (.aload_n 0, 1) := by decide +kernel
theorem dm_X1_run_21 : mj_dec prog_3_method_5_code 21 = some (.aconst_null, 1) := by decide +kernel
theorem dm_X1_run_22 : mj_dec prog_3_method_5_code 22 = some (.putfield 62, 3) := by decide +kernel
theorem dm_X1_run_25 : mj_dec prog_3_method_5_code 25 = some (.aload_n 0, 1) := by decide +kernel
theorem dm_X1_run_26 : mj_dec prog_3_method_5_code 26 = some (.aconst_null, 1) := by decide +kernel
theorem dm_X1_run_27 : mj_dec prog_3_method_5_code 27 = some (.putfield 66, 3) := by decide +kernel
theorem dm_X1_run_30 : mj_dec prog_3_method_5_code 30 = some (.aload_n 0, 1) := by decide +kernel
theorem dm_X1_run_31 : mj_dec prog_3_method_5_code 31 = some (.aconst_null, 1) := by decide +kernel
theorem dm_X1_run_32 : mj_dec prog_3_method_5_code 32 = some (.putfield 69, 3) := by decide +kernel
theorem dm_X1_run_35 : mj_dec prog_3_method_5_code 35 = some (.aload_n 0, 1) := by decide +kernel
theorem dm_X1_run_36 : mj_dec prog_3_method_5_code 36 = some (.aload_n 1, 1) := by decide +kernel
theorem dm_X1_run_37 : mj_dec prog_3_method_5_code 37 = some (.putfield 73, 3) := by decide +kernel
theorem dm_X1_run_40 : mj_dec prog_3_method_5_code 40 = some (.iconst 0, 1) := by decide +kernel
theorem dm_X1_run_41 : mj_dec prog_3_method_5_code 41 = some (.istore_n 2, 1) := by decide +kernel
theorem m_run0 {xt : mj_X} {d fi : Nat} {h : mj_H} {Q : Value → mj_H → Prop} {tp dp ca ou wk er pl lv : Int} {nw vx vy dg lf rt : Value} (hd : 1 ≤ d) (h16 : h[16]? = some (mcC tp dp ca ou wk er pl nw vx vy dg lv lf rt)) (k : HD xt (d - 1) fi 0 (h.set 16 (mcC 0 0 0 ou wk 0 pl (.ref fi) .null .null .null lv lf rt)) (fun r h' => ∃ x, r = some x ∧ Q x h')) : pgV xt d 70 [.ref 16, .ref fi] h Q := by
  refine x_enter pm_X1_run (L0 := [(0, .ref 16), (1, .ref fi)]) rfl (Nat.le_of_ble_eq_true rfl) (by omega) ?_
  refine me1 (pc' := 1) (L' := [(0, .ref 16), (1, .ref fi)]) (S' := [.ref 16]) dm_X1_run_0 rfl rfl rfl rfl ?_
  refine me0 (pc' := 2) (S' := [ii 0, .ref 16]) dm_X1_run_1 rfl rfl rfl rfl ?_
  refine me3 (pc' := 5) (S' := []) (h1 := (h).set 16 (cO 1 [.ref 4, .ref 17, .ref 26, .ref 32, ii 0, .ref 33, ii dp, ii ca, ii ou, ii wk, ii er, ii pl, nw, vx, vy, dg, ii lv, lf, rt])) dm_X1_run_2 (g_put (fs' := [.ref 4, .ref 17, .ref 26, .ref 32, ii 0, .ref 33, ii dp, ii ca, ii ou, ii wk, ii er, ii pl, nw, vx, vy, dg, ii lv, lf, rt]) h16 rfl rfl rfl (by simp) rfl (by decide) (fun z => by cases z) (by decide)) rfl rfl rfl ?_
  refine me1 (pc' := 6) (L' := [(0, .ref 16), (1, .ref fi)]) (S' := [.ref 16]) dm_X1_run_5 rfl rfl rfl rfl ?_
  refine me0 (pc' := 7) (S' := [ii 0, .ref 16]) dm_X1_run_6 rfl rfl rfl rfl ?_
  refine me3 (pc' := 10) (S' := []) (h1 := (h).set 16 (cO 1 [.ref 4, .ref 17, .ref 26, .ref 32, ii 0, .ref 33, ii 0, ii ca, ii ou, ii wk, ii er, ii pl, nw, vx, vy, dg, ii lv, lf, rt])) dm_X1_run_7 (g_put (fs' := [.ref 4, .ref 17, .ref 26, .ref 32, ii 0, .ref 33, ii 0, ii ca, ii ou, ii wk, ii er, ii pl, nw, vx, vy, dg, ii lv, lf, rt]) (hl_set (hl_lt h16)) rfl (by rw [List.set_set]) rfl (by simp) rfl (by decide) (fun z => by cases z) (by decide)) rfl rfl rfl ?_
  refine me1 (pc' := 11) (L' := [(0, .ref 16), (1, .ref fi)]) (S' := [.ref 16]) dm_X1_run_10 rfl rfl rfl rfl ?_
  refine me0 (pc' := 12) (S' := [ii 0, .ref 16]) dm_X1_run_11 rfl rfl rfl rfl ?_
  refine me3 (pc' := 15) (S' := []) (h1 := (h).set 16 (cO 1 [.ref 4, .ref 17, .ref 26, .ref 32, ii 0, .ref 33, ii 0, ii 0, ii ou, ii wk, ii er, ii pl, nw, vx, vy, dg, ii lv, lf, rt])) dm_X1_run_12 (g_put (fs' := [.ref 4, .ref 17, .ref 26, .ref 32, ii 0, .ref 33, ii 0, ii 0, ii ou, ii wk, ii er, ii pl, nw, vx, vy, dg, ii lv, lf, rt]) (hl_set (hl_lt h16)) rfl (by rw [List.set_set]) rfl (by simp) rfl (by decide) (fun z => by cases z) (by decide)) rfl rfl rfl ?_
  refine me1 (pc' := 16) (L' := [(0, .ref 16), (1, .ref fi)]) (S' := [.ref 16]) dm_X1_run_15 rfl rfl rfl rfl ?_
  refine me0 (pc' := 17) (S' := [ii 0, .ref 16]) dm_X1_run_16 rfl rfl rfl rfl ?_
  refine me3 (pc' := 20) (S' := []) (h1 := (h).set 16 (cO 1 [.ref 4, .ref 17, .ref 26, .ref 32, ii 0, .ref 33, ii 0, ii 0, ii ou, ii wk, ii 0, ii pl, nw, vx, vy, dg, ii lv, lf, rt])) dm_X1_run_17 (g_put (fs' := [.ref 4, .ref 17, .ref 26, .ref 32, ii 0, .ref 33, ii 0, ii 0, ii ou, ii wk, ii 0, ii pl, nw, vx, vy, dg, ii lv, lf, rt]) (hl_set (hl_lt h16)) rfl (by rw [List.set_set]) rfl (by simp) rfl (by decide) (fun z => by cases z) (by decide)) rfl rfl rfl ?_
  refine me1 (pc' := 21) (L' := [(0, .ref 16), (1, .ref fi)]) (S' := [.ref 16]) dm_X1_run_20 rfl rfl rfl rfl ?_
  refine me0 (pc' := 22) (S' := [.null, .ref 16]) dm_X1_run_21 rfl rfl rfl rfl ?_
  refine me3 (pc' := 25) (S' := []) (h1 := (h).set 16 (cO 1 [.ref 4, .ref 17, .ref 26, .ref 32, ii 0, .ref 33, ii 0, ii 0, ii ou, ii wk, ii 0, ii pl, nw, .null, vy, dg, ii lv, lf, rt])) dm_X1_run_22 (g_put (fs' := [.ref 4, .ref 17, .ref 26, .ref 32, ii 0, .ref 33, ii 0, ii 0, ii ou, ii wk, ii 0, ii pl, nw, .null, vy, dg, ii lv, lf, rt]) (hl_set (hl_lt h16)) rfl (by rw [List.set_set]) rfl (by simp) rfl (by decide) (fun z => by cases z) (by decide)) rfl rfl rfl ?_
  refine me1 (pc' := 26) (L' := [(0, .ref 16), (1, .ref fi)]) (S' := [.ref 16]) dm_X1_run_25 rfl rfl rfl rfl ?_
  refine me0 (pc' := 27) (S' := [.null, .ref 16]) dm_X1_run_26 rfl rfl rfl rfl ?_
  refine me3 (pc' := 30) (S' := []) (h1 := (h).set 16 (cO 1 [.ref 4, .ref 17, .ref 26, .ref 32, ii 0, .ref 33, ii 0, ii 0, ii ou, ii wk, ii 0, ii pl, nw, .null, .null, dg, ii lv, lf, rt])) dm_X1_run_27 (g_put (fs' := [.ref 4, .ref 17, .ref 26, .ref 32, ii 0, .ref 33, ii 0, ii 0, ii ou, ii wk, ii 0, ii pl, nw, .null, .null, dg, ii lv, lf, rt]) (hl_set (hl_lt h16)) rfl (by rw [List.set_set]) rfl (by simp) rfl (by decide) (fun z => by cases z) (by decide)) rfl rfl rfl ?_
  refine me1 (pc' := 31) (L' := [(0, .ref 16), (1, .ref fi)]) (S' := [.ref 16]) dm_X1_run_30 rfl rfl rfl rfl ?_
  refine me0 (pc' := 32) (S' := [.null, .ref 16]) dm_X1_run_31 rfl rfl rfl rfl ?_
  refine me3 (pc' := 35) (S' := []) (h1 := (h).set 16 (cO 1 [.ref 4, .ref 17, .ref 26, .ref 32, ii 0, .ref 33, ii 0, ii 0, ii ou, ii wk, ii 0, ii pl, nw, .null, .null, .null, ii lv, lf, rt])) dm_X1_run_32 (g_put (fs' := [.ref 4, .ref 17, .ref 26, .ref 32, ii 0, .ref 33, ii 0, ii 0, ii ou, ii wk, ii 0, ii pl, nw, .null, .null, .null, ii lv, lf, rt]) (hl_set (hl_lt h16)) rfl (by rw [List.set_set]) rfl (by simp) rfl (by decide) (fun z => by cases z) (by decide)) rfl rfl rfl ?_
  refine me1 (pc' := 36) (L' := [(0, .ref 16), (1, .ref fi)]) (S' := [.ref 16]) dm_X1_run_35 rfl rfl rfl rfl ?_
  refine me1 (pc' := 37) (L' := [(0, .ref 16), (1, .ref fi)]) (S' := [.ref fi, .ref 16]) dm_X1_run_36 rfl rfl rfl rfl ?_
  refine me3 (pc' := 40) (S' := []) (h1 := (h).set 16 (cO 1 [.ref 4, .ref 17, .ref 26, .ref 32, ii 0, .ref 33, ii 0, ii 0, ii ou, ii wk, ii 0, ii pl, .ref fi, .null, .null, .null, ii lv, lf, rt])) dm_X1_run_37 (g_put (fs' := [.ref 4, .ref 17, .ref 26, .ref 32, ii 0, .ref 33, ii 0, ii 0, ii ou, ii wk, ii 0, ii pl, .ref fi, .null, .null, .null, ii lv, lf, rt]) (hl_set (hl_lt h16)) rfl (by rw [List.set_set]) rfl (by simp) rfl (by decide) (fun z => by cases z) (by decide)) rfl rfl rfl ?_
  refine me0 (pc' := 41) (S' := [ii 0]) dm_X1_run_40 rfl rfl rfl rfl ?_
  refine me1 (pc' := 42) (L' := [(2, ii 0), (0, .ref 16), (1, .ref fi)]) (S' := []) dm_X1_run_41 rfl rfl rfl rfl ?_
  exact pg_sub (L := [(0, .ref 16), (1, .ref fi), (2, ii ((0 : Nat) : Int))]) rfl rfl rfl k
/-! the Machine's run, from its call to its end -/
/-- what a run leaves -/
def RUN (A : Nat → Prop) (h : mj_H) (W : Nat) (r : DR) (x : Value) (h' : mj_H) : Prop := match r.2 with
  | .inl z => x = .null ∧ MER A h W r.1 z.1 z.2 h'
  | .inr v => ∃ q : Nat, x = .ref q ∧ gv (newA A h h') h' q v ∧ MH (newA A h h') h' ∧ MF 0 h h' ∧ 7 * h'.length + 6 * r.1 ≤ 7 * h.length + 6 * W + 1800 ∧ mj_sl h' + 8 * r.1 ≤ mj_sl h + 8 * W + 3100 ∧ (∃ (tp dp ca ou pl : Int) (nw vx vy dg : Value) (lv : Int) (lf rt : Value), h'[16]? = some (mcC tp dp ca ou (r.1 : Int) 0 pl nw vx vy dg lv lf rt)) ∧ ∃ sf, h'[32]? = some (cA 4 8192 sf)
abbrev rz (W op : Nat) (ou pl lv : Int) (lf rt : Value) : mj_E := mcC ((0 : Nat) : Int) ((0 : Nat) : Int) ((0 : Nat) : Int) ou (W : Int) 0 pl (oV (some op)) (oV none) (oV none) .null lv lf rt
section rune
variable {xt : mj_X} {f1 : Nat → Value} {d : Nat} {A : Nat → Prop} {h : mj_H} {W op : Nat} {tp dp ca ou er pl lv : Int} {nw vx vy dg lf rt : Value} {sf0 : Nat → Option Nat}
/-- an error at the end -/
theorem run_KE {P : Option Value → mj_H → Prop} {fi : Nat} {z : mj_E} (hM : MH A h) (h16 : h[16]? = some (mcC tp dp ca ou (W : Int) er pl nw vx vy dg lv lf rt)) (hz : mj_sl1 z = mj_sl1 (mcC tp dp ca ou (W : Int) er pl nw vx vy dg lv lf rt)) {W' e : Nat} {pe : Int} (hP : ∀ h', RUN A h W (W', .inl (e, pe)) .null h' → P (some .null) h') : KE xt d fi P A (h.set 16 z) W W' e pe := by
  intro h' st' hst hE
  obtain ⟨e1, e2, e3, e4, ⟨tp', dp', ca', ou', nw', vx', vy', dg', lv', lf', rt', e5⟩, e6, e7, e8⟩ := id hE
  refine tn_err hst (by omega) e5 (by omega) (hP h' ⟨rfl, ?_⟩)
  rw [List.length_set] at e3
  rw [sl_set h16 hz] at e4
  refine ⟨?_, MF_tr (MF_set (Or.inr (Or.inl rfl))) e2, e3, e4, ⟨_, _, _, _, _, _, _, _, _, _, _, e5⟩, e6, e7, e8⟩
  rw [newA_len (h1 := h') (h2 := h') rfl] at e1 ⊢
  have : newA A (h.set 16 z) h' = newA A h h' := by unfold newA; rw [List.length_set]
  rw [← this]; exact e1
/-- a value at the end -/
theorem run_KV {P : Option Value → mj_H → Prop} {fi st t : Nat} {h2 : mj_H} {z : mj_E} {W2 q : Nat} {v : VV} {sf2 : Nat → Option Nat} (hd : 1 ≤ d) (h16 : h[16]? = some (mcC tp dp ca ou (W : Int) er pl nw vx vy dg lv lf rt)) (hz : mj_sl1 z = mj_sl1 (mcC tp dp ca ou (W : Int) er pl nw vx vy dg lv lf rt)) (hM2 : MH (newA A h h2) h2) (hx : MF 0 (h.set 16 z) h2) (hr1 : 7 * h2.length + 6 * W2 ≤ 7 * h.length + 6 * W + 1800) (hr2 : mj_sl h2 + 8 * W2 ≤ mj_sl h + 8 * W + 3100) {pl' ou' lv' : Int} {lf' rt' : Value} (g16 : h2[16]? = some (mcC ((t + 1 : Nat) : Int) ((0 : Nat) : Int) ((0 : Nat) : Int) ou' (W2 : Int) 0 pl' (oV none) (oV none) (oV none) .null lv' lf' rt')) (g32 : h2[32]? = some (cA 4 8192 sf2)) (ht : t < 8192) (hsq : sf2 t = some q) (hv : gv (newA A h h2) h2 q v) (hst : st < 199999999) (hP : ∀ h', RUN A h W (W2, .inr v) (.ref q) h' → P (some (.ref q)) h') : HD xt d fi st h2 P := by
  refine tn_end hd hst g16 g32 ht hsq (hP _ ⟨q, rfl, ?_⟩)
  have e : newA A h (h2.set 16 (mcC ((t : Nat) : Int) 0 ((0 : Nat) : Int) ou' (W2 : Int) 0 pl' .null (oV none) (oV none) .null lv' lf' rt')) = newA A h h2 := newA_len (by rw [List.length_set])
  have hx2 : MF 0 h h2 := MF_tr (MF_set (Or.inr (Or.inl rfl))) hx
  refine ⟨?_, ?_, MF_tr hx2 (MF_set (Or.inr (Or.inl rfl))), by rw [List.length_set]; exact hr1, by rw [sl_set (e' := mcC ((t : Nat) : Int) 0 ((0 : Nat) : Int) ou' (W2 : Int) 0 pl' .null (oV none) (oV none) .null lv' lf' rt') g16 rfl]; exact hr2, ⟨_, _, _, _, _, _, _, _, _, _, _, _, List.getElem?_set_self (hl_lt g16)⟩, sf2, by rw [List.getElem?_set_ne (by decide)]; exact g32⟩
  · rw [e]; exact gv_s16 hM2 hv
  · rw [e]; exact MH_s16 hM2 _
/-- a line that is no AMENDED one -/
theorem m_runD {EN : (Nat → Prop) → mj_H → Prop} {c : Int} {need : Nat} {F : Nat → DR} (hd : 2 ≤ d) (hEk : ENk EN) (hM : MH A h) (h16 : h[16]? = some (mcC tp dp ca ou (W : Int) er pl nw vx vy dg lv lf rt)) (h32 : h[32]? = some (cA 4 8192 sf0)) (hE : EN A h) (hn : need ≤ 250) (hc : 0 ≤ c ∧ c ≤ 2000) (hW : W ≤ 500000) (hD : ∀ P, DO xt (d - 1) op P A (h.set 16 (rz W op ou pl lv lf rt)) W EN 0 0 none none none A (h.set 16 (rz W op ou pl lv lf rt)) op none c need F) : pgV xt d 70 [.ref 16, .ref op] h (RUN A h W (F W)) := by
  refine m_run0 (by omega) h16 ?_
  obtain ⟨z, hz⟩ : ∃ z, z = rz W op ou pl lv lf rt := ⟨_, rfl⟩
  have hsl : mj_sl1 z = mj_sl1 (mcC tp dp ca ou (W : Int) er pl nw vx vy dg lv lf rt) := by rw [hz]; rfl
  have hMz := MH_s16 hM z
  show HD xt (d - 1) op 0 (h.set 16 (rz W op ou pl lv lf rt)) _
  have hD := hD (fun r h' => ∃ x, r = some x ∧ RUN A h W (F W) x h')
  rw [← hz] at hD ⊢
  have h16z : (h.set 16 z)[16]? = some z := List.getElem?_set_self (hl_lt h16)
  have h32z : (h.set 16 z)[32]? = some (cA 4 8192 sf0) := by rw [List.getElem?_set_ne (by decide)]; exact h32
  refine hD A (h.set 16 z) 0 W 0 sf0 (kpA_rf _ _) (EN_s16 hEk hM hE) ⟨hMz, ⟨(newA_same rfl).symm, MF_rf _ _, Nat.le_refl _, Nat.le_refl _⟩, h32z, ⟨pl, ou, lv, lf, rt, by rw [h16z, hz], fun q => absurd q (Nat.lt_irrefl 0)⟩, fun _ => rfl⟩ (fun e he => absurd he (by omega)) (by omega) (by omega) ?_
  rcases hr : F W with ⟨W', e | v⟩
  · exact run_KE hM h16 hsl (fun h' hR => ⟨_, rfl, hR⟩)
  · intro h2 st2 sf2 q y1 y2 y3 y4 y5 y6
    obtain ⟨m1, ⟨b1, b2, b3, b4⟩, g32, ⟨pl', ou', lv', lf', rt', g16, -⟩, -⟩ := y2
    have eA : newA A (h.set 16 z) h2 = newA A h h2 := by unfold newA; rw [List.length_set]
    rw [eA] at m1 y5
    rw [List.length_set] at b3
    rw [sl_set h16 hsl] at b4
    have y6 : (st2 : Int) + 300 * (W' : Int) ≤ ((0 : Nat) : Int) + 300 * (W : Int) + c := y6
    exact run_KV (t := 0) (by omega) h16 hsl m1 y1 (by omega) (by omega) g16 g32 (by omega) y4 y5 (by omega) (fun h' hR => ⟨_, rfl, hR⟩)
end rune
