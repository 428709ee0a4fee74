/-! the reference: amending -/
theorem fill_vwg {pre post : mj_H} {T t : RS} {b N j : Nat} {g : Nat → Int64} {x : Int64} (h : vw3 (fillS T b N g) t) (hj : j < N) : ∃ u, rI pre post t.1 t.2.1 t.2.2.1 (va_up t.2.2.2 0 (va_up (t.2.2.2 0) (b + j) x)) = rS pre post u ∧ vw3 (fillS T b N (va_up g j x)) u ∧ u.2.2.1 = t.2.2.1 := by
  obtain ⟨a1, a2, a3, a4, a5⟩ := h
  refine ⟨(t.1, t.2.1, t.2.2.1, va_up t.2.2.2 0 (va_up (t.2.2.2 0) (b + j) x)), rfl, ⟨a1, a2, ?_, a4, a5⟩, rfl⟩
  show va_up t.2.2.2 0 (va_up (t.2.2.2 0) (b + j) x) = va_up T.2.2.2 0 (fb b N (va_up g j x) (T.2.2.2 0))
  rw [a3]
  show va_up (va_up T.2.2.2 0 (fb b N g (T.2.2.2 0))) 0 (va_up (va_up T.2.2.2 0 (fb b N g (T.2.2.2 0)) 0) (b + j) x) = _
  rw [up_up, up_eq, fb_g _ _ _ hj]
theorem rres_tabv {pre post : mj_H} {s t : RS} {e q b r c : Nat} {g : Nat → Int64} {place : Int} {w : VV} {cb vb : Nat} (hvw : vw3 (fillS (tabS s q b (r : Int) (c : Int)) b (r * c) g) t) (hq : s.1 4 = (q : Int)) (hq3 : 3 ≤ q) (hb : s.1 3 = (b : Int)) (he : s.1 5 = 0) (hw : vw1 w) (hk : vk w = 6) (hm : vm w = r) (hc : vc w = c) (hf : ∀ k, k < r * c → g k = vn w k) (hcb : r * c ≤ cb) (hvb : 1 ≤ vb) : rres pre post s (e + 1) (.inr w) place cb vb (ii (q : Int)) (rS pre post t) := by
  obtain ⟨p1, p2, p3, p4, p5, p6, -, -⟩ := vw3_pre hvw
  have hqw : vq w = r * c := by unfold vq; rw [if_pos hk, hm, hc]
  have hrc : (r : Int) * (c : Int) = ((r * c : Nat) : Int) := (Int.natCast_mul r c).symm
  have hr1 : r * c ≤ rcb (.inr w) cb := rcb_ge hcb (by unfold vcl; rw [if_neg (by omega)]; omega)
  have hr2 := rvb_ge (o := .inr w) hvb
  have hv : rv (fillS (tabS s q b (r : Int) (c : Int)) b (r * c) g) (e + 1) q w := by
    refine rv_flat (fr := b) hw (by omega) ?_ ?_ ?_ ?_ (fun k hk2 => ?_)
    · show (q : Int) < (q : Int) + 1; omega
    · show va_up (s.2.2.1 1) q _ q = _; rw [up_eq]
    · show va_up (s.2.2.1 2) q _ q = _; rw [up_eq, hk, hm, hc]; omega
    · show (b : Int) + (vq w : Int) ≤ (b : Int) + (r : Int) * (c : Int); omega
    · rw [fill_at (by omega), hf k (by omega)]
  refine rres_mk (rext_tr (rext_fill (rext_tab hq hb (by omega)) (by omega) g) p1) (rfr_tr (rfr_tr (rfr_tab s q b _ _) (rfr_fill _ b _ g)) p2) ?_ ?_ ?_ ?_ hq3 (rv_ext p1 hq3 hv)
  · rw [p3]; show (b : Int) + (r : Int) * (c : Int) ≤ s.1 3 + ((rcb (.inr w) cb : Nat) : Int); omega
  · rw [p4]; show (q : Int) + 1 ≤ s.1 4 + ((rvb (.inr w) vb : Nat) : Int); omega
  · rw [p5]; exact he
  · rw [p6]; rfl
/-- a value whose first cells stand below b -/
def rvB (s : RS) (e q : Nat) (v : VV) (b : Nat) : Prop := rv s (e + 1) q v ∧ ∃ f : Nat, s.2.2.1 1 q = (f : Int) ∧ f + vcl v ≤ b
theorem rvB_of {s : RS} {e q b : Nat} {v : VV} (h : rv s (e + 1) q v) (hb : s.1 3 = (b : Int)) : rvB s e q v b := by
  obtain ⟨h1, h2, h3, f, h4, h5, h6⟩ := id h
  exact ⟨h, f, h4, by omega⟩
theorem rvB_ext {s t : RS} {e q b : Nat} {v : VV} (x : rext s t) (hq : 3 ≤ q) (h : rvB s e q v b) : rvB t e q v b := by
  obtain ⟨h1, f, h2, h3⟩ := h
  exact ⟨rv_ext x hq h1, f, by rw [(x.2.2.1 q hq h1.2.1).1]; exact h2, h3⟩
/-- a child, as it stood ahead of what was made since -/
theorem rv_childQ {s0 s : RS} {e hd b k : Nat} {v : VV} (h : rv s0 (e + 1) hd v) (h3 : 3 ≤ hd) (hb : s0.1 3 = (b : Int)) (h7 : vk v = 7) (hk : k < vm v) (x : rext s0 s) : ∃ fr q : Nat, s.2.2.1 1 hd = (fr : Int) ∧ s.2.2.2 0 (fr + k) = Int64.ofInt (q : Int) ∧ (fr + k : Int) < b ∧ 3 ≤ q ∧ (q : Int) < s0.1 4 ∧ rv s0 e q (vd v k) := by
  obtain ⟨h1, h2, h4, f, h5, h6, h8, h9⟩ := h
  obtain ⟨q, a1, a2, a3⟩ := h9 h7 k hk
  have hc : vcl v = vm v := by unfold vcl; rw [if_pos h7]
  refine ⟨f, q, by rw [(x.2.2.1 hd h3 h2).1]; exact h5, ?_, by omega, a1, ?_, a3⟩
  · rw [x.2.2.2 (f + k) (by push_cast; omega)]; exact a2
  · cases e with
    | zero => cases a3
    | succ e => exact a3.2.1
theorem vw3_rvB {s t : RS} {e q b : Nat} {v : VV} (x : vw3 s t) (hq : 3 ≤ q) (h : rvB s e q v b) : rvB t e q v b := rvB_ext (vw3_pre x).1 hq h
/-- what stands below b is read as before, though the cells from b on change -/
theorem rvB_fill {T t t2 : RS} {e q b N : Nat} {g : VV} {G G2 : Nat → Int64} (h : rvB t e q g b) (h7 : vk g ≠ 7) (a : vw3 (fillS T b N G) t) (c : vw3 (fillS T b N G2) t2) (hv : t2.2.2.1 = t.2.2.1) : rvB t2 e q g b := by
  obtain ⟨h1, f, h2, h3⟩ := h
  obtain ⟨k1, k2, k3, f2, k4, k5, k6, k8⟩ := h1
  have hf : f2 = f := by rw [h2] at k4; omega
  subst hf
  have e1 : t2.1 = t.1 := c.1.trans a.1.symm
  have hq7 : vcl g = vq g := by unfold vcl; rw [if_neg h7]
  refine ⟨rv_flat (fr := f2) k1 h7 (by rw [e1]; exact k2) (by rw [hv]; exact h2) (by rw [hv]; exact k3) (by rw [e1]; omega) (fun k hk => ?_), f2, by rw [hv]; exact h2, h3⟩
  have z1 : t.2.2.2 0 (f2 + k) = T.2.2.2 0 (f2 + k) := by
    rw [a.2.2.1]
    show va_up T.2.2.2 0 (fb b N G (T.2.2.2 0)) 0 (f2 + k) = _
    rw [up_eq]; unfold fb; rw [if_neg (by omega)]
  have z2 : t2.2.2.2 0 (f2 + k) = T.2.2.2 0 (f2 + k) := by
    rw [c.2.2.1]
    show va_up T.2.2.2 0 (fb b N G2 (T.2.2.2 0)) 0 (f2 + k) = _
    rw [up_eq]; unfold fb; rw [if_neg (by omega)]
  rw [z2, ← z1]
  exact k6 h7 k hk
/-- a table while lines are put: k lines are in -/
def amG (v w u : VV) (k : Nat) (G : Nat → Int64) : Prop := ∀ j, j < vm v * vc v → G j = tbn v (amJ (plw w) (gvF w u) k) j
/-- i numbers of the line k are in -/
def amH (v w u : VV) (k i : Nat) (G : Nat → Int64) : Prop := ∀ j, j < vm v * vc v → G j = if j / vc v = plw w k ∧ j % vc v < i then vn (gvF w u k) (j % vc v) else tbn v (amJ (plw w) (gvF w u) k) j
theorem amG_0 {v w u : VV} : amG v w u 0 (vn v) := fun j _ => (tbn_n rfl).symm
theorem amH_0 {v w u : VV} {k : Nat} {G : Nat → Int64} (h : amG v w u k G) : amH v w u k 0 G := fun j hj => by rw [if_neg (by omega)]; exact h j hj
theorem amH_s {v w u : VV} {k i : Nat} {G : Nat → Int64} (h : amH v w u k i G) (hi : i < vc v) : amH v w u k (i + 1) (va_up G (plw w k * vc v + i) (vn (gvF w u k) i)) := by
  intro j hj
  have hd := Nat.div_add_mod j (vc v)
  by_cases z : j = plw w k * vc v + i
  · have d1 : j / vc v = plw w k := by rw [z, Nat.add_comm, Nat.add_mul_div_right _ _ (by omega), Nat.div_eq_of_lt hi, Nat.zero_add]
    have d2 : j % vc v = i := by rw [z, Nat.add_comm, Nat.add_mul_mod_self_right, Nat.mod_eq_of_lt hi]
    rw [if_pos ⟨d1, by omega⟩, d2, z, up_eq]
  · rw [up_ne _ _ z, h j hj]
    by_cases y : j / vc v = plw w k ∧ j % vc v < i
    · rw [if_pos y, if_pos ⟨y.1, by omega⟩]
    · rw [if_neg y, if_neg (fun x => y ⟨x.1, by
        have e : j % vc v ≠ i := fun e => z (by rw [← hd, x.1, e, Nat.mul_comm])
        omega⟩)]
theorem amH_e {v w u : VV} {k : Nat} {G : Nat → Int64} (h : amH v w u k (vc v) G) (hc : 0 < vc v) : amG v w u (k + 1) G := by
  intro j hj
  rw [h j hj]
  by_cases y : j / vc v = plw w k
  · rw [if_pos ⟨y, Nat.mod_lt _ hc⟩]
    exact (tbn_s (by rw [amJ_s, if_pos y])).symm
  · rw [if_neg (fun z => y z.1)]
    unfold tbn
    rw [amJ_s, if_neg y]
theorem rv_fB {s0 s : RS} {e q b : Nat} {c : VV} (h : rv s0 e q c) (hb : s0.1 3 = (b : Int)) (x : rext s0 s) (hq : 3 ≤ q) : ∃ f : Nat, s.2.2.1 1 q = (f : Int) ∧ f + vcl c ≤ b := by
  cases e with
  | zero => cases h
  | succ e => exact (rvB_ext x hq (rvB_of h hb)).2
theorem r_valueQ_ {xt : mj_X} {d hd k fr2 q : Nat} {pre post : mj_H} {s : RS} (hm : pre.length = 102) (hd1 : 1 ≤ d) (hB : rB s) (hlt : (hd : Int) < s.1 4) (hfr2 : s.2.2.1 1 hd = (fr2 : Int)) (hfk : (fr2 : Int) + (k : Int) < 820000) (hnum : s.2.2.2 0 (fr2 + k) = Int64.ofInt (q : Int)) : pgP xt d 250 [.ref 102, ii (hd : Int), ii (k : Int)] (rS pre post s) (ii (q : Int)) := by
  obtain ⟨hB1, hB2, hB3, hB4⟩ := hB
  refine x_enter pm_X12_value (L0 := [(0, .ref 102), (1, ii (hd : Int)), (2, ii (k : Int))]) rfl (Nat.le_of_ble_eq_true rfl) (by omega) ?_
  refine me1 (pc' := 1) (L' := [(0, .ref 102), (1, ii (hd : Int)), (2, ii (k : Int))]) (S' := [.ref 102]) dm_X12_value_0 rfl rfl rfl rfl ?_
  refine me3 (pc' := 4) (S' := [.ref (102 + 1)]) dm_X12_value_1 (q_getr hm rfl (fun m i l => rg_0 m i l)) rfl rfl rfl ?_
  refine me1 (pc' := 5) (L' := [(0, .ref 102), (1, ii (hd : Int)), (2, ii (k : Int))]) (S' := [.ref 102, .ref (102 + 1)]) dm_X12_value_4 rfl rfl rfl rfl ?_
  refine me3 (pc' := 8) (S' := [.ref (102 + 2), .ref (102 + 1)]) dm_X12_value_5 (q_getr hm rfl (fun m i l => rg_1 m i l)) rfl rfl rfl ?_
  refine me1 (pc' := 9) (L' := [(0, .ref 102), (1, ii (hd : Int)), (2, ii (k : Int))]) (S' := [ii (hd : Int), .ref (102 + 2), .ref (102 + 1)]) dm_X12_value_8 rfl rfl rfl rfl ?_
  refine me3 (pc' := 10) (S' := [ii ((s.2.2.1 1) hd), .ref (102 + 1)]) dm_X12_value_9 (q_iald (v := (s.2.2.1 1) hd) (k := 1) (n := 310000) hm (fun m i l I J => rc_1 m i l I J) (by omega) (by omega) (by decide) rfl) rfl rfl rfl ?_
  refine me1 (pc' := 11) (L' := [(0, .ref 102), (1, ii (hd : Int)), (2, ii (k : Int))]) (S' := [ii (k : Int), ii ((s.2.2.1 1) hd), .ref (102 + 1)]) dm_X12_value_10 rfl rfl rfl rfl ?_
  refine y_iadd (a := (s.2.2.1 1) hd) (b := (k : Int)) dm_X12_value_11 (pc' := 12) rfl ?_
  refine me3 (pc' := 13) (S' := [.long ((s.2.2.2 0) ((((s.2.2.1 1) hd) + (k : Int)).toNat))]) dm_X12_value_12 (q_lald (v := (s.2.2.2 0) ((((s.2.2.1 1) hd) + (k : Int)).toNat)) (k := 0) (n := 820000) hm (fun m i l I J => rc_0 m i l I J) (by omega) (by omega) (by decide) rfl) rfl rfl rfl ?_
  refine y_l2i (a := (q : Int)) dm_X12_value_13 (pc' := 14) rfl (by rw [hfr2, show ((fr2 : Int) + (k : Int)).toNat = fr2 + k by omega, hnum, Int64.toInt32_ofInt]) ?_
  refine y_ret (r := some (ii (q : Int))) dm_X12_value_14 rfl rfl rfl ?_
  exact ⟨congrArg some (n_ii (by omega)), rfl⟩
theorem r_itemAtB_ {xt : mj_X} {d e hd b k : Nat} {pre post : mj_H} {s0 s : RS} {v : VV} (hm : pre.length = 102) (hd1 : 2 ≤ d) (hB : rB s) (hv0 : rv s0 (e + 1) hd v) (hh3 : 3 ≤ hd) (hx : rext s0 s) (hb0 : s0.1 3 = (b : Int)) (hk : vk v ≤ 1 ∨ k < vm v) (hk2 : k ≤ 120) : pgV xt d 262 [.ref 102, ii (hd : Int), ii (k : Int), ii 0] (rS pre post s) (fun x h' => ∃ q s1, x = ii ((q : Nat) : Int) ∧ h' = rS pre post s1 ∧ rvB s1 e q (vit v k) b ∧ vwS s 0 s1 ∧ (3 ≤ q ∨ q = 0)) := by
  have hv : rv s (e + 1) hd v := rv_ext hx hh3 hv0
  have hBv := rvB_ext hx hh3 (rvB_of hv0 hb0)
  obtain ⟨_, f0, hf0, hf0b⟩ := id hBv
  have hB0 := hB
  have hnum : vk v ≠ 7 → ∀ k, k < vq v → s.2.2.2 0 ((s.2.2.1 1 hd).toNat + k) = vn v k := by
    obtain ⟨-, -, -, fr9, h1, -, h2, -⟩ := hv
    rw [h1]; exact h2
  obtain ⟨hB1, hB2, hB3, hB4⟩ := hB
  obtain ⟨fr, hfr, hsh, hlt, hcl, hvk, hvm, hvc, hvq, hvcl⟩ := rv_val hv
  rw [hfr, Int.toNat_natCast] at hnum
  have hmb := mulb 120 12 (a := k) (b := vc v) (by omega) hvc
  have hff : fr = f0 := by omega
  have hx4 := hx.1
  have hx31 := hx.2.1
  refine x_enter pm_X12_itemAt (L0 := [(0, .ref 102), (1, ii (hd : Int)), (2, ii (k : Int)), (3, ii 0)]) rfl (Nat.le_of_ble_eq_true rfl) (by omega) ?_
  refine me1 (pc' := 1) (L' := [(0, .ref 102), (1, ii (hd : Int)), (2, ii (k : Int)), (3, ii 0)]) (S' := [.ref 102]) dm_X12_itemAt_0 rfl rfl rfl rfl ?_
  refine me1 (pc' := 2) (L' := [(0, .ref 102), (1, ii (hd : Int)), (2, ii (k : Int)), (3, ii 0)]) (S' := [ii (hd : Int), .ref 102]) dm_X12_itemAt_1 rfl rfl rfl rfl ?_
  refine x_cp (pc' := 5) (v := ii (vk v : Int)) (rest := []) dm_X12_itemAt_2 rfl (q_inv (As := [ii (hd : Int)]) (S := []) hm rfl rfl rfl) rfl rfl rfl (r_kindOf_ hm (by omega) hB0 hv) ?_
  refine me1 (pc' := 7) (L' := [(4, ii (vk v : Int)), (0, .ref 102), (1, ii (hd : Int)), (2, ii (k : Int)), (3, ii 0)]) (S' := []) dm_X12_itemAt_5 rfl rfl rfl rfl ?_
  refine me1 (pc' := 9) (L' := [(4, ii (vk v : Int)), (0, .ref 102), (1, ii (hd : Int)), (2, ii (k : Int)), (3, ii 0)]) (S' := [ii (vk v : Int)]) dm_X12_itemAt_7 rfl rfl rfl rfl ?_
  refine me0 (pc' := 11) (S' := [ii 7, ii (vk v : Int)]) dm_X12_itemAt_9 rfl rfl rfl rfl ?_
  refine y_2ne (a := (vk v : Int)) (b := 7) (t := 21) (pc' := 14) dm_X12_itemAt_11 rfl rfl (by omega) (fun hb1 => ?_) (fun hb1 => ?_)
  · refine me1 (pc' := 23) (L' := [(4, ii (vk v : Int)), (0, .ref 102), (1, ii (hd : Int)), (2, ii (k : Int)), (3, ii 0)]) (S' := [ii (vk v : Int)]) dm_X12_itemAt_21 rfl rfl rfl rfl ?_
    refine me0 (pc' := 24) (S' := [ii 1, ii (vk v : Int)]) dm_X12_itemAt_23 rfl rfl rfl rfl ?_
    refine y_2gt (a := (vk v : Int)) (b := 1) (t := 29) (pc' := 27) dm_X12_itemAt_24 rfl rfl (by omega) (fun hb2 => ?_) (fun hb2 => ?_)
    · refine me1 (pc' := 31) (L' := [(4, ii (vk v : Int)), (0, .ref 102), (1, ii (hd : Int)), (2, ii (k : Int)), (3, ii 0)]) (S' := [ii (vk v : Int)]) dm_X12_itemAt_29 rfl rfl rfl rfl ?_
      refine me0 (pc' := 33) (S' := [ii 6, ii (vk v : Int)]) dm_X12_itemAt_31 rfl rfl rfl rfl ?_
      refine y_2ne (a := (vk v : Int)) (b := 6) (t := 64) (pc' := 36) dm_X12_itemAt_33 rfl rfl (by omega) (fun hb3 => ?_) (fun hb3 => ?_)
      · refine me1 (pc' := 65) (L' := [(4, ii (vk v : Int)), (0, .ref 102), (1, ii (hd : Int)), (2, ii (k : Int)), (3, ii 0)]) (S' := [.ref 102]) dm_X12_itemAt_64 rfl rfl rfl rfl ?_
        refine me1 (pc' := 66) (L' := [(4, ii (vk v : Int)), (0, .ref 102), (1, ii (hd : Int)), (2, ii (k : Int)), (3, ii 0)]) (S' := [ii 0, .ref 102]) dm_X12_itemAt_65 rfl rfl rfl rfl ?_
        refine me1 (pc' := 68) (L' := [(4, ii (vk v : Int)), (0, .ref 102), (1, ii (hd : Int)), (2, ii (k : Int)), (3, ii 0)]) (S' := [ii (vk v : Int), ii 0, .ref 102]) dm_X12_itemAt_66 rfl rfl rfl rfl ?_
        refine me0 (pc' := 69) (S' := [ii 3, ii (vk v : Int), ii 0, .ref 102]) dm_X12_itemAt_68 rfl rfl rfl rfl ?_
        refine y_2ne (a := (vk v : Int)) (b := 3) (t := 76) (pc' := 72) dm_X12_itemAt_69 rfl rfl (by omega) (fun hb4 => ?_) (fun hb4 => ?_)
        · refine me0 (pc' := 77) (S' := [ii 0, ii 0, .ref 102]) dm_X12_itemAt_76 rfl rfl rfl rfl ?_
          refine me1 (pc' := 78) (L' := [(4, ii (vk v : Int)), (0, .ref 102), (1, ii (hd : Int)), (2, ii (k : Int)), (3, ii 0)]) (S' := [.ref 102, ii 0, ii 0, .ref 102]) dm_X12_itemAt_77 rfl rfl rfl rfl ?_
          refine me3 (pc' := 81) (S' := [.ref (102 + 2), ii 0, ii 0, .ref 102]) dm_X12_itemAt_78 (q_getr hm rfl (fun m i l => rg_1 m i l)) rfl rfl rfl ?_
          refine me1 (pc' := 82) (L' := [(4, ii (vk v : Int)), (0, .ref 102), (1, ii (hd : Int)), (2, ii (k : Int)), (3, ii 0)]) (S' := [ii (hd : Int), .ref (102 + 2), ii 0, ii 0, .ref 102]) dm_X12_itemAt_81 rfl rfl rfl rfl ?_
          refine me3 (pc' := 83) (S' := [ii ((s.2.2.1 1) hd), ii 0, ii 0, .ref 102]) dm_X12_itemAt_82 (q_iald (v := (s.2.2.1 1) hd) (k := 1) (n := 310000) hm (fun m i l I J => rc_1 m i l I J) (by omega) (by omega) (by decide) rfl) rfl rfl rfl ?_
          refine me1 (pc' := 84) (L' := [(4, ii (vk v : Int)), (0, .ref 102), (1, ii (hd : Int)), (2, ii (k : Int)), (3, ii 0)]) (S' := [ii (k : Int), ii ((s.2.2.1 1) hd), ii 0, ii 0, .ref 102]) dm_X12_itemAt_83 rfl rfl rfl rfl ?_
          refine y_iadd (a := (s.2.2.1 1) hd) (b := (k : Int)) dm_X12_itemAt_84 (pc' := 85) rfl ?_
          refine me0 (pc' := 86) (S' := [ii 1, ii (((s.2.2.1 1) hd) + (k : Int)), ii 0, ii 0, .ref 102]) dm_X12_itemAt_85 rfl rfl rfl rfl ?_
          refine x_cn (pc' := 89) (rest := []) dm_X12_itemAt_86 rfl (q_inv (As := [ii 0, ii 0, ii (((s.2.2.1 1) hd) + (k : Int)), ii 1]) (S := []) hm rfl rfl rfl) rfl rfl rfl (r_view_ (hd := 0) hm (by omega) (by omega) (by omega) (by omega)) ?_
          rintro _ rfl
          refine me1 (pc' := 90) (L' := [(4, ii (vk v : Int)), (0, .ref 102), (1, ii (hd : Int)), (2, ii (k : Int)), (3, ii 0)]) (S' := [ii 0]) dm_X12_itemAt_89 rfl rfl rfl rfl ?_
          refine y_ret (r := some (ii 0)) dm_X12_itemAt_90 rfl rfl rfl ?_
          have hvq2 : vq v = vm v := by unfold vq; rw [if_neg (by omega), if_neg (by omega)]
          have hvc2 : vcl v = vq v := by unfold vcl; rw [if_neg (by omega)]
          rw [vit_r (by omega) (by omega), if_neg (by omega)]
          refine ⟨_, rfl, 0, _, rfl, rfl, ⟨?_, fr + k, ?_, ?_⟩, vwS_view _ _ _ _ _, Or.inr rfl⟩
          · refine rv_flat (fr := fr + k) (vw1_one (by omega)) (by show ¬ 0 = 7; omega) (show ((0 : Nat) : Int) < s.1 4 by omega) ?_ ?_ ?_ (fun j hj => ?_)
            · show va_up (s.2.2.1 1) 0 _ 0 = _
              rw [up_eq, hfr]; push_cast; rfl
            · show va_up (s.2.2.1 2) 0 _ 0 = _
              rw [up_eq]
              rfl
            · show ((fr + k : Nat) : Int) + ((1 : Nat) : Int) ≤ s.1 3
              omega
            · have hj0 : j = 0 := by have hj1 : j < 1 := hj; omega
              subst hj0
              show s.2.2.2 0 (fr + k) = vn v k
              exact hnum (by omega) _ (by omega)
          · show va_up (s.2.2.1 1) 0 _ 0 = _
            rw [up_eq, hfr]; push_cast; rfl
          · show fr + k + 1 ≤ b
            omega
        · refine me0 (pc' := 73) (S' := [ii 1, ii 0, .ref 102]) dm_X12_itemAt_72 rfl rfl rfl rfl ?_
          refine me2 (pc' := 77) (S' := [ii 1, ii 0, .ref 102]) dm_X12_itemAt_73 rfl rfl rfl ?_
          refine me1 (pc' := 78) (L' := [(4, ii (vk v : Int)), (0, .ref 102), (1, ii (hd : Int)), (2, ii (k : Int)), (3, ii 0)]) (S' := [.ref 102, ii 1, ii 0, .ref 102]) dm_X12_itemAt_77 rfl rfl rfl rfl ?_
          refine me3 (pc' := 81) (S' := [.ref (102 + 2), ii 1, ii 0, .ref 102]) dm_X12_itemAt_78 (q_getr hm rfl (fun m i l => rg_1 m i l)) rfl rfl rfl ?_
          refine me1 (pc' := 82) (L' := [(4, ii (vk v : Int)), (0, .ref 102), (1, ii (hd : Int)), (2, ii (k : Int)), (3, ii 0)]) (S' := [ii (hd : Int), .ref (102 + 2), ii 1, ii 0, .ref 102]) dm_X12_itemAt_81 rfl rfl rfl rfl ?_
          refine me3 (pc' := 83) (S' := [ii ((s.2.2.1 1) hd), ii 1, ii 0, .ref 102]) dm_X12_itemAt_82 (q_iald (v := (s.2.2.1 1) hd) (k := 1) (n := 310000) hm (fun m i l I J => rc_1 m i l I J) (by omega) (by omega) (by decide) rfl) rfl rfl rfl ?_
          refine me1 (pc' := 84) (L' := [(4, ii (vk v : Int)), (0, .ref 102), (1, ii (hd : Int)), (2, ii (k : Int)), (3, ii 0)]) (S' := [ii (k : Int), ii ((s.2.2.1 1) hd), ii 1, ii 0, .ref 102]) dm_X12_itemAt_83 rfl rfl rfl rfl ?_
          refine y_iadd (a := (s.2.2.1 1) hd) (b := (k : Int)) dm_X12_itemAt_84 (pc' := 85) rfl ?_
          refine me0 (pc' := 86) (S' := [ii 1, ii (((s.2.2.1 1) hd) + (k : Int)), ii 1, ii 0, .ref 102]) dm_X12_itemAt_85 rfl rfl rfl rfl ?_
          refine x_cn (pc' := 89) (rest := []) dm_X12_itemAt_86 rfl (q_inv (As := [ii 0, ii 1, ii (((s.2.2.1 1) hd) + (k : Int)), ii 1]) (S := []) hm rfl rfl rfl) rfl rfl rfl (r_view_ (hd := 0) hm (by omega) (by omega) (by omega) (by omega)) ?_
          rintro _ rfl
          refine me1 (pc' := 90) (L' := [(4, ii (vk v : Int)), (0, .ref 102), (1, ii (hd : Int)), (2, ii (k : Int)), (3, ii 0)]) (S' := [ii 0]) dm_X12_itemAt_89 rfl rfl rfl rfl ?_
          refine y_ret (r := some (ii 0)) dm_X12_itemAt_90 rfl rfl rfl ?_
          have hvq2 : vq v = vm v := by unfold vq; rw [if_neg (by omega), if_neg (by omega)]
          have hvc2 : vcl v = vq v := by unfold vcl; rw [if_neg (by omega)]
          rw [vit_r (by omega) (by omega), if_pos (by omega)]
          refine ⟨_, rfl, 0, _, rfl, rfl, ⟨?_, fr + k, ?_, ?_⟩, vwS_view _ _ _ _ _, Or.inr rfl⟩
          · refine rv_flat (fr := fr + k) (vw1_one (by omega)) (by show ¬ 1 = 7; omega) (show ((0 : Nat) : Int) < s.1 4 by omega) ?_ ?_ ?_ (fun j hj => ?_)
            · show va_up (s.2.2.1 1) 0 _ 0 = _
              rw [up_eq, hfr]; push_cast; rfl
            · show va_up (s.2.2.1 2) 0 _ 0 = _
              rw [up_eq]
              rfl
            · show ((fr + k : Nat) : Int) + ((1 : Nat) : Int) ≤ s.1 3
              omega
            · have hj0 : j = 0 := by have hj1 : j < 1 := hj; omega
              subst hj0
              show s.2.2.2 0 (fr + k) = vn v k
              exact hnum (by omega) _ (by omega)
          · show va_up (s.2.2.1 1) 0 _ 0 = _
            rw [up_eq, hfr]; push_cast; rfl
          · show fr + k + 1 ≤ b
            omega
      · refine me1 (pc' := 37) (L' := [(4, ii (vk v : Int)), (0, .ref 102), (1, ii (hd : Int)), (2, ii (k : Int)), (3, ii 0)]) (S' := [.ref 102]) dm_X12_itemAt_36 rfl rfl rfl rfl ?_
        refine me1 (pc' := 38) (L' := [(4, ii (vk v : Int)), (0, .ref 102), (1, ii (hd : Int)), (2, ii (k : Int)), (3, ii 0)]) (S' := [ii 0, .ref 102]) dm_X12_itemAt_37 rfl rfl rfl rfl ?_
        refine me0 (pc' := 39) (S' := [ii 4, ii 0, .ref 102]) dm_X12_itemAt_38 rfl rfl rfl rfl ?_
        refine me1 (pc' := 40) (L' := [(4, ii (vk v : Int)), (0, .ref 102), (1, ii (hd : Int)), (2, ii (k : Int)), (3, ii 0)]) (S' := [.ref 102, ii 4, ii 0, .ref 102]) dm_X12_itemAt_39 rfl rfl rfl rfl ?_
        refine me3 (pc' := 43) (S' := [.ref (102 + 2), ii 4, ii 0, .ref 102]) dm_X12_itemAt_40 (q_getr hm rfl (fun m i l => rg_1 m i l)) rfl rfl rfl ?_
        refine me1 (pc' := 44) (L' := [(4, ii (vk v : Int)), (0, .ref 102), (1, ii (hd : Int)), (2, ii (k : Int)), (3, ii 0)]) (S' := [ii (hd : Int), .ref (102 + 2), ii 4, ii 0, .ref 102]) dm_X12_itemAt_43 rfl rfl rfl rfl ?_
        refine me3 (pc' := 45) (S' := [ii ((s.2.2.1 1) hd), ii 4, ii 0, .ref 102]) dm_X12_itemAt_44 (q_iald (v := (s.2.2.1 1) hd) (k := 1) (n := 310000) hm (fun m i l I J => rc_1 m i l I J) (by omega) (by omega) (by decide) rfl) rfl rfl rfl ?_
        refine me1 (pc' := 46) (L' := [(4, ii (vk v : Int)), (0, .ref 102), (1, ii (hd : Int)), (2, ii (k : Int)), (3, ii 0)]) (S' := [ii (k : Int), ii ((s.2.2.1 1) hd), ii 4, ii 0, .ref 102]) dm_X12_itemAt_45 rfl rfl rfl rfl ?_
        refine me1 (pc' := 47) (L' := [(4, ii (vk v : Int)), (0, .ref 102), (1, ii (hd : Int)), (2, ii (k : Int)), (3, ii 0)]) (S' := [.ref 102, ii (k : Int), ii ((s.2.2.1 1) hd), ii 4, ii 0, .ref 102]) dm_X12_itemAt_46 rfl rfl rfl rfl ?_
        refine me1 (pc' := 48) (L' := [(4, ii (vk v : Int)), (0, .ref 102), (1, ii (hd : Int)), (2, ii (k : Int)), (3, ii 0)]) (S' := [ii (hd : Int), .ref 102, ii (k : Int), ii ((s.2.2.1 1) hd), ii 4, ii 0, .ref 102]) dm_X12_itemAt_47 rfl rfl rfl rfl ?_
        refine x_cp (pc' := 51) (v := ii (vc v : Int)) (rest := [ii (k : Int), ii ((s.2.2.1 1) hd), ii 4, ii 0, .ref 102]) dm_X12_itemAt_48 rfl (q_inv (As := [ii (hd : Int)]) (S := [ii (k : Int), ii ((s.2.2.1 1) hd), ii 4, ii 0, .ref 102]) hm rfl rfl rfl) rfl rfl rfl (r_columns_ hm (by omega) hB0 hv) ?_
        refine y_imul (a := (k : Int)) (b := (vc v : Int)) dm_X12_itemAt_51 (pc' := 52) rfl ?_
        refine y_iadd (a := (s.2.2.1 1) hd) (b := (k : Int) * (vc v : Int)) dm_X12_itemAt_52 (pc' := 53) rfl ?_
        refine me1 (pc' := 54) (L' := [(4, ii (vk v : Int)), (0, .ref 102), (1, ii (hd : Int)), (2, ii (k : Int)), (3, ii 0)]) (S' := [.ref 102, ii (((s.2.2.1 1) hd) + ((k : Int) * (vc v : Int))), ii 4, ii 0, .ref 102]) dm_X12_itemAt_53 rfl rfl rfl rfl ?_
        refine me1 (pc' := 55) (L' := [(4, ii (vk v : Int)), (0, .ref 102), (1, ii (hd : Int)), (2, ii (k : Int)), (3, ii 0)]) (S' := [ii (hd : Int), .ref 102, ii (((s.2.2.1 1) hd) + ((k : Int) * (vc v : Int))), ii 4, ii 0, .ref 102]) dm_X12_itemAt_54 rfl rfl rfl rfl ?_
        refine x_cp (pc' := 58) (v := ii (vc v : Int)) (rest := [ii (((s.2.2.1 1) hd) + ((k : Int) * (vc v : Int))), ii 4, ii 0, .ref 102]) dm_X12_itemAt_55 rfl (q_inv (As := [ii (hd : Int)]) (S := [ii (((s.2.2.1 1) hd) + ((k : Int) * (vc v : Int))), ii 4, ii 0, .ref 102]) hm rfl rfl rfl) rfl rfl rfl (r_columns_ hm (by omega) hB0 hv) ?_
        refine x_cn (pc' := 61) (rest := []) dm_X12_itemAt_58 rfl (q_inv (As := [ii 0, ii 4, ii (((s.2.2.1 1) hd) + ((k : Int) * (vc v : Int))), ii (vc v : Int)]) (S := []) hm rfl rfl rfl) rfl rfl rfl (r_view_ (hd := 0) hm (by omega) (by omega) (by omega) (by omega)) ?_
        rintro _ rfl
        refine me2 (pc' := 89) (S' := []) dm_X12_itemAt_61 rfl rfl rfl ?_
        refine me1 (pc' := 90) (L' := [(4, ii (vk v : Int)), (0, .ref 102), (1, ii (hd : Int)), (2, ii (k : Int)), (3, ii 0)]) (S' := [ii 0]) dm_X12_itemAt_89 rfl rfl rfl rfl ?_
        refine y_ret (r := some (ii 0)) dm_X12_itemAt_90 rfl rfl rfl ?_
        have hk6 : vk v = 6 := by omega
        have hix := ixq (i := k) hk6 (by omega)
        have hvc2 : vcl v = vq v := by unfold vcl; rw [if_neg (by omega)]
        rw [vit_6 hk6]
        refine ⟨_, rfl, 0, _, rfl, rfl, ⟨?_, fr + k * vc v, ?_, ?_⟩, vwS_view _ _ _ _ _, Or.inr rfl⟩
        · refine rv_flat (fr := fr + k * vc v) (vw1_row (by omega) (by omega) (by omega)) (by show ¬ 4 = 7; omega) (show ((0 : Nat) : Int) < s.1 4 by omega) ?_ ?_ ?_ (fun j hj => ?_)
          · show va_up (s.2.2.1 1) 0 _ 0 = _
            rw [up_eq, hfr]; push_cast; rfl
          · show va_up (s.2.2.1 2) 0 _ 0 = _
            rw [up_eq]
            show (4 : Int) + (vc v : Int) * 8 = ((4 : Nat) : Int) + 8 * ((vc v : Nat) : Int) + 2048 * ((0 : Nat) : Int)
            omega
          · rw [vq_row (by omega)]
            show ((fr + k * vc v : Nat) : Int) + (vc v : Int) ≤ s.1 3
            omega
          · rw [vq_row (by omega)] at hj
            show s.2.2.2 0 (fr + k * vc v + j) = vn v (k * vc v + j)
            rw [Nat.add_assoc]
            exact hnum (by omega) _ (by omega)
        · show va_up (s.2.2.1 1) 0 _ 0 = _
          rw [up_eq, hfr]; push_cast; rfl
        · have hcr : vcl (vrow 4 (vc v) (fun j => vn v (k * vc v + j))) = vc v := by unfold vcl; rw [if_neg (by show ¬ 4 = 7; omega)]; exact vq_row (by omega)
          rw [hcr]; omega
    · refine me1 (pc' := 28) (L' := [(4, ii (vk v : Int)), (0, .ref 102), (1, ii (hd : Int)), (2, ii (k : Int)), (3, ii 0)]) (S' := [ii (hd : Int)]) dm_X12_itemAt_27 rfl rfl rfl rfl ?_
      refine y_ret (r := some (ii (hd : Int))) dm_X12_itemAt_28 rfl rfl rfl ?_
      rw [vit_1 (by omega)]
      exact ⟨_, rfl, hd, s, rfl, rfl, hBv, vwS_rf _ _, Or.inl hh3⟩
  · refine me1 (pc' := 15) (L' := [(4, ii (vk v : Int)), (0, .ref 102), (1, ii (hd : Int)), (2, ii (k : Int)), (3, ii 0)]) (S' := [.ref 102]) dm_X12_itemAt_14 rfl rfl rfl rfl ?_
    refine me1 (pc' := 16) (L' := [(4, ii (vk v : Int)), (0, .ref 102), (1, ii (hd : Int)), (2, ii (k : Int)), (3, ii 0)]) (S' := [ii (hd : Int), .ref 102]) dm_X12_itemAt_15 rfl rfl rfl rfl ?_
    refine me1 (pc' := 17) (L' := [(4, ii (vk v : Int)), (0, .ref 102), (1, ii (hd : Int)), (2, ii (k : Int)), (3, ii 0)]) (S' := [ii (k : Int), ii (hd : Int), .ref 102]) dm_X12_itemAt_16 rfl rfl rfl rfl ?_
    obtain ⟨fr9, q, hq1, hq2, hq4, hq3, hq5, hq6⟩ := rv_childQ (k := k) hv0 hh3 hb0 (by omega) (by omega) hx
    refine x_cp (pc' := 20) (v := ii (q : Int)) (rest := []) dm_X12_itemAt_17 rfl (q_inv (As := [ii (hd : Int), ii (k : Int)]) (S := []) hm rfl rfl rfl) rfl rfl rfl (r_valueQ_ (fr2 := fr9) (q := q) hm (by omega) hB0 (by omega) hq1 (by omega) hq2) ?_
    refine y_ret (r := some (ii (q : Int))) dm_X12_itemAt_20 rfl rfl rfl ?_
    rw [vit_7 (by omega)]
    exact ⟨_, rfl, q, s, rfl, rfl, ⟨rv_up (rv_ext hx hq3 hq6), rv_fB hq6 hb0 hx hq3⟩, vwS_rf _ _, Or.inl hq3⟩
theorem r_givenB_ {xt : mj_X} {d e hd2 hd3 b k : Nat} {pre post : mj_H} {s0 s : RS} {w u : VV} (hm : pre.length = 102) (hd1 : 3 ≤ d) (hB : rB s) (hw0 : rv s0 (e + 1) hd2 w) (hh4 : 3 ≤ hd2) (hu0 : rv s0 (e + 1) hd3 u) (hh5 : 3 ≤ hd3) (hx : rext s0 s) (hb0 : s0.1 3 = (b : Int)) (hk2 : k ≤ 120) (hk : (vk w ≤ 1 ∨ vk u ≤ 1) ∨ k < vm u) : pgV xt d 303 [.ref 102, ii (hd2 : Int), ii (hd3 : Int), ii (k : Int), ii 0] (rS pre post s) (fun x h' => ∃ q s1, x = ii ((q : Nat) : Int) ∧ h' = rS pre post s1 ∧ rvB s1 e q (gvF w u k) b ∧ vwS s 0 s1 ∧ (3 ≤ q ∨ q = 0)) := by
  have hw : rv s (e + 1) hd2 w := rv_ext hx hh4 hw0
  have hu : rv s (e + 1) hd3 u := rv_ext hx hh5 hu0
  have hB0 := hB
  obtain ⟨hB1, hB2, hB3, hB4⟩ := hB
  obtain ⟨fw, hfw, hshw, hltw, hclw, hwk, hwm, hwc, hwq, hwcl⟩ := rv_val hw
  obtain ⟨fu, hfu, hshu, hltu, hclu, huk, hum, huc, huq, hucl⟩ := rv_val hu
  refine x_enter pm_X12_given (L0 := [(0, .ref 102), (1, ii (hd2 : Int)), (2, ii (hd3 : Int)), (3, ii (k : Int)), (4, ii 0)]) rfl (Nat.le_of_ble_eq_true rfl) (by omega) ?_
  refine me1 (pc' := 1) (L' := [(0, .ref 102), (1, ii (hd2 : Int)), (2, ii (hd3 : Int)), (3, ii (k : Int)), (4, ii 0)]) (S' := [.ref 102]) dm_X12_given_0 rfl rfl rfl rfl ?_
  refine me1 (pc' := 2) (L' := [(0, .ref 102), (1, ii (hd2 : Int)), (2, ii (hd3 : Int)), (3, ii (k : Int)), (4, ii 0)]) (S' := [ii (hd2 : Int), .ref 102]) dm_X12_given_1 rfl rfl rfl rfl ?_
  refine x_cp (pc' := 5) (v := zz (decide (vk w ≤ 1))) (rest := []) dm_X12_given_2 rfl (q_inv (As := [ii (hd2 : Int)]) (S := []) hm rfl rfl rfl) rfl rfl rfl (r_isOne_ hm (by omega) hB0 hw) ?_
  refine y_zne (c := decide (vk w ≤ 1)) (t := 16) (pc' := 8) dm_X12_given_5 rfl rfl (fun hb1 => ?_) (fun hb1 => ?_)
  · replace hb1 := dT hb1
    refine me1 (pc' := 17) (L' := [(0, .ref 102), (1, ii (hd2 : Int)), (2, ii (hd3 : Int)), (3, ii (k : Int)), (4, ii 0)]) (S' := [ii (hd3 : Int)]) dm_X12_given_16 rfl rfl rfl rfl ?_
    refine me2 (pc' := 28) (S' := [ii (hd3 : Int)]) dm_X12_given_17 rfl rfl rfl ?_
    refine y_ret (r := some (ii (hd3 : Int))) dm_X12_given_28 rfl rfl rfl ?_
    exact ⟨_, rfl, hd3, s, rfl, rfl, by unfold gvF; rw [if_pos (by omega)]; exact rvB_ext hx hh5 (rvB_of hu0 hb0), vwS_rf s 0, Or.inl hh5⟩
  · replace hb1 := dF hb1
    refine me1 (pc' := 9) (L' := [(0, .ref 102), (1, ii (hd2 : Int)), (2, ii (hd3 : Int)), (3, ii (k : Int)), (4, ii 0)]) (S' := [.ref 102]) dm_X12_given_8 rfl rfl rfl rfl ?_
    refine me1 (pc' := 10) (L' := [(0, .ref 102), (1, ii (hd2 : Int)), (2, ii (hd3 : Int)), (3, ii (k : Int)), (4, ii 0)]) (S' := [ii (hd3 : Int), .ref 102]) dm_X12_given_9 rfl rfl rfl rfl ?_
    refine x_cp (pc' := 13) (v := zz (decide (vk u ≤ 1))) (rest := []) dm_X12_given_10 rfl (q_inv (As := [ii (hd3 : Int)]) (S := []) hm rfl rfl rfl) rfl rfl rfl (r_isOne_ hm (by omega) hB0 hu) ?_
    refine y_zeq (c := decide (vk u ≤ 1)) (t := 20) (pc' := 16) dm_X12_given_13 rfl rfl (fun hb2 => ?_) (fun hb2 => ?_)
    · replace hb2 := dF hb2
      refine me1 (pc' := 21) (L' := [(0, .ref 102), (1, ii (hd2 : Int)), (2, ii (hd3 : Int)), (3, ii (k : Int)), (4, ii 0)]) (S' := [.ref 102]) dm_X12_given_20 rfl rfl rfl rfl ?_
      refine me1 (pc' := 22) (L' := [(0, .ref 102), (1, ii (hd2 : Int)), (2, ii (hd3 : Int)), (3, ii (k : Int)), (4, ii 0)]) (S' := [ii (hd3 : Int), .ref 102]) dm_X12_given_21 rfl rfl rfl rfl ?_
      refine me1 (pc' := 23) (L' := [(0, .ref 102), (1, ii (hd2 : Int)), (2, ii (hd3 : Int)), (3, ii (k : Int)), (4, ii 0)]) (S' := [ii (k : Int), ii (hd3 : Int), .ref 102]) dm_X12_given_22 rfl rfl rfl rfl ?_
      refine me1 (pc' := 25) (L' := [(0, .ref 102), (1, ii (hd2 : Int)), (2, ii (hd3 : Int)), (3, ii (k : Int)), (4, ii 0)]) (S' := [ii 0, ii (k : Int), ii (hd3 : Int), .ref 102]) dm_X12_given_23 rfl rfl rfl rfl ?_
      refine x_cv (pc' := 28) (rest := []) dm_X12_given_25 rfl (q_inv (As := [ii (hd3 : Int), ii (k : Int), ii 0]) (S := []) hm rfl rfl rfl) rfl rfl rfl (r_itemAtB_ (s0 := s0) (b := b) (k := k) hm (by omega) hB0 hu0 hh5 hx hb0 (by omega) (by omega)) ?_
      rintro _ _ ⟨p1, s1, rfl, rfl, hpv1, hws1, hp1⟩
      refine y_ret (r := some (ii (p1 : Int))) dm_X12_given_28 rfl rfl rfl ?_
      exact ⟨_, rfl, p1, s1, rfl, rfl, by unfold gvF; rw [if_neg (by omega)]; exact hpv1, hws1, by omega⟩
    · replace hb2 := dT hb2
      refine me1 (pc' := 17) (L' := [(0, .ref 102), (1, ii (hd2 : Int)), (2, ii (hd3 : Int)), (3, ii (k : Int)), (4, ii 0)]) (S' := [ii (hd3 : Int)]) dm_X12_given_16 rfl rfl rfl rfl ?_
      refine me2 (pc' := 28) (S' := [ii (hd3 : Int)]) dm_X12_given_17 rfl rfl rfl ?_
      refine y_ret (r := some (ii (hd3 : Int))) dm_X12_given_28 rfl rfl rfl ?_
      exact ⟨_, rfl, hd3, s, rfl, rfl, by unfold gvF; rw [if_pos (by omega)]; exact rvB_ext hx hh5 (rvB_of hu0 hb0), vwS_rf s 0, Or.inl hh5⟩
