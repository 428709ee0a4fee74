/-- only the handles that serve as views have changed -/
def vw3 (s t : RS) : Prop := t.1 = s.1 ∧ t.2.1 = s.2.1 ∧ t.2.2.2 = s.2.2.2 ∧ (∀ k, k ≠ 1 → k ≠ 2 → t.2.2.1 k = s.2.2.1 k) ∧ ∀ j, 3 ≤ j → t.2.2.1 1 j = s.2.2.1 1 j ∧ t.2.2.1 2 j = s.2.2.1 2 j
theorem vw3_rf (s : RS) : vw3 s s := ⟨rfl, rfl, rfl, fun _ _ _ => rfl, fun _ _ => ⟨rfl, rfl⟩⟩
theorem vw3_tr {s t u : RS} (a : vw3 s t) (b : vw3 t u) : vw3 s u := by
  obtain ⟨a1, a2, a3, a4, a5⟩ := a
  obtain ⟨b1, b2, b3, b4, b5⟩ := b
  exact ⟨b1.trans a1, b2.trans a2, b3.trans a3, fun k c1 c2 => (b4 k c1 c2).trans (a4 k c1 c2), fun j hj => ⟨(b5 j hj).1.trans (a5 j hj).1, (b5 j hj).2.trans (a5 j hj).2⟩⟩
theorem vw3_of {s s1 : RS} {t : Nat} (ht : t < 3) (h : vwS s t s1) : vw3 s s1 := by
  obtain ⟨a1, a2, a3, a4, a5⟩ := h
  exact ⟨a1, a2, a3, a4, fun j hj => a5 j (by omega)⟩
theorem vw3_pre {s t : RS} (h : vw3 s t) : rpre s t := by
  obtain ⟨a1, a2, a3, a4, a5⟩ := h
  exact ⟨⟨by rw [a1]; exact Int.le_refl _, by rw [a1]; exact Int.le_refl _, fun hd h3 _ => a5 hd h3, fun k _ => by rw [a3]⟩, ⟨fun k _ _ _ _ _ => by rw [a1], a2, fun k c1 c2 _ _ _ => a4 k c1 c2, fun k _ => by rw [a3], fun j _ => by rw [a4 12 (by decide) (by decide)]⟩, by rw [a1], by rw [a1], by rw [a1], by rw [a1], by rw [a1], by rw [a1]⟩
theorem rB_vw {s t : RS} (h : vw3 s t) (hB : rB s) : rB t := by
  unfold rB
  rw [h.1]
  exact hB
theorem rv_vw {s s1 : RS} {t d q : Nat} {v : VV} (ht : t < 3) (h : vwS s t s1) (hq : q ≠ t) (hv : rv s d q v) : rv s1 d q v := by
  cases d with
  | zero => exact hv.elim
  | succ d =>
    have hx := (vw3_pre (vw3_of ht h)).1
    obtain ⟨a1, a2, a3, a4, a5⟩ := h
    obtain ⟨b1, b2, b3, fr, b4, b5, b6, b7⟩ := hv
    refine ⟨b1, by rw [a1]; exact b2, by rw [(a5 q hq).2]; exact b3, fr, by rw [(a5 q hq).1]; exact b4, by rw [a1]; exact b5, by rw [a3]; exact b6, fun z k hk => ?_⟩
    obtain ⟨p, p1, p2, p3⟩ := b7 z k hk
    exact ⟨p, p1, by rw [a3]; exact p2, rv_ext hx p1 p3⟩
/-- a value that is made, told by its state -/
theorem rres_mk {pre post : mj_H} {s t : RS} {e cb vb q : Nat} {place : Int} {w : VV} (hx : rext s t) (hf : rfr s t) (h3 : t.1 3 ≤ s.1 3 + (cb : Int)) (h4 : t.1 4 ≤ s.1 4 + (vb : Int)) (he : t.1 5 = 0) (h6 : t.1 6 = s.1 6) (hq : 3 ≤ q) (hv : rv t e q w) : rres pre post s e (.inr w) place cb vb (ii (q : Int)) (rS pre post t) := ⟨t, rfl, hx, hf, h3, h4, he, h6, q, hq, rfl, hv⟩
/-- a row that has been filled, with views made between -/
theorem rres_rowv {pre post : mj_H} {s t : RS} {e q b n kind : Nat} {g : Nat → Int64} {place : Int} {w : VV} {cb vb : Nat} (hvw : vw3 (fillS (rowS s q b (kind : Int) (n : Int)) b n g) t) (hq : s.1 4 = (q : Int)) (hq3 : 3 ≤ q) (hb : s.1 3 = (b : Int)) (he : s.1 5 = 0) (hw : vw1 w) (h7 : vk w ≠ 7) (h6 : vk w ≠ 6) (hk : vk w = kind) (hm : vm w = n) (hc : vc w = 0) (hf : ∀ k, k < n → g k = vn w k) (hcb : n ≤ cb) (hvb : 1 ≤ vb) : rres pre post s (e + 1) (.inr w) place cb vb (ii (q : Int)) (rS pre post t) := by
  obtain ⟨p1, p2, p3, p4, p5, p6, -, -⟩ := vw3_pre hvw
  refine rres_mk (rext_tr (rext_fill (rext_row hq hb _ (by omega)) (by omega) g) p1) (rfr_tr (rfr_tr (rfr_row s q b _ _) (rfr_fill _ b n g)) p2) ?_ ?_ ?_ ?_ hq3 (rv_ext p1 hq3 (rv_rowS hw h7 h6 hk hm hc hf))
  · rw [p3]; show (b : Int) + (n : Int) ≤ s.1 3 + (cb : Int); omega
  · rw [p4]; show (q : Int) + 1 ≤ s.1 4 + (vb : Int); omega
  · rw [p5]; exact he
  · rw [p6]; rfl
theorem fill_vw {pre post : mj_H} {T t : RS} {b k : Nat} {g : Nat → Int64} {x : Int64} (h : vw3 (fillS T b k g) t) : ∃ u, rI pre post t.1 t.2.1 t.2.2.1 (va_up t.2.2.2 0 (va_up (t.2.2.2 0) (b + k) x)) = rS pre post u ∧ vw3 (fillS T b (k + 1) (va_up g k x)) u := by
  obtain ⟨a1, a2, a3, a4, a5⟩ := h
  refine ⟨(t.1, t.2.1, t.2.2.1, va_up t.2.2.2 0 (va_up (t.2.2.2 0) (b + k) x)), rfl, a1, a2, ?_, a4, a5⟩
  show va_up t.2.2.2 0 (va_up (t.2.2.2 0) (b + k) x) = va_up T.2.2.2 0 (fb b (k + 1) (va_up g k x) (T.2.2.2 0))
  rw [a3]
  show va_up (va_up T.2.2.2 0 (fb b k g (T.2.2.2 0))) 0 (va_up (va_up T.2.2.2 0 (fb b k g (T.2.2.2 0)) 0) (b + k) x) = _
  rw [up_up, up_eq, fb_u]
set_option maxRecDepth 20000 in
theorem pm_X12_placeOf : mj_mmof pg_ms 269 = some ((⟨"ArrayCalculatorModel", "placeOf", "(II)I"⟩, prog_14_method_58_code, 4, (Option.some Jvm.ClassFile.FieldType.int)), 12, false, mj_dec prog_14_method_58_code) := rfl
theorem dm_X12_placeOf_0 : mj_dec prog_14_method_58_code 0 = some (.iconst 0, 1) := by decide +kernel
theorem dm_X12_placeOf_1 : mj_dec prog_14_method_58_code 1 = some (.istore_n 3, 1) := by decide +kernel
theorem dm_X12_placeOf_2 : mj_dec prog_14_method_58_code 2 = some (.iload_n 3, 1) := by decide +kernel
theorem dm_X12_placeOf_3 : mj_dec prog_14_method_58_code 3 = some (.aload_n 0, 1) := by decide +kernel
theorem dm_X12_placeOf_4 : mj_dec prog_14_method_58_code 4 = some (.iload_n 1, 1) := by decide +kernel
theorem dm_X12_placeOf_5 : mj_dec prog_14_method_58_code 5 = some (.invokevirtual 134, 3) := by decide +kernel
theorem dm_X12_placeOf_8 : mj_dec prog_14_method_58_code 8 = some (.if_icmp .ge 24, 3) := by decide +kernel
theorem dm_X12_placeOf_11 : mj_dec prog_14_method_58_code 11 = some (.aload_n 0, 1) := by decide +kernel
theorem dm_X12_placeOf_12 : mj_dec prog_14_method_58_code 12 = some (.aload_n 0, 1) := by decide +kernel
theorem dm_X12_placeOf_13 : mj_dec prog_14_method_58_code 13 = some (.iload_n 1, 1) := by decide +kernel
theorem dm_X12_placeOf_14 : mj_dec prog_14_method_58_code 14 = some (.iload_n 3, 1) := by decide +kernel
theorem dm_X12_placeOf_15 : mj_dec prog_14_method_58_code 15 = some (.iconst 0, 1) := by decide +kernel
theorem dm_X12_placeOf_16 : mj_dec prog_14_method_58_code 16 = some (.invokevirtual 159, 3) := by decide +kernel
theorem dm_X12_placeOf_19 : mj_dec prog_14_method_58_code 19 = some (.iload_n 2, 1) := by decide +kernel
theorem dm_X12_placeOf_20 : mj_dec prog_14_method_58_code 20 = some (.invokevirtual 177, 3) := by decide +kernel
theorem dm_X12_placeOf_23 : mj_dec prog_14_method_58_code 23 = some (.ifCond .ne 9, 3) := by decide +kernel
theorem dm_X12_placeOf_26 : mj_dec prog_14_method_58_code 26 = some (.iinc 3 1, 3) := by decide +kernel
theorem dm_X12_placeOf_29 : mj_dec prog_14_method_58_code 29 = some (.goto (-27), 3) := by decide +kernel
theorem dm_X12_placeOf_32 : mj_dec prog_14_method_58_code 32 = some (.iload_n 3, 1) := by decide +kernel
theorem dm_X12_placeOf_33 : mj_dec prog_14_method_58_code 33 = some (.ireturn, 1) := by decide +kernel
theorem r_placeOf_ {xt : mj_X} {d e hd hd2 : Nat} {pre post : mj_H} {s : RS} {v w : VV} (hm : pre.length = 102) (hd1 : 3 * e + 10 ≤ d) (hB : rB s) (hv : rv s (e + 1) hd v) (hh3 : 3 ≤ hd) (hw : rv s (e + 1) hd2 w) (hh4 : hd2 ≠ 0) : pgV xt d 269 [.ref 102, ii (hd : Int), ii (hd2 : Int)] (rS pre post s) (fun x h' => ∃ t, x = ii ((fstN (fun k => vsame (e + 1) (vit v k) w) (vm v) : Nat) : Int) ∧ h' = rS pre post t ∧ vw3 s t) := by
  have hB0 := hB
  obtain ⟨hB1, hB2, hB3, hB4⟩ := hB
  obtain ⟨fr, hfr, hsh, hlt, hcl, hvk, hvm, hvc, hvq, hvcl⟩ := rv_val hv
  obtain ⟨fw, hfw, hshw, hltw, hclw, hwk, hwm, hwc, hwq, hwcl⟩ := rv_val hw
  refine x_enter pm_X12_placeOf (L0 := [(0, .ref 102), (1, ii (hd : Int)), (2, ii (hd2 : Int))]) rfl (Nat.le_of_ble_eq_true rfl) (by omega) ?_
  refine me0 (pc' := 1) (S' := [ii 0]) dm_X12_placeOf_0 rfl rfl rfl rfl ?_
  refine me1 (pc' := 2) (L' := [(3, ii 0), (0, .ref 102), (1, ii (hd : Int)), (2, ii (hd2 : Int))]) (S' := []) dm_X12_placeOf_1 rfl rfl rfl rfl ?_
  have lp2 : ∀ (n2 : Nat) (k : Nat) (t : RS), vm v - k = n2 → (k ≤ vm v) → (vw3 s t) → (rv t (e + 1) hd2 w) → (∀ j, j < k → (fun k => vsame (e + 1) (vit v k) w) j = false) → pgE xt (d - 1) 12 4 false (Option.some Jvm.ClassFile.FieldType.int) (mj_dec prog_14_method_58_code) 2 [(0, .ref 102), (1, ii (hd : Int)), (2, ii (hd2 : Int)), (3, ii ((k : Nat) : Int))] [] (rI pre post t.1 t.2.1 t.2.2.1 t.2.2.2) (fun r h' => ∃ x, r = some x ∧ ∃ t, x = ii ((fstN (fun k => vsame (e + 1) (vit v k) w) (vm v) : Nat) : Int) ∧ h' = rS pre post t ∧ vw3 s t) := by
    intro n2
    induction n2 using Nat.strongRecOn with
    | ind n2 ih2 =>
      intro k t hm2 hk hvw hwt hno
      have hvt := rv_ext (vw3_pre hvw).1 hh3 hv
      have hBt := rB_vw hvw hB0
      have ht4 : t.1 4 = s.1 4 := by rw [hvw.1]
      refine me1 (pc' := 3) (L' := [(0, .ref 102), (1, ii (hd : Int)), (2, ii (hd2 : Int)), (3, ii ((k : Nat) : Int))]) (S' := [ii ((k : Nat) : Int)]) dm_X12_placeOf_2 rfl rfl rfl rfl ?_
      refine me1 (pc' := 4) (L' := [(0, .ref 102), (1, ii (hd : Int)), (2, ii (hd2 : Int)), (3, ii ((k : Nat) : Int))]) (S' := [.ref 102, ii ((k : Nat) : Int)]) dm_X12_placeOf_3 rfl rfl rfl rfl ?_
      refine me1 (pc' := 5) (L' := [(0, .ref 102), (1, ii (hd : Int)), (2, ii (hd2 : Int)), (3, ii ((k : Nat) : Int))]) (S' := [ii (hd : Int), .ref 102, ii ((k : Nat) : Int)]) dm_X12_placeOf_4 rfl rfl rfl rfl ?_
      refine x_cp (pc' := 8) (v := ii (vm v : Int)) (rest := [ii ((k : Nat) : Int)]) dm_X12_placeOf_5 rfl (q_inv (As := [ii (hd : Int)]) (S := [ii ((k : Nat) : Int)]) hm rfl rfl rfl) rfl rfl rfl (r_many_ (s := t) hm (by omega) hBt hvt) ?_
      refine y_2ge (a := ((k : Nat) : Int)) (b := (vm v : Int)) (t := 32) (pc' := 11) dm_X12_placeOf_8 rfl rfl (by omega) (fun hb1 => ?_) (fun hb1 => ?_)
      · refine me1 (pc' := 33) (L' := [(0, .ref 102), (1, ii (hd : Int)), (2, ii (hd2 : Int)), (3, ii ((k : Nat) : Int))]) (S' := [ii ((k : Nat) : Int)]) dm_X12_placeOf_32 rfl rfl rfl rfl ?_
        refine y_ret (r := some (ii ((k : Nat) : Int))) dm_X12_placeOf_33 rfl rfl rfl ?_
        have hkn : k = vm v := by omega
        rw [show ((k : Nat) : Int) = ((fstN (fun k => vsame (e + 1) (vit v k) w) (vm v) : Nat) : Int) by rw [fstN_no (fun j hj => hno j (by omega)), hkn]]
        exact ⟨_, rfl, t, rfl, rfl, hvw⟩
      · refine me1 (pc' := 12) (L' := [(0, .ref 102), (1, ii (hd : Int)), (2, ii (hd2 : Int)), (3, ii ((k : Nat) : Int))]) (S' := [.ref 102]) dm_X12_placeOf_11 rfl rfl rfl rfl ?_
        refine me1 (pc' := 13) (L' := [(0, .ref 102), (1, ii (hd : Int)), (2, ii (hd2 : Int)), (3, ii ((k : Nat) : Int))]) (S' := [.ref 102, .ref 102]) dm_X12_placeOf_12 rfl rfl rfl rfl ?_
        refine me1 (pc' := 14) (L' := [(0, .ref 102), (1, ii (hd : Int)), (2, ii (hd2 : Int)), (3, ii ((k : Nat) : Int))]) (S' := [ii (hd : Int), .ref 102, .ref 102]) dm_X12_placeOf_13 rfl rfl rfl rfl ?_
        refine me1 (pc' := 15) (L' := [(0, .ref 102), (1, ii (hd : Int)), (2, ii (hd2 : Int)), (3, ii ((k : Nat) : Int))]) (S' := [ii ((k : Nat) : Int), ii (hd : Int), .ref 102, .ref 102]) dm_X12_placeOf_14 rfl rfl rfl rfl ?_
        refine me0 (pc' := 16) (S' := [ii 0, ii ((k : Nat) : Int), ii (hd : Int), .ref 102, .ref 102]) dm_X12_placeOf_15 rfl rfl rfl rfl ?_
        refine x_cv (pc' := 19) (rest := [.ref 102]) dm_X12_placeOf_16 rfl (q_inv (As := [ii (hd : Int), ii ((k : Nat) : Int), ii 0]) (S := [.ref 102]) hm rfl rfl rfl) rfl rfl rfl (r_itemAt_ (s := t) (t := 0) hm (by omega) hBt hvt (by omega) (by omega) (by omega)) ?_
        rintro _ _ ⟨p, s1, rfl, rfl, hpv, hws, hp3⟩
        refine me1 (pc' := 20) (L' := [(0, .ref 102), (1, ii (hd : Int)), (2, ii (hd2 : Int)), (3, ii ((k : Nat) : Int))]) (S' := [ii (hd2 : Int), ii (p : Int), .ref 102]) dm_X12_placeOf_19 rfl rfl rfl rfl ?_
        refine x_cp (pc' := 23) (v := zz (vsame (e + 1) (vit v k) w)) (rest := []) dm_X12_placeOf_20 rfl (q_inv (As := [ii (p : Int), ii (hd2 : Int)]) (S := []) hm rfl rfl rfl) rfl rfl rfl (r_isSame_ hm (rB_vw (vw3_of (by omega) hws) hBt) (e + 1) (by omega) hpv (rv_vw (by omega) hws hh4 hwt)) ?_
        refine y_zne (c := vsame (e + 1) (vit v k) w) (t := 32) (pc' := 26) dm_X12_placeOf_23 rfl rfl (fun hb2 => ?_) (fun hb2 => ?_)
        · have hns : (fun k => vsame (e + 1) (vit v k) w) k = true := hb2
          refine me1 (pc' := 33) (L' := [(0, .ref 102), (1, ii (hd : Int)), (2, ii (hd2 : Int)), (3, ii ((k : Nat) : Int))]) (S' := [ii ((k : Nat) : Int)]) dm_X12_placeOf_32 rfl rfl rfl rfl ?_
          refine y_ret (r := some (ii ((k : Nat) : Int))) dm_X12_placeOf_33 rfl rfl rfl ?_
          rw [show ((k : Nat) : Int) = ((fstN (fun k => vsame (e + 1) (vit v k) w) (vm v) : Nat) : Int) by rw [fstN_at (by omega) hno hns]]
          exact ⟨_, rfl, s1, rfl, rfl, vw3_tr hvw (vw3_of (by omega) hws)⟩
        · have hns : (fun k => vsame (e + 1) (vit v k) w) k = false := hb2
          refine y_iinc (pc' := 29) (L' := [(3, ii (((k : Nat) : Int) + 1)), (0, .ref 102), (1, ii (hd : Int)), (2, ii (hd2 : Int))]) dm_X12_placeOf_26 (y_incp (a := ((k : Nat) : Int)) (c := 1) rfl rfl (by decide)) rfl ?_
          refine me2 (pc' := 2) (S' := []) dm_X12_placeOf_29 rfl rfl rfl ?_
          exact pg_sub (L := [(0, .ref 102), (1, ii (hd : Int)), (2, ii (hd2 : Int)), (3, ii (((k + 1) : Nat) : Int))]) rfl rfl rfl (ih2 (vm v - (k + 1)) (by omega) (k + 1) s1 rfl (by omega) (vw3_tr hvw (vw3_of (by omega) hws)) (rv_vw (by omega) hws hh4 hwt) (fun j hj => by by_cases z : j = k; (subst z; exact hns); exact hno j (by omega)))
  exact pg_sub (L := [(0, .ref 102), (1, ii (hd : Int)), (2, ii (hd2 : Int)), (3, ii ((0 : Nat) : Int))]) rfl rfl rfl (lp2 _ 0 s rfl (Nat.zero_le _) (vw3_rf s) hw (fun j hj => absurd hj (Nat.not_lt_zero j)))
