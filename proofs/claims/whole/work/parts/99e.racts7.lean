/-- only the handles that serve as views have changed -/
def vw3 (s t : RS) : Prop := t.1 = s.1 ∧ t.2.1 = s.2.1 ∧ t.2.2.2 = s.2.2.2 ∧ (∀ k, k ≠ 1 → k ≠ 2 → t.2.2.1 k = s.2.2.1 k) ∧ ∀ j, 3 ≤ j → t.2.2.1 1 j = s.2.2.1 1 j ∧ t.2.2.1 2 j = s.2.2.1 2 j
theorem vw3_rf (s : RS) : vw3 s s := ⟨rfl, rfl, rfl, fun _ _ _ => rfl, fun _ _ => ⟨rfl, rfl⟩⟩
theorem vw3_tr {s t u : RS} (a : vw3 s t) (b : vw3 t u) : vw3 s u := by
  obtain ⟨a1, a2, a3, a4, a5⟩ := a
  obtain ⟨b1, b2, b3, b4, b5⟩ := b
  exact ⟨b1.trans a1, b2.trans a2, b3.trans a3, fun k c1 c2 => (b4 k c1 c2).trans (a4 k c1 c2), fun j hj => ⟨(b5 j hj).1.trans (a5 j hj).1, (b5 j hj).2.trans (a5 j hj).2⟩⟩
theorem vw3_of {s s1 : RS} {t : Nat} (ht : t < 3) (h : vwS s t s1) : vw3 s s1 := by
  obtain ⟨a1, a2, a3, a4, a5⟩ := h
  exact ⟨a1, a2, a3, a4, fun j hj => a5 j (by omega)⟩
theorem vw3_pre {s t : RS} (h : vw3 s t) : rpre s t := by
  obtain ⟨a1, a2, a3, a4, a5⟩ := h
  exact ⟨⟨by rw [a1]; exact Int.le_refl _, by rw [a1]; exact Int.le_refl _, fun hd h3 _ => a5 hd h3, fun k _ => by rw [a3]⟩, ⟨fun k _ _ _ _ _ => by rw [a1], a2, fun k c1 c2 _ _ _ => a4 k c1 c2, fun k _ => by rw [a3], fun j _ => by rw [a4 12 (by decide) (by decide)]⟩, by rw [a1], by rw [a1], by rw [a1], by rw [a1], by rw [a1], by rw [a1]⟩
theorem rB_vw {s t : RS} (h : vw3 s t) (hB : rB s) : rB t := by
  unfold rB
  rw [h.1]
  exact hB
theorem rv_vw {s s1 : RS} {t d q : Nat} {v : VV} (ht : t < 3) (h : vwS s t s1) (hq : q ≠ t) (hv : rv s d q v) : rv s1 d q v := by
  cases d with
  | zero => exact hv.elim
  | succ d =>
    have hx := (vw3_pre (vw3_of ht h)).1
    obtain ⟨a1, a2, a3, a4, a5⟩ := h
    obtain ⟨b1, b2, b3, fr, b4, b5, b6, b7⟩ := hv
    refine ⟨b1, by rw [a1]; exact b2, by rw [(a5 q hq).2]; exact b3, fr, by rw [(a5 q hq).1]; exact b4, by rw [a1]; exact b5, by rw [a3]; exact b6, fun z k hk => ?_⟩
    obtain ⟨p, p1, p2, p3⟩ := b7 z k hk
    exact ⟨p, p1, by rw [a3]; exact p2, rv_ext hx p1 p3⟩
/-- a value that is made, told by its state -/
theorem rres_mk {pre post : mj_H} {s t : RS} {e cb vb q : Nat} {place : Int} {w : VV} (hx : rext s t) (hf : rfr s t) (h3 : t.1 3 ≤ s.1 3 + ((rcb (.inr w) cb : Nat) : Int)) (h4 : t.1 4 ≤ s.1 4 + ((rvb (.inr w) vb : Nat) : Int)) (he : t.1 5 = 0) (h6 : t.1 6 = s.1 6) (hq : 3 ≤ q) (hv : rv t e q w) : rres pre post s e (.inr w) place cb vb (ii (q : Int)) (rS pre post t) := ⟨t, rfl, hx, hf, h3, h4, he, h6, q, hq, rfl, hv⟩
/-- a row that has been filled, with views made between -/
theorem rres_rowv {pre post : mj_H} {s t : RS} {e q b n kind : Nat} {g : Nat → Int64} {place : Int} {w : VV} {cb vb : Nat} (hvw : vw3 (fillS (rowS s q b (kind : Int) (n : Int)) b n g) t) (hq : s.1 4 = (q : Int)) (hq3 : 3 ≤ q) (hb : s.1 3 = (b : Int)) (he : s.1 5 = 0) (hw : vw1 w) (h7 : vk w ≠ 7) (h6 : vk w ≠ 6) (hk : vk w = kind) (hm : vm w = n) (hc : vc w = 0) (hf : ∀ k, k < n → g k = vn w k) (hcb : n ≤ cb) (hvb : 1 ≤ vb) : rres pre post s (e + 1) (.inr w) place cb vb (ii (q : Int)) (rS pre post t) := by
  obtain ⟨p1, p2, p3, p4, p5, p6, -, -⟩ := vw3_pre hvw
  have hqw : vq w = n := by unfold vq; rw [if_neg h6, if_neg h7]; exact hm
  have hr1 : n ≤ rcb (.inr w) cb := rcb_ge hcb (by unfold vcl; rw [if_neg h7]; omega)
  have hr2 := rvb_ge (o := .inr w) hvb
  refine rres_mk (rext_tr (rext_fill (rext_row hq hb _ (by omega)) (by omega) g) p1) (rfr_tr (rfr_tr (rfr_row s q b _ _) (rfr_fill _ b n g)) p2) ?_ ?_ ?_ ?_ hq3 (rv_ext p1 hq3 (rv_rowS hw h7 h6 hk hm hc hf))
  · rw [p3]; show (b : Int) + (n : Int) ≤ s.1 3 + ((rcb (.inr w) cb : Nat) : Int); omega
  · rw [p4]; show (q : Int) + 1 ≤ s.1 4 + ((rvb (.inr w) vb : Nat) : Int); omega
  · rw [p5]; exact he
  · rw [p6]; rfl
theorem fill_vw {pre post : mj_H} {T t : RS} {b k : Nat} {g : Nat → Int64} {x : Int64} (h : vw3 (fillS T b k g) t) : ∃ u, rI pre post t.1 t.2.1 t.2.2.1 (va_up t.2.2.2 0 (va_up (t.2.2.2 0) (b + k) x)) = rS pre post u ∧ vw3 (fillS T b (k + 1) (va_up g k x)) u := by
  obtain ⟨a1, a2, a3, a4, a5⟩ := h
  refine ⟨(t.1, t.2.1, t.2.2.1, va_up t.2.2.2 0 (va_up (t.2.2.2 0) (b + k) x)), rfl, a1, a2, ?_, a4, a5⟩
  show va_up t.2.2.2 0 (va_up (t.2.2.2 0) (b + k) x) = va_up T.2.2.2 0 (fb b (k + 1) (va_up g k x) (T.2.2.2 0))
  rw [a3]
  show va_up (va_up T.2.2.2 0 (fb b k g (T.2.2.2 0))) 0 (va_up (va_up T.2.2.2 0 (fb b k g (T.2.2.2 0)) 0) (b + k) x) = _
  rw [up_up, up_eq, fb_u]
set_option maxRecDepth 20000 in
theorem pm_X12_placeOf : mj_mmof pg_ms 269 = some ((⟨"ArrayCalculatorModel", "placeOf", "(II)I"⟩, prog_14_method_58_code, 4, (Option.some Jvm.ClassFile.FieldType.int)), 12, false, mj_dec prog_14_method_58_code) := rfl
theorem dm_X12_placeOf_0 : mj_dec prog_14_method_58_code 0 = some (.iconst 0, 1) := by decide +kernel
theorem dm_X12_placeOf_1 : mj_dec prog_14_method_58_code 1 = some (.istore_n 3, 1) := by decide +kernel
theorem dm_X12_placeOf_2 : mj_dec prog_14_method_58_code 2 = some (.iload_n 3, 1) := by decide +kernel
theorem dm_X12_placeOf_3 : mj_dec prog_14_method_58_code 3 = some (.aload_n 0, 1) := by decide +kernel
theorem dm_X12_placeOf_4 : mj_dec prog_14_method_58_code 4 = some (.iload_n 1, 1) := by decide +kernel
theorem dm_X12_placeOf_5 : mj_dec prog_14_method_58_code 5 = some (.invokevirtual 134, 3) := by decide +kernel
theorem dm_X12_placeOf_8 : mj_dec prog_14_method_58_code 8 = some (.if_icmp .ge 24, 3) := by decide +kernel
theorem dm_X12_placeOf_11 : mj_dec prog_14_method_58_code 11 = some (.aload_n 0, 1) := by decide +kernel
theorem dm_X12_placeOf_12 : mj_dec prog_14_method_58_code 12 = some (.aload_n 0, 1) := by decide +kernel
theorem dm_X12_placeOf_13 : mj_dec prog_14_method_58_code 13 = some (.iload_n 1, 1) := by decide +kernel
theorem dm_X12_placeOf_14 : mj_dec prog_14_method_58_code 14 = some (.iload_n 3, 1) := by decide +kernel
theorem dm_X12_placeOf_15 : mj_dec prog_14_method_58_code 15 = some (.iconst 0, 1) := by decide +kernel
theorem dm_X12_placeOf_16 : mj_dec prog_14_method_58_code 16 = some (.invokevirtual 159, 3) := by decide +kernel
theorem dm_X12_placeOf_19 : mj_dec prog_14_method_58_code 19 = some (.iload_n 2, 1) := by decide +kernel
theorem dm_X12_placeOf_20 : mj_dec prog_14_method_58_code 20 = some (.invokevirtual 177, 3) := by decide +kernel
theorem dm_X12_placeOf_23 : mj_dec prog_14_method_58_code 23 = some (.ifCond .ne 9, 3) := by decide +kernel
theorem dm_X12_placeOf_26 : mj_dec prog_14_method_58_code 26 = some (.iinc 3 1, 3) := by decide +kernel
theorem dm_X12_placeOf_29 : mj_dec prog_14_method_58_code 29 = some (.goto (-27), 3) := by decide +kernel
theorem dm_X12_placeOf_32 : mj_dec prog_14_method_58_code 32 = some (.iload_n 3, 1) := by decide +kernel
theorem dm_X12_placeOf_33 : mj_dec prog_14_method_58_code 33 = some (.ireturn, 1) := by decide +kernel
theorem r_placeOf_ {xt : mj_X} {d e hd hd2 : Nat} {pre post : mj_H} {s : RS} {v w : VV} (hm : pre.length = 102) (hd1 : 3 * e + 10 ≤ d) (hB : rB s) (hv : rv s (e + 1) hd v) (hh3 : 3 ≤ hd) (hw : rv s (e + 1) hd2 w) (hh4 : hd2 ≠ 0) : pgV xt d 269 [.ref 102, ii (hd : Int), ii (hd2 : Int)] (rS pre post s) (fun x h' => ∃ t, x = ii ((fstN (fun k => vsame (e + 1) (vit v k) w) (vm v) : Nat) : Int) ∧ h' = rS pre post t ∧ vw3 s t) := by
  have hB0 := hB
  obtain ⟨hB1, hB2, hB3, hB4⟩ := hB
  obtain ⟨fr, hfr, hsh, hlt, hcl, hvk, hvm, hvc, hvq, hvcl⟩ := rv_val hv
  obtain ⟨fw, hfw, hshw, hltw, hclw, hwk, hwm, hwc, hwq, hwcl⟩ := rv_val hw
  refine x_enter pm_X12_placeOf (L0 := [(0, .ref 102), (1, ii (hd : Int)), (2, ii (hd2 : Int))]) rfl (Nat.le_of_ble_eq_true rfl) (by omega) ?_
  refine me0 (pc' := 1) (S' := [ii 0]) dm_X12_placeOf_0 rfl rfl rfl rfl ?_
  refine me1 (pc' := 2) (L' := [(3, ii 0), (0, .ref 102), (1, ii (hd : Int)), (2, ii (hd2 : Int))]) (S' := []) dm_X12_placeOf_1 rfl rfl rfl rfl ?_
  have lp2 : ∀ (n2 : Nat) (k : Nat) (t : RS), vm v - k = n2 → (k ≤ vm v) → (vw3 s t) → (rv t (e + 1) hd2 w) → (∀ j, j < k → (fun k => vsame (e + 1) (vit v k) w) j = false) → pgE xt (d - 1) 12 4 false (Option.some Jvm.ClassFile.FieldType.int) (mj_dec prog_14_method_58_code) 2 [(0, .ref 102), (1, ii (hd : Int)), (2, ii (hd2 : Int)), (3, ii ((k : Nat) : Int))] [] (rI pre post t.1 t.2.1 t.2.2.1 t.2.2.2) (fun r h' => ∃ x, r = some x ∧ ∃ t, x = ii ((fstN (fun k => vsame (e + 1) (vit v k) w) (vm v) : Nat) : Int) ∧ h' = rS pre post t ∧ vw3 s t) := by
    intro n2
    induction n2 using Nat.strongRecOn with
    | ind n2 ih2 =>
      intro k t hm2 hk hvw hwt hno
      have hvt := rv_ext (vw3_pre hvw).1 hh3 hv
      have hBt := rB_vw hvw hB0
      have ht4 : t.1 4 = s.1 4 := by rw [hvw.1]
      refine me1 (pc' := 3) (L' := [(0, .ref 102), (1, ii (hd : Int)), (2, ii (hd2 : Int)), (3, ii ((k : Nat) : Int))]) (S' := [ii ((k : Nat) : Int)]) dm_X12_placeOf_2 rfl rfl rfl rfl ?_
      refine me1 (pc' := 4) (L' := [(0, .ref 102), (1, ii (hd : Int)), (2, ii (hd2 : Int)), (3, ii ((k : Nat) : Int))]) (S' := [.ref 102, ii ((k : Nat) : Int)]) dm_X12_placeOf_3 rfl rfl rfl rfl ?_
      refine me1 (pc' := 5) (L' := [(0, .ref 102), (1, ii (hd : Int)), (2, ii (hd2 : Int)), (3, ii ((k : Nat) : Int))]) (S' := [ii (hd : Int), .ref 102, ii ((k : Nat) : Int)]) dm_X12_placeOf_4 rfl rfl rfl rfl ?_
      refine x_cp (pc' := 8) (v := ii (vm v : Int)) (rest := [ii ((k : Nat) : Int)]) dm_X12_placeOf_5 rfl (q_inv (As := [ii (hd : Int)]) (S := [ii ((k : Nat) : Int)]) hm rfl rfl rfl) rfl rfl rfl (r_many_ (s := t) hm (by omega) hBt hvt) ?_
      refine y_2ge (a := ((k : Nat) : Int)) (b := (vm v : Int)) (t := 32) (pc' := 11) dm_X12_placeOf_8 rfl rfl (by omega) (fun hb1 => ?_) (fun hb1 => ?_)
      · refine me1 (pc' := 33) (L' := [(0, .ref 102), (1, ii (hd : Int)), (2, ii (hd2 : Int)), (3, ii ((k : Nat) : Int))]) (S' := [ii ((k : Nat) : Int)]) dm_X12_placeOf_32 rfl rfl rfl rfl ?_
        refine y_ret (r := some (ii ((k : Nat) : Int))) dm_X12_placeOf_33 rfl rfl rfl ?_
        have hkn : k = vm v := by omega
        rw [show ((k : Nat) : Int) = ((fstN (fun k => vsame (e + 1) (vit v k) w) (vm v) : Nat) : Int) by rw [fstN_no (fun j hj => hno j (by omega)), hkn]]
        exact ⟨_, rfl, t, rfl, rfl, hvw⟩
      · refine me1 (pc' := 12) (L' := [(0, .ref 102), (1, ii (hd : Int)), (2, ii (hd2 : Int)), (3, ii ((k : Nat) : Int))]) (S' := [.ref 102]) dm_X12_placeOf_11 rfl rfl rfl rfl ?_
        refine me1 (pc' := 13) (L' := [(0, .ref 102), (1, ii (hd : Int)), (2, ii (hd2 : Int)), (3, ii ((k : Nat) : Int))]) (S' := [.ref 102, .ref 102]) dm_X12_placeOf_12 rfl rfl rfl rfl ?_
        refine me1 (pc' := 14) (L' := [(0, .ref 102), (1, ii (hd : Int)), (2, ii (hd2 : Int)), (3, ii ((k : Nat) : Int))]) (S' := [ii (hd : Int), .ref 102, .ref 102]) dm_X12_placeOf_13 rfl rfl rfl rfl ?_
        refine me1 (pc' := 15) (L' := [(0, .ref 102), (1, ii (hd : Int)), (2, ii (hd2 : Int)), (3, ii ((k : Nat) : Int))]) (S' := [ii ((k : Nat) : Int), ii (hd : Int), .ref 102, .ref 102]) dm_X12_placeOf_14 rfl rfl rfl rfl ?_
        refine me0 (pc' := 16) (S' := [ii 0, ii ((k : Nat) : Int), ii (hd : Int), .ref 102, .ref 102]) dm_X12_placeOf_15 rfl rfl rfl rfl ?_
        refine x_cv (pc' := 19) (rest := [.ref 102]) dm_X12_placeOf_16 rfl (q_inv (As := [ii (hd : Int), ii ((k : Nat) : Int), ii 0]) (S := [.ref 102]) hm rfl rfl rfl) rfl rfl rfl (r_itemAt_ (s := t) (t := 0) hm (by omega) hBt hvt (by omega) (by omega) (by omega)) ?_
        rintro _ _ ⟨p, s1, rfl, rfl, hpv, hws, hp3⟩
        refine me1 (pc' := 20) (L' := [(0, .ref 102), (1, ii (hd : Int)), (2, ii (hd2 : Int)), (3, ii ((k : Nat) : Int))]) (S' := [ii (hd2 : Int), ii (p : Int), .ref 102]) dm_X12_placeOf_19 rfl rfl rfl rfl ?_
        refine x_cp (pc' := 23) (v := zz (vsame (e + 1) (vit v k) w)) (rest := []) dm_X12_placeOf_20 rfl (q_inv (As := [ii (p : Int), ii (hd2 : Int)]) (S := []) hm rfl rfl rfl) rfl rfl rfl (r_isSame_ hm (rB_vw (vw3_of (by omega) hws) hBt) (e + 1) (by omega) hpv (rv_vw (by omega) hws hh4 hwt)) ?_
        refine y_zne (c := vsame (e + 1) (vit v k) w) (t := 32) (pc' := 26) dm_X12_placeOf_23 rfl rfl (fun hb2 => ?_) (fun hb2 => ?_)
        · have hns : (fun k => vsame (e + 1) (vit v k) w) k = true := hb2
          refine me1 (pc' := 33) (L' := [(0, .ref 102), (1, ii (hd : Int)), (2, ii (hd2 : Int)), (3, ii ((k : Nat) : Int))]) (S' := [ii ((k : Nat) : Int)]) dm_X12_placeOf_32 rfl rfl rfl rfl ?_
          refine y_ret (r := some (ii ((k : Nat) : Int))) dm_X12_placeOf_33 rfl rfl rfl ?_
          rw [show ((k : Nat) : Int) = ((fstN (fun k => vsame (e + 1) (vit v k) w) (vm v) : Nat) : Int) by rw [fstN_at (by omega) hno hns]]
          exact ⟨_, rfl, s1, rfl, rfl, vw3_tr hvw (vw3_of (by omega) hws)⟩
        · have hns : (fun k => vsame (e + 1) (vit v k) w) k = false := hb2
          refine y_iinc (pc' := 29) (L' := [(3, ii (((k : Nat) : Int) + 1)), (0, .ref 102), (1, ii (hd : Int)), (2, ii (hd2 : Int))]) dm_X12_placeOf_26 (y_incp (a := ((k : Nat) : Int)) (c := 1) rfl rfl (by decide)) rfl ?_
          refine me2 (pc' := 2) (S' := []) dm_X12_placeOf_29 rfl rfl rfl ?_
          exact pg_sub (L := [(0, .ref 102), (1, ii (hd : Int)), (2, ii (hd2 : Int)), (3, ii (((k + 1) : Nat) : Int))]) rfl rfl rfl (ih2 (vm v - (k + 1)) (by omega) (k + 1) s1 rfl (by omega) (vw3_tr hvw (vw3_of (by omega) hws)) (rv_vw (by omega) hws hh4 hwt) (fun j hj => by by_cases z : j = k; (subst z; exact hns); exact hno j (by omega)))
  exact pg_sub (L := [(0, .ref 102), (1, ii (hd : Int)), (2, ii (hd2 : Int)), (3, ii ((0 : Nat) : Int))]) rfl rfl rfl (lp2 _ 0 s rfl (Nat.zero_le _) (vw3_rf s) hw (fun j hj => absurd hj (Nat.not_lt_zero j)))
set_option maxRecDepth 20000 in
theorem pm_X12_found : mj_mmof pg_ms 268 = some ((⟨"ArrayCalculatorModel", "found", "(III)I"⟩, prog_14_method_59_code, 6, (Option.some Jvm.ClassFile.FieldType.int)), 12, false, mj_dec prog_14_method_59_code) := rfl
theorem dm_X12_found_0 : mj_dec prog_14_method_59_code 0 = some (.aload_n 0, 1) := by decide +kernel
theorem dm_X12_found_1 : mj_dec prog_14_method_59_code 1 = some (.iload_n 1, 1) := by decide +kernel
theorem dm_X12_found_2 : mj_dec prog_14_method_59_code 2 = some (.invokevirtual 162, 3) := by decide +kernel
theorem dm_X12_found_5 : mj_dec prog_14_method_59_code 5 = some (.ifCond .ne 21, 3) := by decide +kernel
theorem dm_X12_found_8 : mj_dec prog_14_method_59_code 8 = some (.aload_n 0, 1) := by decide +kernel
theorem dm_X12_found_9 : mj_dec prog_14_method_59_code 9 = some (.iload_n 1, 1) := by decide +kernel
theorem dm_X12_found_10 : mj_dec prog_14_method_59_code 10 = some (.invokevirtual 149, 3) := by decide +kernel
theorem dm_X12_found_13 : mj_dec prog_14_method_59_code 13 = some (.ifCond .eq 20, 3) := by decide +kernel
theorem dm_X12_found_16 : mj_dec prog_14_method_59_code 16 = some (.aload_n 0, 1) := by decide +kernel
theorem dm_X12_found_17 : mj_dec prog_14_method_59_code 17 = some (.iload_n 2, 1) := by decide +kernel
theorem dm_X12_found_18 : mj_dec prog_14_method_59_code 18 = some (.invokevirtual 146, 3) := by decide +kernel
theorem dm_X12_found_21 : mj_dec prog_14_method_59_code 21 = some (.bipush 6, 2) := by decide +kernel
theorem dm_X12_found_23 : mj_dec prog_14_method_59_code 23 = some (.if_icmp .lt 10, 3) := by decide +kernel
theorem dm_X12_found_26 : mj_dec prog_14_method_59_code 26 = some (.aload_n 0, 1) := by decide +kernel
theorem dm_X12_found_27 : mj_dec prog_14_method_59_code 27 = some (.iconst 3, 1) := by decide +kernel
theorem dm_X12_found_28 : mj_dec prog_14_method_59_code 28 = some (.iload_n 3, 1) := by decide +kernel
theorem dm_X12_found_29 : mj_dec prog_14_method_59_code 29 = some (.invokevirtual 190, 3) := by decide +kernel
theorem dm_X12_found_32 : mj_dec prog_14_method_59_code 32 = some (.ireturn, 1) := by decide +kernel
theorem dm_X12_found_33 : mj_dec prog_14_method_59_code 33 = some (.aload_n 0, 1) := by decide +kernel
theorem dm_X12_found_34 : mj_dec prog_14_method_59_code 34 = some (.iload_n 1, 1) := by decide +kernel
theorem dm_X12_found_35 : mj_dec prog_14_method_59_code 35 = some (.invokevirtual 149, 3) := by decide +kernel
theorem dm_X12_found_38 : mj_dec prog_14_method_59_code 38 = some (.ifCond .eq 11, 3) := by decide +kernel
theorem dm_X12_found_41 : mj_dec prog_14_method_59_code 41 = some (.aload_n 0, 1) := by decide +kernel
theorem dm_X12_found_42 : mj_dec prog_14_method_59_code 42 = some (.iload_n 2, 1) := by decide +kernel
theorem dm_X12_found_43 : mj_dec prog_14_method_59_code 43 = some (.invokevirtual 162, 3) := by decide +kernel
theorem dm_X12_found_46 : mj_dec prog_14_method_59_code 46 = some (.ifCond .eq 16, 3) := by decide +kernel
theorem dm_X12_found_49 : mj_dec prog_14_method_59_code 49 = some (.aload_n 0, 1) := by decide +kernel
theorem dm_X12_found_50 : mj_dec prog_14_method_59_code 50 = some (.iconst 0, 1) := by decide +kernel
theorem dm_X12_found_51 : mj_dec prog_14_method_59_code 51 = some (.aload_n 0, 1) := by decide +kernel
theorem dm_X12_found_52 : mj_dec prog_14_method_59_code 52 = some (.iload_n 1, 1) := by decide +kernel
theorem dm_X12_found_53 : mj_dec prog_14_method_59_code 53 = some (.iload_n 2, 1) := by decide +kernel
theorem dm_X12_found_54 : mj_dec prog_14_method_59_code 54 = some (.invokevirtual 354, 3) := by decide +kernel
theorem dm_X12_found_57 : mj_dec prog_14_method_59_code 57 = some (.i2l, 1) := by decide +kernel
theorem dm_X12_found_58 : mj_dec prog_14_method_59_code 58 = some (.invokevirtual 105, 3) := by decide +kernel
theorem dm_X12_found_61 : mj_dec prog_14_method_59_code 61 = some (.ireturn, 1) := by decide +kernel
theorem dm_X12_found_62 : mj_dec prog_14_method_59_code 62 = some (.aload_n 0, 1) := by decide +kernel
theorem dm_X12_found_63 : mj_dec prog_14_method_59_code 63 = some (.iconst 4, 1) := by decide +kernel
theorem dm_X12_found_64 : mj_dec prog_14_method_59_code 64 = some (.aload_n 0, 1) := by decide +kernel
theorem dm_X12_found_65 : mj_dec prog_14_method_59_code 65 = some (.iload_n 2, 1) := by decide +kernel
theorem dm_X12_found_66 : mj_dec prog_14_method_59_code 66 = some (.invokevirtual 134, 3) := by decide +kernel
theorem dm_X12_found_69 : mj_dec prog_14_method_59_code 69 = some (.invokevirtual 126, 3) := by decide +kernel
theorem dm_X12_found_72 : mj_dec prog_14_method_59_code 72 = some (.istore 4, 2) := by decide +kernel
theorem dm_X12_found_74 : mj_dec prog_14_method_59_code 74 = some (.iconst 0, 1) := by decide +kernel
theorem dm_X12_found_75 : mj_dec prog_14_method_59_code 75 = some (.istore 5, 2) := by decide +kernel
theorem dm_X12_found_77 : mj_dec prog_14_method_59_code 77 = some (.iload 5, 2) := by decide +kernel
theorem dm_X12_found_79 : mj_dec prog_14_method_59_code 79 = some (.aload_n 0, 1) := by decide +kernel
theorem dm_X12_found_80 : mj_dec prog_14_method_59_code 80 = some (.iload_n 2, 1) := by decide +kernel
theorem dm_X12_found_81 : mj_dec prog_14_method_59_code 81 = some (.invokevirtual 134, 3) := by decide +kernel
theorem dm_X12_found_84 : mj_dec prog_14_method_59_code 84 = some (.if_icmp .ge 38, 3) := by decide +kernel
theorem dm_X12_found_87 : mj_dec prog_14_method_59_code 87 = some (.aload_n 0, 1) := by decide +kernel
theorem dm_X12_found_88 : mj_dec prog_14_method_59_code 88 = some (.getfield 8, 3) := by decide +kernel
theorem dm_X12_found_91 : mj_dec prog_14_method_59_code 91 = some (.aload_n 0, 1) := by decide +kernel
theorem dm_X12_found_92 : mj_dec prog_14_method_59_code 92 = some (.getfield 15, 3) := by decide +kernel
theorem dm_X12_found_95 : mj_dec prog_14_method_59_code 95 = some (.iload 4, 2) := by decide +kernel
theorem dm_X12_found_97 : mj_dec prog_14_method_59_code 97 = some (.iaload, 1) := by decide +kernel
theorem dm_X12_found_98 : mj_dec prog_14_method_59_code 98 = some (.iload 5, 2) := by decide +kernel
theorem dm_X12_found_100 : mj_dec prog_14_method_59_code 100 = some (.iadd, 1) := by decide +kernel
theorem dm_X12_found_101 : mj_dec prog_14_method_59_code 101 = some (.aload_n 0, 1) := by decide +kernel
theorem dm_X12_found_102 : mj_dec prog_14_method_59_code 102 = some (.iload_n 1, 1) := by decide +kernel
theorem dm_X12_found_103 : mj_dec prog_14_method_59_code 103 = some (.aload_n 0, 1) := by decide +kernel
theorem dm_X12_found_104 : mj_dec prog_14_method_59_code 104 = some (.iload_n 2, 1) := by decide +kernel
theorem dm_X12_found_105 : mj_dec prog_14_method_59_code 105 = some (.iload 5, 2) := by decide +kernel
theorem dm_X12_found_107 : mj_dec prog_14_method_59_code 107 = some (.iconst 1, 1) := by decide +kernel
theorem dm_X12_found_108 : mj_dec prog_14_method_59_code 108 = some (.invokevirtual 159, 3) := by decide +kernel
theorem dm_X12_found_111 : mj_dec prog_14_method_59_code 111 = some (.invokevirtual 354, 3) := by decide +kernel
theorem dm_X12_found_114 : mj_dec prog_14_method_59_code 114 = some (.i2l, 1) := by decide +kernel
theorem dm_X12_found_115 : mj_dec prog_14_method_59_code 115 = some (.lastore, 1) := by decide +kernel
theorem dm_X12_found_116 : mj_dec prog_14_method_59_code 116 = some (.iinc 5 1, 3) := by decide +kernel
theorem dm_X12_found_119 : mj_dec prog_14_method_59_code 119 = some (.goto (-42), 3) := by decide +kernel
theorem dm_X12_found_122 : mj_dec prog_14_method_59_code 122 = some (.iload 4, 2) := by decide +kernel
theorem dm_X12_found_124 : mj_dec prog_14_method_59_code 124 = some (.ireturn, 1) := by decide +kernel
theorem r_found_ {xt : mj_X} {d e hd hd2 q b : Nat} {pre post : mj_H} {s : RS} {v w : VV} {place : Int} (hm : pre.length = 102) (hd1 : 3 * e + 12 ≤ d) (hB : rB s) (hv : rv s (e + 1) hd v) (hh3 : 3 ≤ hd) (hw : rv s (e + 1) hd2 w) (hh4 : 3 ≤ hd2) (hq : s.1 4 = (q : Int)) (hb : s.1 3 = (b : Int)) (hq3 : 3 ≤ q) (hV2 : q < 310000) (he0 : s.1 5 = 0) (hca : 0 ≤ s.1 10 ∧ s.1 10 ≤ 100) (hC : b + 300 ≤ 820000) : pgV xt d 268 [.ref 102, ii (hd : Int), ii (hd2 : Int), ii place] (rS pre post s) (rres pre post s (e + 1) (d_find (e + 1) v w) place 120 1) := by
  have hB0 := hB
  obtain ⟨hB1, hB2, hB3, hB4⟩ := hB
  obtain ⟨fr, hfr, hsh, hlt, hcl, hvk, hvm, hvc, hvq, hvcl⟩ := rv_val hv
  obtain ⟨fw, hfw, hshw, hltw, hclw, hwk, hwm, hwc, hwq, hwcl⟩ := rv_val hw
  refine x_enter pm_X12_found (L0 := [(0, .ref 102), (1, ii (hd : Int)), (2, ii (hd2 : Int)), (3, ii place)]) rfl (Nat.le_of_ble_eq_true rfl) (by omega) ?_
  refine me1 (pc' := 1) (L' := [(0, .ref 102), (1, ii (hd : Int)), (2, ii (hd2 : Int)), (3, ii place)]) (S' := [.ref 102]) dm_X12_found_0 rfl rfl rfl rfl ?_
  refine me1 (pc' := 2) (L' := [(0, .ref 102), (1, ii (hd : Int)), (2, ii (hd2 : Int)), (3, ii place)]) (S' := [ii (hd : Int), .ref 102]) dm_X12_found_1 rfl rfl rfl rfl ?_
  refine x_cp (pc' := 5) (v := zz (decide (vk v ≤ 1))) (rest := []) dm_X12_found_2 rfl (q_inv (As := [ii (hd : Int)]) (S := []) hm rfl rfl rfl) rfl rfl rfl (r_isOne_ hm (by omega) hB0 hv) ?_
  refine y_zne (c := decide (vk v ≤ 1)) (t := 26) (pc' := 8) dm_X12_found_5 rfl rfl (fun hb1 => ?_) (fun hb1 => ?_)
  · replace hb1 := dT hb1
    refine me1 (pc' := 27) (L' := [(0, .ref 102), (1, ii (hd : Int)), (2, ii (hd2 : Int)), (3, ii place)]) (S' := [.ref 102]) dm_X12_found_26 rfl rfl rfl rfl ?_
    refine me0 (pc' := 28) (S' := [ii 3, .ref 102]) dm_X12_found_27 rfl rfl rfl rfl ?_
    refine me1 (pc' := 29) (L' := [(0, .ref 102), (1, ii (hd : Int)), (2, ii (hd2 : Int)), (3, ii place)]) (S' := [ii place, ii 3, .ref 102]) dm_X12_found_28 rfl rfl rfl rfl ?_
    refine x_cv (pc' := 32) (rest := []) dm_X12_found_29 rfl (q_inv (As := [ii 3, ii place]) (S := []) hm rfl rfl rfl) rfl rfl rfl (r_fail_ (s := s) hm (by omega) he0 hca.1 hca.2) ?_
    rintro _ _ ⟨rfl, rfl⟩
    refine y_ret (r := some (ii (-1))) dm_X12_found_32 rfl rfl rfl ?_
    rw [show d_find (e + 1) v w = .inl 3 by unfold d_find; rw [if_pos (by omega)]]
    exact ⟨_, rfl, rres_fail (rpre_rf s) he0⟩
  · replace hb1 := dF hb1
    refine me1 (pc' := 9) (L' := [(0, .ref 102), (1, ii (hd : Int)), (2, ii (hd2 : Int)), (3, ii place)]) (S' := [.ref 102]) dm_X12_found_8 rfl rfl rfl rfl ?_
    refine me1 (pc' := 10) (L' := [(0, .ref 102), (1, ii (hd : Int)), (2, ii (hd2 : Int)), (3, ii place)]) (S' := [ii (hd : Int), .ref 102]) dm_X12_found_9 rfl rfl rfl rfl ?_
    refine x_cp (pc' := 13) (v := zz (decide (2 ≤ vk v ∧ vk v ≤ 5))) (rest := []) dm_X12_found_10 rfl (q_inv (As := [ii (hd : Int)]) (S := []) hm rfl rfl rfl) rfl rfl rfl (r_isRow_ hm (by omega) hB0 hv) ?_
    refine y_zeq (c := decide (2 ≤ vk v ∧ vk v ≤ 5)) (t := 33) (pc' := 16) dm_X12_found_13 rfl rfl (fun hb2 => ?_) (fun hb2 => ?_)
    · replace hb2 := dF hb2
      refine me1 (pc' := 34) (L' := [(0, .ref 102), (1, ii (hd : Int)), (2, ii (hd2 : Int)), (3, ii place)]) (S' := [.ref 102]) dm_X12_found_33 rfl rfl rfl rfl ?_
      refine me1 (pc' := 35) (L' := [(0, .ref 102), (1, ii (hd : Int)), (2, ii (hd2 : Int)), (3, ii place)]) (S' := [ii (hd : Int), .ref 102]) dm_X12_found_34 rfl rfl rfl rfl ?_
      refine x_cp (pc' := 38) (v := zz (decide (2 ≤ vk v ∧ vk v ≤ 5))) (rest := []) dm_X12_found_35 rfl (q_inv (As := [ii (hd : Int)]) (S := []) hm rfl rfl rfl) rfl rfl rfl (r_isRow_ hm (by omega) hB0 hv) ?_
      refine y_zeq (c := decide (2 ≤ vk v ∧ vk v ≤ 5)) (t := 49) (pc' := 41) dm_X12_found_38 rfl rfl (fun hb3 => ?_) (fun hb3 => ?_)
      · replace hb3 := dF hb3
        refine me1 (pc' := 50) (L' := [(0, .ref 102), (1, ii (hd : Int)), (2, ii (hd2 : Int)), (3, ii place)]) (S' := [.ref 102]) dm_X12_found_49 rfl rfl rfl rfl ?_
        refine me0 (pc' := 51) (S' := [ii 0, .ref 102]) dm_X12_found_50 rfl rfl rfl rfl ?_
        refine me1 (pc' := 52) (L' := [(0, .ref 102), (1, ii (hd : Int)), (2, ii (hd2 : Int)), (3, ii place)]) (S' := [.ref 102, ii 0, .ref 102]) dm_X12_found_51 rfl rfl rfl rfl ?_
        refine me1 (pc' := 53) (L' := [(0, .ref 102), (1, ii (hd : Int)), (2, ii (hd2 : Int)), (3, ii place)]) (S' := [ii (hd : Int), .ref 102, ii 0, .ref 102]) dm_X12_found_52 rfl rfl rfl rfl ?_
        refine me1 (pc' := 54) (L' := [(0, .ref 102), (1, ii (hd : Int)), (2, ii (hd2 : Int)), (3, ii place)]) (S' := [ii (hd2 : Int), ii (hd : Int), .ref 102, ii 0, .ref 102]) dm_X12_found_53 rfl rfl rfl rfl ?_
        have hfl := fstN_le (fun k => vsame (e + 1) (vit v k) w) (vm v)
        refine x_cv (pc' := 57) (rest := [ii 0, .ref 102]) dm_X12_found_54 rfl (q_inv (As := [ii (hd : Int), ii (hd2 : Int)]) (S := [ii 0, .ref 102]) hm rfl rfl rfl) rfl rfl rfl (r_placeOf_ (s := s) hm (by omega) hB0 hv hh3 hw (by omega)) ?_
        rintro _ _ ⟨t, rfl, rfl, hvw⟩
        refine y_i2l (a := ((fstN (fun k => vsame (e + 1) (vit v k) w) (vm v) : Nat) : Int)) dm_X12_found_57 (pc' := 58) rfl (by omega) (by omega) ?_
        refine x_cv (pc' := 61) (rest := []) dm_X12_found_58 rfl (q_inv (As := [ii 0, .long (Int64.ofInt ((fstN (fun k => vsame (e + 1) (vit v k) w) (vm v) : Nat) : Int))]) (S := []) hm rfl rfl rfl) rfl rfl rfl (r_one_ (s := t) (q := q) (b := b) hm (by omega) (hvw.1 ▸ hq) (hvw.1 ▸ hb) (by omega) (by omega) (by omega)) ?_
        rintro _ _ ⟨rfl, rfl⟩
        refine y_ret (r := some (ii (q : Int))) dm_X12_found_61 rfl rfl rfl ?_
        rw [show d_find (e + 1) v w = .inr (v1 0 (Int64.ofInt ((fstN (fun k => vsame (e + 1) (vit v k) w) (vm v) : Nat) : Int))) by unfold d_find; rw [if_neg (by omega), if_pos (by omega)]]
        exact ⟨_, rfl, rres_bk (vw3_pre hvw) (rres_row (kind := 0) (n := 1) (w := v1 0 (Int64.ofInt ((fstN (fun k => vsame (e + 1) (vit v k) w) (vm v) : Nat) : Int))) (hvw.1 ▸ hq) hq3 (hvw.1 ▸ hb) (hvw.1 ▸ he0) (vw1_one (by omega)) (by show ¬ 0 = 7; omega) (by show ¬ 0 = 6; omega) rfl rfl rfl (fun _ _ => rfl) (by omega) (Nat.le_refl _))⟩
      · replace hb3 := dT hb3
        refine me1 (pc' := 42) (L' := [(0, .ref 102), (1, ii (hd : Int)), (2, ii (hd2 : Int)), (3, ii place)]) (S' := [.ref 102]) dm_X12_found_41 rfl rfl rfl rfl ?_
        refine me1 (pc' := 43) (L' := [(0, .ref 102), (1, ii (hd : Int)), (2, ii (hd2 : Int)), (3, ii place)]) (S' := [ii (hd2 : Int), .ref 102]) dm_X12_found_42 rfl rfl rfl rfl ?_
        refine x_cp (pc' := 46) (v := zz (decide (vk w ≤ 1))) (rest := []) dm_X12_found_43 rfl (q_inv (As := [ii (hd2 : Int)]) (S := []) hm rfl rfl rfl) rfl rfl rfl (r_isOne_ hm (by omega) hB0 hw) ?_
        refine y_zeq (c := decide (vk w ≤ 1)) (t := 62) (pc' := 49) dm_X12_found_46 rfl rfl (fun hb4 => ?_) (fun hb4 => ?_)
        · replace hb4 := dF hb4
          refine me1 (pc' := 63) (L' := [(0, .ref 102), (1, ii (hd : Int)), (2, ii (hd2 : Int)), (3, ii place)]) (S' := [.ref 102]) dm_X12_found_62 rfl rfl rfl rfl ?_
          refine me0 (pc' := 64) (S' := [ii 4, .ref 102]) dm_X12_found_63 rfl rfl rfl rfl ?_
          refine me1 (pc' := 65) (L' := [(0, .ref 102), (1, ii (hd : Int)), (2, ii (hd2 : Int)), (3, ii place)]) (S' := [.ref 102, ii 4, .ref 102]) dm_X12_found_64 rfl rfl rfl rfl ?_
          refine me1 (pc' := 66) (L' := [(0, .ref 102), (1, ii (hd : Int)), (2, ii (hd2 : Int)), (3, ii place)]) (S' := [ii (hd2 : Int), .ref 102, ii 4, .ref 102]) dm_X12_found_65 rfl rfl rfl rfl ?_
          refine x_cp (pc' := 69) (v := ii (vm w : Int)) (rest := [ii 4, .ref 102]) dm_X12_found_66 rfl (q_inv (As := [ii (hd2 : Int)]) (S := [ii 4, .ref 102]) hm rfl rfl rfl) rfl rfl rfl (r_many_ hm (by omega) hB0 hw) ?_
          refine x_cv (pc' := 72) (rest := []) dm_X12_found_69 rfl (q_inv (As := [ii 4, ii (vm w : Int)]) (S := []) hm rfl rfl rfl) rfl rfl rfl (r_row_ (q := q) (b := b) (s := s) hm (by omega) hq hb (by omega) (by omega) (by omega)) ?_
          rintro _ _ ⟨rfl, rfl⟩
          have hxT : rext s (rowS s q b 4 (vm w : Int)) := rext_row hq hb _ (by omega)
          have hBT : rB (rowS s q b 4 (vm w : Int)) := ⟨by show 3 ≤ (q : Int) + 1; omega, by show (q : Int) + 1 ≤ 310000; omega, by show 0 ≤ (b : Int) + (vm w : Int); omega, by show (b : Int) + (vm w : Int) ≤ 820000; omega⟩
          have hvT : ∀ (k : Nat) (F : Nat → Int64), rv (fillS (rowS s q b 4 (vm w : Int)) b k F) (e + 1) hd v := fun k F => rv_ext (rext_fill hxT (by omega) F) hh3 hv
          have hwT : ∀ (k : Nat) (F : Nat → Int64), rv (fillS (rowS s q b 4 (vm w : Int)) b k F) (e + 1) hd2 w := fun k F => rv_ext (rext_fill hxT (by omega) F) hh4 hw
          refine me1 (pc' := 74) (L' := [(4, ii (q : Int)), (0, .ref 102), (1, ii (hd : Int)), (2, ii (hd2 : Int)), (3, ii place)]) (S' := []) dm_X12_found_72 rfl rfl rfl rfl ?_
          refine me0 (pc' := 75) (S' := [ii 0]) dm_X12_found_74 rfl rfl rfl rfl ?_
          refine me1 (pc' := 77) (L' := [(5, ii 0), (4, ii (q : Int)), (0, .ref 102), (1, ii (hd : Int)), (2, ii (hd2 : Int)), (3, ii place)]) (S' := []) dm_X12_found_75 rfl rfl rfl rfl ?_
          have lp77 : ∀ (n77 : Nat) (k : Nat) (t : RS) (g : Nat → Int64), vm w - k = n77 → (k ≤ vm w) → (vw3 (fillS (rowS s q b 4 (vm w : Int)) b k g) t) → (∀ j, j < k → g j = (fun i => Int64.ofInt ((fstN (fun k => vsame (e + 1) (vit v k) (vit w i)) (vm v) : Nat) : Int)) j) → pgE xt (d - 1) 12 6 false (Option.some Jvm.ClassFile.FieldType.int) (mj_dec prog_14_method_59_code) 77 [(0, .ref 102), (1, ii (hd : Int)), (2, ii (hd2 : Int)), (3, ii place), (4, ii (q : Int)), (5, ii ((k : Nat) : Int))] [] (rI pre post t.1 t.2.1 t.2.2.1 t.2.2.2) (fun r h' => ∃ x, r = some x ∧ rres pre post s (e + 1) (d_find (e + 1) v w) place 120 1 x h') := by
            intro n77
            induction n77 using Nat.strongRecOn with
            | ind n77 ih77 =>
              intro k t g hm77 hk hvw hg
              have hpt := vw3_pre hvw
              have hvt := rv_ext hpt.1 hh3 (hvT k g)
              have hwt := rv_ext hpt.1 hh4 (hwT k g)
              have hBt := rB_vw hvw hBT
              have ht4 : t.1 4 = (q : Int) + 1 := by rw [hvw.1]; rfl
              have hfrt : t.2.2.1 1 q = (b : Int) := (hvw.2.2.2.2 q hq3).1.trans (up_eq _ _ _)
              refine me1 (pc' := 79) (L' := [(0, .ref 102), (1, ii (hd : Int)), (2, ii (hd2 : Int)), (3, ii place), (4, ii (q : Int)), (5, ii ((k : Nat) : Int))]) (S' := [ii ((k : Nat) : Int)]) dm_X12_found_77 rfl rfl rfl rfl ?_
              refine me1 (pc' := 80) (L' := [(0, .ref 102), (1, ii (hd : Int)), (2, ii (hd2 : Int)), (3, ii place), (4, ii (q : Int)), (5, ii ((k : Nat) : Int))]) (S' := [.ref 102, ii ((k : Nat) : Int)]) dm_X12_found_79 rfl rfl rfl rfl ?_
              refine me1 (pc' := 81) (L' := [(0, .ref 102), (1, ii (hd : Int)), (2, ii (hd2 : Int)), (3, ii place), (4, ii (q : Int)), (5, ii ((k : Nat) : Int))]) (S' := [ii (hd2 : Int), .ref 102, ii ((k : Nat) : Int)]) dm_X12_found_80 rfl rfl rfl rfl ?_
              refine x_cp (pc' := 84) (v := ii (vm w : Int)) (rest := [ii ((k : Nat) : Int)]) dm_X12_found_81 rfl (q_inv (As := [ii (hd2 : Int)]) (S := [ii ((k : Nat) : Int)]) hm rfl rfl rfl) rfl rfl rfl (r_many_ hm (by omega) hBt hwt) ?_
              refine y_2ge (a := ((k : Nat) : Int)) (b := (vm w : Int)) (t := 122) (pc' := 87) dm_X12_found_84 rfl rfl (by omega) (fun hb5 => ?_) (fun hb5 => ?_)
              · refine me1 (pc' := 124) (L' := [(0, .ref 102), (1, ii (hd : Int)), (2, ii (hd2 : Int)), (3, ii place), (4, ii (q : Int)), (5, ii ((k : Nat) : Int))]) (S' := [ii (q : Int)]) dm_X12_found_122 rfl rfl rfl rfl ?_
                refine y_ret (r := some (ii (q : Int))) dm_X12_found_124 rfl rfl rfl ?_
                have hkn : k = vm w := by omega
                rw [hkn] at hvw hg
                rw [show d_find (e + 1) v w = .inr (vrow 4 (vm w) (fun i => Int64.ofInt ((fstN (fun k => vsame (e + 1) (vit v k) (vit w i)) (vm v) : Nat) : Int))) by unfold d_find; rw [if_neg (by omega), if_neg (by omega)]]
                exact ⟨_, rfl, rres_rowv (kind := 4) hvw hq hq3 hb he0 (vw1_row (by omega) (by omega) (by omega)) (by show ¬ 4 = 7; omega) (by show ¬ 4 = 6; omega) rfl rfl rfl (fun j hj => hg j hj) (by omega) (Nat.le_refl _)⟩
              · refine me1 (pc' := 88) (L' := [(0, .ref 102), (1, ii (hd : Int)), (2, ii (hd2 : Int)), (3, ii place), (4, ii (q : Int)), (5, ii ((k : Nat) : Int))]) (S' := [.ref 102]) dm_X12_found_87 rfl rfl rfl rfl ?_
                refine me3 (pc' := 91) (S' := [.ref (102 + 1)]) dm_X12_found_88 (q_getr hm rfl (fun m i l => rg_0 m i l)) rfl rfl rfl ?_
                refine me1 (pc' := 92) (L' := [(0, .ref 102), (1, ii (hd : Int)), (2, ii (hd2 : Int)), (3, ii place), (4, ii (q : Int)), (5, ii ((k : Nat) : Int))]) (S' := [.ref 102, .ref (102 + 1)]) dm_X12_found_91 rfl rfl rfl rfl ?_
                refine me3 (pc' := 95) (S' := [.ref (102 + 2), .ref (102 + 1)]) dm_X12_found_92 (q_getr hm rfl (fun m i l => rg_1 m i l)) rfl rfl rfl ?_
                refine me1 (pc' := 97) (L' := [(0, .ref 102), (1, ii (hd : Int)), (2, ii (hd2 : Int)), (3, ii place), (4, ii (q : Int)), (5, ii ((k : Nat) : Int))]) (S' := [ii (q : Int), .ref (102 + 2), .ref (102 + 1)]) dm_X12_found_95 rfl rfl rfl rfl ?_
                refine me3 (pc' := 98) (S' := [ii ((t.2.2.1 1) q), .ref (102 + 1)]) dm_X12_found_97 (q_iald (v := (t.2.2.1 1) q) (k := 1) (n := 310000) hm (fun m i l I J => rc_1 m i l I J) (by omega) (by omega) (by decide) rfl) rfl rfl rfl ?_
                refine pg_st (S' := [ii (b : Int), .ref (102 + 1)]) (congrArg (fun z => ii z :: [.ref (102 + 1)]) (hfrt)) ?_
                refine me1 (pc' := 100) (L' := [(0, .ref 102), (1, ii (hd : Int)), (2, ii (hd2 : Int)), (3, ii place), (4, ii (q : Int)), (5, ii ((k : Nat) : Int))]) (S' := [ii ((k : Nat) : Int), ii (b : Int), .ref (102 + 1)]) dm_X12_found_98 rfl rfl rfl rfl ?_
                refine y_iadd (a := (b : Int)) (b := ((k : Nat) : Int)) dm_X12_found_100 (pc' := 101) rfl ?_
                refine me1 (pc' := 102) (L' := [(0, .ref 102), (1, ii (hd : Int)), (2, ii (hd2 : Int)), (3, ii place), (4, ii (q : Int)), (5, ii ((k : Nat) : Int))]) (S' := [.ref 102, ii ((b : Int) + ((k : Nat) : Int)), .ref (102 + 1)]) dm_X12_found_101 rfl rfl rfl rfl ?_
                refine me1 (pc' := 103) (L' := [(0, .ref 102), (1, ii (hd : Int)), (2, ii (hd2 : Int)), (3, ii place), (4, ii (q : Int)), (5, ii ((k : Nat) : Int))]) (S' := [ii (hd : Int), .ref 102, ii ((b : Int) + ((k : Nat) : Int)), .ref (102 + 1)]) dm_X12_found_102 rfl rfl rfl rfl ?_
                refine me1 (pc' := 104) (L' := [(0, .ref 102), (1, ii (hd : Int)), (2, ii (hd2 : Int)), (3, ii place), (4, ii (q : Int)), (5, ii ((k : Nat) : Int))]) (S' := [.ref 102, ii (hd : Int), .ref 102, ii ((b : Int) + ((k : Nat) : Int)), .ref (102 + 1)]) dm_X12_found_103 rfl rfl rfl rfl ?_
                refine me1 (pc' := 105) (L' := [(0, .ref 102), (1, ii (hd : Int)), (2, ii (hd2 : Int)), (3, ii place), (4, ii (q : Int)), (5, ii ((k : Nat) : Int))]) (S' := [ii (hd2 : Int), .ref 102, ii (hd : Int), .ref 102, ii ((b : Int) + ((k : Nat) : Int)), .ref (102 + 1)]) dm_X12_found_104 rfl rfl rfl rfl ?_
                refine me1 (pc' := 107) (L' := [(0, .ref 102), (1, ii (hd : Int)), (2, ii (hd2 : Int)), (3, ii place), (4, ii (q : Int)), (5, ii ((k : Nat) : Int))]) (S' := [ii ((k : Nat) : Int), ii (hd2 : Int), .ref 102, ii (hd : Int), .ref 102, ii ((b : Int) + ((k : Nat) : Int)), .ref (102 + 1)]) dm_X12_found_105 rfl rfl rfl rfl ?_
                refine me0 (pc' := 108) (S' := [ii 1, ii ((k : Nat) : Int), ii (hd2 : Int), .ref 102, ii (hd : Int), .ref 102, ii ((b : Int) + ((k : Nat) : Int)), .ref (102 + 1)]) dm_X12_found_107 rfl rfl rfl rfl ?_
                refine x_cv (pc' := 111) (rest := [ii (hd : Int), .ref 102, ii ((b : Int) + ((k : Nat) : Int)), .ref (102 + 1)]) dm_X12_found_108 rfl (q_inv (As := [ii (hd2 : Int), ii ((k : Nat) : Int), ii 1]) (S := [ii (hd : Int), .ref 102, ii ((b : Int) + ((k : Nat) : Int)), .ref (102 + 1)]) hm rfl rfl rfl) rfl rfl rfl (r_itemAt_ (s := t) (t := 1) hm (by omega) hBt hwt (by omega) (by omega) (by omega)) ?_
                rintro _ _ ⟨p, s1, rfl, rfl, hpv, hws, hp3⟩
                have hfl := fstN_le (fun j => vsame (e + 1) (vit v j) (vit w k)) (vm v)
                have h3w := vw3_of (by omega) hws
                refine x_cv (pc' := 114) (rest := [ii ((b : Int) + ((k : Nat) : Int)), .ref (102 + 1)]) dm_X12_found_111 rfl (q_inv (As := [ii (hd : Int), ii (p : Int)]) (S := [ii ((b : Int) + ((k : Nat) : Int)), .ref (102 + 1)]) hm rfl rfl rfl) rfl rfl rfl (r_placeOf_ (s := s1) hm (by omega) (rB_vw h3w hBt) (rv_ext (vw3_pre h3w).1 hh3 hvt) hh3 hpv (by omega)) ?_
                rintro _ _ ⟨t2, rfl, rfl, hvw2⟩
                refine y_i2l (a := ((fstN (fun j => vsame (e + 1) (vit v j) (vit w k)) (vm v) : Nat) : Int)) dm_X12_found_114 (pc' := 115) rfl (by omega) (by omega) ?_
                refine me3 (pc' := 116) (S' := []) (h1 := rI pre post t2.1 t2.2.1 t2.2.2.1 (va_up t2.2.2.2 0 (va_up (t2.2.2.2 0) (b + k) (Int64.ofInt ((fstN (fun j => vsame (e + 1) (vit v j) (vit w k)) (vm v) : Nat) : Int))))) dm_X12_found_115 (q_last (j := (b : Int) + ((k : Nat) : Int)) (k := 0) (n := 820000) hm (fun m i l I J => rc_0 m i l I J) (fun m i l I J f => rs_0 m i l I J f) (by omega) (by omega) (by decide)) rfl rfl rfl ?_
                obtain ⟨u, hu, hvu⟩ := fill_vw (pre := pre) (post := post) (x := Int64.ofInt ((fstN (fun j => vsame (e + 1) (vit v j) (vit w k)) (vm v) : Nat) : Int)) (vw3_tr hvw (vw3_tr h3w hvw2))
                refine pg_cast (h2 := rI pre post u.1 u.2.1 u.2.2.1 u.2.2.2) hu ?_
                refine y_iinc (pc' := 119) (L' := [(5, ii (((k : Nat) : Int) + 1)), (0, .ref 102), (1, ii (hd : Int)), (2, ii (hd2 : Int)), (3, ii place), (4, ii (q : Int))]) dm_X12_found_116 (y_incp (a := ((k : Nat) : Int)) (c := 1) rfl rfl (by decide)) rfl ?_
                refine me2 (pc' := 77) (S' := []) dm_X12_found_119 rfl rfl rfl ?_
                exact pg_sub (L := [(0, .ref 102), (1, ii (hd : Int)), (2, ii (hd2 : Int)), (3, ii place), (4, ii (q : Int)), (5, ii (((k + 1) : Nat) : Int))]) rfl rfl rfl (ih77 (vm w - (k + 1)) (by omega) (k + 1) u (va_up g k (Int64.ofInt ((fstN (fun j => vsame (e + 1) (vit v j) (vit w k)) (vm v) : Nat) : Int))) rfl (by omega) hvu (fun j hj => by rw [up_at]; by_cases z : j = k; (rw [if_pos z, z]); (rw [if_neg z]; exact hg j (by omega))))
          exact pg_sub (L := [(0, .ref 102), (1, ii (hd : Int)), (2, ii (hd2 : Int)), (3, ii place), (4, ii (q : Int)), (5, ii ((0 : Nat) : Int))]) rfl rfl rfl (lp77 _ 0 (rowS s q b 4 (vm w : Int)) (fun _ => 0) rfl (Nat.zero_le _) (by rw [fillS_0]; exact vw3_rf _) (fun j hj => absurd hj (Nat.not_lt_zero j)))
        · replace hb4 := dT hb4
          refine me1 (pc' := 50) (L' := [(0, .ref 102), (1, ii (hd : Int)), (2, ii (hd2 : Int)), (3, ii place)]) (S' := [.ref 102]) dm_X12_found_49 rfl rfl rfl rfl ?_
          refine me0 (pc' := 51) (S' := [ii 0, .ref 102]) dm_X12_found_50 rfl rfl rfl rfl ?_
          refine me1 (pc' := 52) (L' := [(0, .ref 102), (1, ii (hd : Int)), (2, ii (hd2 : Int)), (3, ii place)]) (S' := [.ref 102, ii 0, .ref 102]) dm_X12_found_51 rfl rfl rfl rfl ?_
          refine me1 (pc' := 53) (L' := [(0, .ref 102), (1, ii (hd : Int)), (2, ii (hd2 : Int)), (3, ii place)]) (S' := [ii (hd : Int), .ref 102, ii 0, .ref 102]) dm_X12_found_52 rfl rfl rfl rfl ?_
          refine me1 (pc' := 54) (L' := [(0, .ref 102), (1, ii (hd : Int)), (2, ii (hd2 : Int)), (3, ii place)]) (S' := [ii (hd2 : Int), ii (hd : Int), .ref 102, ii 0, .ref 102]) dm_X12_found_53 rfl rfl rfl rfl ?_
          have hfl := fstN_le (fun k => vsame (e + 1) (vit v k) w) (vm v)
          refine x_cv (pc' := 57) (rest := [ii 0, .ref 102]) dm_X12_found_54 rfl (q_inv (As := [ii (hd : Int), ii (hd2 : Int)]) (S := [ii 0, .ref 102]) hm rfl rfl rfl) rfl rfl rfl (r_placeOf_ (s := s) hm (by omega) hB0 hv hh3 hw (by omega)) ?_
          rintro _ _ ⟨t, rfl, rfl, hvw⟩
          refine y_i2l (a := ((fstN (fun k => vsame (e + 1) (vit v k) w) (vm v) : Nat) : Int)) dm_X12_found_57 (pc' := 58) rfl (by omega) (by omega) ?_
          refine x_cv (pc' := 61) (rest := []) dm_X12_found_58 rfl (q_inv (As := [ii 0, .long (Int64.ofInt ((fstN (fun k => vsame (e + 1) (vit v k) w) (vm v) : Nat) : Int))]) (S := []) hm rfl rfl rfl) rfl rfl rfl (r_one_ (s := t) (q := q) (b := b) hm (by omega) (hvw.1 ▸ hq) (hvw.1 ▸ hb) (by omega) (by omega) (by omega)) ?_
          rintro _ _ ⟨rfl, rfl⟩
          refine y_ret (r := some (ii (q : Int))) dm_X12_found_61 rfl rfl rfl ?_
          rw [show d_find (e + 1) v w = .inr (v1 0 (Int64.ofInt ((fstN (fun k => vsame (e + 1) (vit v k) w) (vm v) : Nat) : Int))) by unfold d_find; rw [if_neg (by omega), if_pos (by omega)]]
          exact ⟨_, rfl, rres_bk (vw3_pre hvw) (rres_row (kind := 0) (n := 1) (w := v1 0 (Int64.ofInt ((fstN (fun k => vsame (e + 1) (vit v k) w) (vm v) : Nat) : Int))) (hvw.1 ▸ hq) hq3 (hvw.1 ▸ hb) (hvw.1 ▸ he0) (vw1_one (by omega)) (by show ¬ 0 = 7; omega) (by show ¬ 0 = 6; omega) rfl rfl rfl (fun _ _ => rfl) (by omega) (Nat.le_refl _))⟩
    · replace hb2 := dT hb2
      refine me1 (pc' := 17) (L' := [(0, .ref 102), (1, ii (hd : Int)), (2, ii (hd2 : Int)), (3, ii place)]) (S' := [.ref 102]) dm_X12_found_16 rfl rfl rfl rfl ?_
      refine me1 (pc' := 18) (L' := [(0, .ref 102), (1, ii (hd : Int)), (2, ii (hd2 : Int)), (3, ii place)]) (S' := [ii (hd2 : Int), .ref 102]) dm_X12_found_17 rfl rfl rfl rfl ?_
      refine x_cp (pc' := 21) (v := ii (vk w : Int)) (rest := []) dm_X12_found_18 rfl (q_inv (As := [ii (hd2 : Int)]) (S := []) hm rfl rfl rfl) rfl rfl rfl (r_kindOf_ hm (by omega) hB0 hw) ?_
      refine me0 (pc' := 23) (S' := [ii 6, ii (vk w : Int)]) dm_X12_found_21 rfl rfl rfl rfl ?_
      refine y_2lt (a := (vk w : Int)) (b := 6) (t := 33) (pc' := 26) dm_X12_found_23 rfl rfl (by omega) (fun hb6 => ?_) (fun hb6 => ?_)
      · refine me1 (pc' := 34) (L' := [(0, .ref 102), (1, ii (hd : Int)), (2, ii (hd2 : Int)), (3, ii place)]) (S' := [.ref 102]) dm_X12_found_33 rfl rfl rfl rfl ?_
        refine me1 (pc' := 35) (L' := [(0, .ref 102), (1, ii (hd : Int)), (2, ii (hd2 : Int)), (3, ii place)]) (S' := [ii (hd : Int), .ref 102]) dm_X12_found_34 rfl rfl rfl rfl ?_
        refine x_cp (pc' := 38) (v := zz (decide (2 ≤ vk v ∧ vk v ≤ 5))) (rest := []) dm_X12_found_35 rfl (q_inv (As := [ii (hd : Int)]) (S := []) hm rfl rfl rfl) rfl rfl rfl (r_isRow_ hm (by omega) hB0 hv) ?_
        refine y_zeq (c := decide (2 ≤ vk v ∧ vk v ≤ 5)) (t := 49) (pc' := 41) dm_X12_found_38 rfl rfl (fun hb7 => ?_) (fun hb7 => ?_)
        · replace hb7 := dF hb7
          refine me1 (pc' := 50) (L' := [(0, .ref 102), (1, ii (hd : Int)), (2, ii (hd2 : Int)), (3, ii place)]) (S' := [.ref 102]) dm_X12_found_49 rfl rfl rfl rfl ?_
          refine me0 (pc' := 51) (S' := [ii 0, .ref 102]) dm_X12_found_50 rfl rfl rfl rfl ?_
          refine me1 (pc' := 52) (L' := [(0, .ref 102), (1, ii (hd : Int)), (2, ii (hd2 : Int)), (3, ii place)]) (S' := [.ref 102, ii 0, .ref 102]) dm_X12_found_51 rfl rfl rfl rfl ?_
          refine me1 (pc' := 53) (L' := [(0, .ref 102), (1, ii (hd : Int)), (2, ii (hd2 : Int)), (3, ii place)]) (S' := [ii (hd : Int), .ref 102, ii 0, .ref 102]) dm_X12_found_52 rfl rfl rfl rfl ?_
          refine me1 (pc' := 54) (L' := [(0, .ref 102), (1, ii (hd : Int)), (2, ii (hd2 : Int)), (3, ii place)]) (S' := [ii (hd2 : Int), ii (hd : Int), .ref 102, ii 0, .ref 102]) dm_X12_found_53 rfl rfl rfl rfl ?_
          have hfl := fstN_le (fun k => vsame (e + 1) (vit v k) w) (vm v)
          refine x_cv (pc' := 57) (rest := [ii 0, .ref 102]) dm_X12_found_54 rfl (q_inv (As := [ii (hd : Int), ii (hd2 : Int)]) (S := [ii 0, .ref 102]) hm rfl rfl rfl) rfl rfl rfl (r_placeOf_ (s := s) hm (by omega) hB0 hv hh3 hw (by omega)) ?_
          rintro _ _ ⟨t, rfl, rfl, hvw⟩
          refine y_i2l (a := ((fstN (fun k => vsame (e + 1) (vit v k) w) (vm v) : Nat) : Int)) dm_X12_found_57 (pc' := 58) rfl (by omega) (by omega) ?_
          refine x_cv (pc' := 61) (rest := []) dm_X12_found_58 rfl (q_inv (As := [ii 0, .long (Int64.ofInt ((fstN (fun k => vsame (e + 1) (vit v k) w) (vm v) : Nat) : Int))]) (S := []) hm rfl rfl rfl) rfl rfl rfl (r_one_ (s := t) (q := q) (b := b) hm (by omega) (hvw.1 ▸ hq) (hvw.1 ▸ hb) (by omega) (by omega) (by omega)) ?_
          rintro _ _ ⟨rfl, rfl⟩
          refine y_ret (r := some (ii (q : Int))) dm_X12_found_61 rfl rfl rfl ?_
          rw [show d_find (e + 1) v w = .inr (v1 0 (Int64.ofInt ((fstN (fun k => vsame (e + 1) (vit v k) w) (vm v) : Nat) : Int))) by unfold d_find; rw [if_neg (by omega), if_pos (by omega)]]
          exact ⟨_, rfl, rres_bk (vw3_pre hvw) (rres_row (kind := 0) (n := 1) (w := v1 0 (Int64.ofInt ((fstN (fun k => vsame (e + 1) (vit v k) w) (vm v) : Nat) : Int))) (hvw.1 ▸ hq) hq3 (hvw.1 ▸ hb) (hvw.1 ▸ he0) (vw1_one (by omega)) (by show ¬ 0 = 7; omega) (by show ¬ 0 = 6; omega) rfl rfl rfl (fun _ _ => rfl) (by omega) (Nat.le_refl _))⟩
        · replace hb7 := dT hb7
          refine me1 (pc' := 42) (L' := [(0, .ref 102), (1, ii (hd : Int)), (2, ii (hd2 : Int)), (3, ii place)]) (S' := [.ref 102]) dm_X12_found_41 rfl rfl rfl rfl ?_
          refine me1 (pc' := 43) (L' := [(0, .ref 102), (1, ii (hd : Int)), (2, ii (hd2 : Int)), (3, ii place)]) (S' := [ii (hd2 : Int), .ref 102]) dm_X12_found_42 rfl rfl rfl rfl ?_
          refine x_cp (pc' := 46) (v := zz (decide (vk w ≤ 1))) (rest := []) dm_X12_found_43 rfl (q_inv (As := [ii (hd2 : Int)]) (S := []) hm rfl rfl rfl) rfl rfl rfl (r_isOne_ hm (by omega) hB0 hw) ?_
          refine y_zeq (c := decide (vk w ≤ 1)) (t := 62) (pc' := 49) dm_X12_found_46 rfl rfl (fun hb8 => ?_) (fun hb8 => ?_)
          · replace hb8 := dF hb8
            refine me1 (pc' := 63) (L' := [(0, .ref 102), (1, ii (hd : Int)), (2, ii (hd2 : Int)), (3, ii place)]) (S' := [.ref 102]) dm_X12_found_62 rfl rfl rfl rfl ?_
            refine me0 (pc' := 64) (S' := [ii 4, .ref 102]) dm_X12_found_63 rfl rfl rfl rfl ?_
            refine me1 (pc' := 65) (L' := [(0, .ref 102), (1, ii (hd : Int)), (2, ii (hd2 : Int)), (3, ii place)]) (S' := [.ref 102, ii 4, .ref 102]) dm_X12_found_64 rfl rfl rfl rfl ?_
            refine me1 (pc' := 66) (L' := [(0, .ref 102), (1, ii (hd : Int)), (2, ii (hd2 : Int)), (3, ii place)]) (S' := [ii (hd2 : Int), .ref 102, ii 4, .ref 102]) dm_X12_found_65 rfl rfl rfl rfl ?_
            refine x_cp (pc' := 69) (v := ii (vm w : Int)) (rest := [ii 4, .ref 102]) dm_X12_found_66 rfl (q_inv (As := [ii (hd2 : Int)]) (S := [ii 4, .ref 102]) hm rfl rfl rfl) rfl rfl rfl (r_many_ hm (by omega) hB0 hw) ?_
            refine x_cv (pc' := 72) (rest := []) dm_X12_found_69 rfl (q_inv (As := [ii 4, ii (vm w : Int)]) (S := []) hm rfl rfl rfl) rfl rfl rfl (r_row_ (q := q) (b := b) (s := s) hm (by omega) hq hb (by omega) (by omega) (by omega)) ?_
            rintro _ _ ⟨rfl, rfl⟩
            have hxT : rext s (rowS s q b 4 (vm w : Int)) := rext_row hq hb _ (by omega)
            have hBT : rB (rowS s q b 4 (vm w : Int)) := ⟨by show 3 ≤ (q : Int) + 1; omega, by show (q : Int) + 1 ≤ 310000; omega, by show 0 ≤ (b : Int) + (vm w : Int); omega, by show (b : Int) + (vm w : Int) ≤ 820000; omega⟩
            have hvT : ∀ (k : Nat) (F : Nat → Int64), rv (fillS (rowS s q b 4 (vm w : Int)) b k F) (e + 1) hd v := fun k F => rv_ext (rext_fill hxT (by omega) F) hh3 hv
            have hwT : ∀ (k : Nat) (F : Nat → Int64), rv (fillS (rowS s q b 4 (vm w : Int)) b k F) (e + 1) hd2 w := fun k F => rv_ext (rext_fill hxT (by omega) F) hh4 hw
            refine me1 (pc' := 74) (L' := [(4, ii (q : Int)), (0, .ref 102), (1, ii (hd : Int)), (2, ii (hd2 : Int)), (3, ii place)]) (S' := []) dm_X12_found_72 rfl rfl rfl rfl ?_
            refine me0 (pc' := 75) (S' := [ii 0]) dm_X12_found_74 rfl rfl rfl rfl ?_
            refine me1 (pc' := 77) (L' := [(5, ii 0), (4, ii (q : Int)), (0, .ref 102), (1, ii (hd : Int)), (2, ii (hd2 : Int)), (3, ii place)]) (S' := []) dm_X12_found_75 rfl rfl rfl rfl ?_
            have lp77 : ∀ (n77 : Nat) (k : Nat) (t : RS) (g : Nat → Int64), vm w - k = n77 → (k ≤ vm w) → (vw3 (fillS (rowS s q b 4 (vm w : Int)) b k g) t) → (∀ j, j < k → g j = (fun i => Int64.ofInt ((fstN (fun k => vsame (e + 1) (vit v k) (vit w i)) (vm v) : Nat) : Int)) j) → pgE xt (d - 1) 12 6 false (Option.some Jvm.ClassFile.FieldType.int) (mj_dec prog_14_method_59_code) 77 [(0, .ref 102), (1, ii (hd : Int)), (2, ii (hd2 : Int)), (3, ii place), (4, ii (q : Int)), (5, ii ((k : Nat) : Int))] [] (rI pre post t.1 t.2.1 t.2.2.1 t.2.2.2) (fun r h' => ∃ x, r = some x ∧ rres pre post s (e + 1) (d_find (e + 1) v w) place 120 1 x h') := by
              intro n77
              induction n77 using Nat.strongRecOn with
              | ind n77 ih77 =>
                intro k t g hm77 hk hvw hg
                have hpt := vw3_pre hvw
                have hvt := rv_ext hpt.1 hh3 (hvT k g)
                have hwt := rv_ext hpt.1 hh4 (hwT k g)
                have hBt := rB_vw hvw hBT
                have ht4 : t.1 4 = (q : Int) + 1 := by rw [hvw.1]; rfl
                have hfrt : t.2.2.1 1 q = (b : Int) := (hvw.2.2.2.2 q hq3).1.trans (up_eq _ _ _)
                refine me1 (pc' := 79) (L' := [(0, .ref 102), (1, ii (hd : Int)), (2, ii (hd2 : Int)), (3, ii place), (4, ii (q : Int)), (5, ii ((k : Nat) : Int))]) (S' := [ii ((k : Nat) : Int)]) dm_X12_found_77 rfl rfl rfl rfl ?_
                refine me1 (pc' := 80) (L' := [(0, .ref 102), (1, ii (hd : Int)), (2, ii (hd2 : Int)), (3, ii place), (4, ii (q : Int)), (5, ii ((k : Nat) : Int))]) (S' := [.ref 102, ii ((k : Nat) : Int)]) dm_X12_found_79 rfl rfl rfl rfl ?_
                refine me1 (pc' := 81) (L' := [(0, .ref 102), (1, ii (hd : Int)), (2, ii (hd2 : Int)), (3, ii place), (4, ii (q : Int)), (5, ii ((k : Nat) : Int))]) (S' := [ii (hd2 : Int), .ref 102, ii ((k : Nat) : Int)]) dm_X12_found_80 rfl rfl rfl rfl ?_
                refine x_cp (pc' := 84) (v := ii (vm w : Int)) (rest := [ii ((k : Nat) : Int)]) dm_X12_found_81 rfl (q_inv (As := [ii (hd2 : Int)]) (S := [ii ((k : Nat) : Int)]) hm rfl rfl rfl) rfl rfl rfl (r_many_ hm (by omega) hBt hwt) ?_
                refine y_2ge (a := ((k : Nat) : Int)) (b := (vm w : Int)) (t := 122) (pc' := 87) dm_X12_found_84 rfl rfl (by omega) (fun hb9 => ?_) (fun hb9 => ?_)
                · refine me1 (pc' := 124) (L' := [(0, .ref 102), (1, ii (hd : Int)), (2, ii (hd2 : Int)), (3, ii place), (4, ii (q : Int)), (5, ii ((k : Nat) : Int))]) (S' := [ii (q : Int)]) dm_X12_found_122 rfl rfl rfl rfl ?_
                  refine y_ret (r := some (ii (q : Int))) dm_X12_found_124 rfl rfl rfl ?_
                  have hkn : k = vm w := by omega
                  rw [hkn] at hvw hg
                  rw [show d_find (e + 1) v w = .inr (vrow 4 (vm w) (fun i => Int64.ofInt ((fstN (fun k => vsame (e + 1) (vit v k) (vit w i)) (vm v) : Nat) : Int))) by unfold d_find; rw [if_neg (by omega), if_neg (by omega)]]
                  exact ⟨_, rfl, rres_rowv (kind := 4) hvw hq hq3 hb he0 (vw1_row (by omega) (by omega) (by omega)) (by show ¬ 4 = 7; omega) (by show ¬ 4 = 6; omega) rfl rfl rfl (fun j hj => hg j hj) (by omega) (Nat.le_refl _)⟩
                · refine me1 (pc' := 88) (L' := [(0, .ref 102), (1, ii (hd : Int)), (2, ii (hd2 : Int)), (3, ii place), (4, ii (q : Int)), (5, ii ((k : Nat) : Int))]) (S' := [.ref 102]) dm_X12_found_87 rfl rfl rfl rfl ?_
                  refine me3 (pc' := 91) (S' := [.ref (102 + 1)]) dm_X12_found_88 (q_getr hm rfl (fun m i l => rg_0 m i l)) rfl rfl rfl ?_
                  refine me1 (pc' := 92) (L' := [(0, .ref 102), (1, ii (hd : Int)), (2, ii (hd2 : Int)), (3, ii place), (4, ii (q : Int)), (5, ii ((k : Nat) : Int))]) (S' := [.ref 102, .ref (102 + 1)]) dm_X12_found_91 rfl rfl rfl rfl ?_
                  refine me3 (pc' := 95) (S' := [.ref (102 + 2), .ref (102 + 1)]) dm_X12_found_92 (q_getr hm rfl (fun m i l => rg_1 m i l)) rfl rfl rfl ?_
                  refine me1 (pc' := 97) (L' := [(0, .ref 102), (1, ii (hd : Int)), (2, ii (hd2 : Int)), (3, ii place), (4, ii (q : Int)), (5, ii ((k : Nat) : Int))]) (S' := [ii (q : Int), .ref (102 + 2), .ref (102 + 1)]) dm_X12_found_95 rfl rfl rfl rfl ?_
                  refine me3 (pc' := 98) (S' := [ii ((t.2.2.1 1) q), .ref (102 + 1)]) dm_X12_found_97 (q_iald (v := (t.2.2.1 1) q) (k := 1) (n := 310000) hm (fun m i l I J => rc_1 m i l I J) (by omega) (by omega) (by decide) rfl) rfl rfl rfl ?_
                  refine pg_st (S' := [ii (b : Int), .ref (102 + 1)]) (congrArg (fun z => ii z :: [.ref (102 + 1)]) (hfrt)) ?_
                  refine me1 (pc' := 100) (L' := [(0, .ref 102), (1, ii (hd : Int)), (2, ii (hd2 : Int)), (3, ii place), (4, ii (q : Int)), (5, ii ((k : Nat) : Int))]) (S' := [ii ((k : Nat) : Int), ii (b : Int), .ref (102 + 1)]) dm_X12_found_98 rfl rfl rfl rfl ?_
                  refine y_iadd (a := (b : Int)) (b := ((k : Nat) : Int)) dm_X12_found_100 (pc' := 101) rfl ?_
                  refine me1 (pc' := 102) (L' := [(0, .ref 102), (1, ii (hd : Int)), (2, ii (hd2 : Int)), (3, ii place), (4, ii (q : Int)), (5, ii ((k : Nat) : Int))]) (S' := [.ref 102, ii ((b : Int) + ((k : Nat) : Int)), .ref (102 + 1)]) dm_X12_found_101 rfl rfl rfl rfl ?_
                  refine me1 (pc' := 103) (L' := [(0, .ref 102), (1, ii (hd : Int)), (2, ii (hd2 : Int)), (3, ii place), (4, ii (q : Int)), (5, ii ((k : Nat) : Int))]) (S' := [ii (hd : Int), .ref 102, ii ((b : Int) + ((k : Nat) : Int)), .ref (102 + 1)]) dm_X12_found_102 rfl rfl rfl rfl ?_
                  refine me1 (pc' := 104) (L' := [(0, .ref 102), (1, ii (hd : Int)), (2, ii (hd2 : Int)), (3, ii place), (4, ii (q : Int)), (5, ii ((k : Nat) : Int))]) (S' := [.ref 102, ii (hd : Int), .ref 102, ii ((b : Int) + ((k : Nat) : Int)), .ref (102 + 1)]) dm_X12_found_103 rfl rfl rfl rfl ?_
                  refine me1 (pc' := 105) (L' := [(0, .ref 102), (1, ii (hd : Int)), (2, ii (hd2 : Int)), (3, ii place), (4, ii (q : Int)), (5, ii ((k : Nat) : Int))]) (S' := [ii (hd2 : Int), .ref 102, ii (hd : Int), .ref 102, ii ((b : Int) + ((k : Nat) : Int)), .ref (102 + 1)]) dm_X12_found_104 rfl rfl rfl rfl ?_
                  refine me1 (pc' := 107) (L' := [(0, .ref 102), (1, ii (hd : Int)), (2, ii (hd2 : Int)), (3, ii place), (4, ii (q : Int)), (5, ii ((k : Nat) : Int))]) (S' := [ii ((k : Nat) : Int), ii (hd2 : Int), .ref 102, ii (hd : Int), .ref 102, ii ((b : Int) + ((k : Nat) : Int)), .ref (102 + 1)]) dm_X12_found_105 rfl rfl rfl rfl ?_
                  refine me0 (pc' := 108) (S' := [ii 1, ii ((k : Nat) : Int), ii (hd2 : Int), .ref 102, ii (hd : Int), .ref 102, ii ((b : Int) + ((k : Nat) : Int)), .ref (102 + 1)]) dm_X12_found_107 rfl rfl rfl rfl ?_
                  refine x_cv (pc' := 111) (rest := [ii (hd : Int), .ref 102, ii ((b : Int) + ((k : Nat) : Int)), .ref (102 + 1)]) dm_X12_found_108 rfl (q_inv (As := [ii (hd2 : Int), ii ((k : Nat) : Int), ii 1]) (S := [ii (hd : Int), .ref 102, ii ((b : Int) + ((k : Nat) : Int)), .ref (102 + 1)]) hm rfl rfl rfl) rfl rfl rfl (r_itemAt_ (s := t) (t := 1) hm (by omega) hBt hwt (by omega) (by omega) (by omega)) ?_
                  rintro _ _ ⟨p, s1, rfl, rfl, hpv, hws, hp3⟩
                  have hfl := fstN_le (fun j => vsame (e + 1) (vit v j) (vit w k)) (vm v)
                  have h3w := vw3_of (by omega) hws
                  refine x_cv (pc' := 114) (rest := [ii ((b : Int) + ((k : Nat) : Int)), .ref (102 + 1)]) dm_X12_found_111 rfl (q_inv (As := [ii (hd : Int), ii (p : Int)]) (S := [ii ((b : Int) + ((k : Nat) : Int)), .ref (102 + 1)]) hm rfl rfl rfl) rfl rfl rfl (r_placeOf_ (s := s1) hm (by omega) (rB_vw h3w hBt) (rv_ext (vw3_pre h3w).1 hh3 hvt) hh3 hpv (by omega)) ?_
                  rintro _ _ ⟨t2, rfl, rfl, hvw2⟩
                  refine y_i2l (a := ((fstN (fun j => vsame (e + 1) (vit v j) (vit w k)) (vm v) : Nat) : Int)) dm_X12_found_114 (pc' := 115) rfl (by omega) (by omega) ?_
                  refine me3 (pc' := 116) (S' := []) (h1 := rI pre post t2.1 t2.2.1 t2.2.2.1 (va_up t2.2.2.2 0 (va_up (t2.2.2.2 0) (b + k) (Int64.ofInt ((fstN (fun j => vsame (e + 1) (vit v j) (vit w k)) (vm v) : Nat) : Int))))) dm_X12_found_115 (q_last (j := (b : Int) + ((k : Nat) : Int)) (k := 0) (n := 820000) hm (fun m i l I J => rc_0 m i l I J) (fun m i l I J f => rs_0 m i l I J f) (by omega) (by omega) (by decide)) rfl rfl rfl ?_
                  obtain ⟨u, hu, hvu⟩ := fill_vw (pre := pre) (post := post) (x := Int64.ofInt ((fstN (fun j => vsame (e + 1) (vit v j) (vit w k)) (vm v) : Nat) : Int)) (vw3_tr hvw (vw3_tr h3w hvw2))
                  refine pg_cast (h2 := rI pre post u.1 u.2.1 u.2.2.1 u.2.2.2) hu ?_
                  refine y_iinc (pc' := 119) (L' := [(5, ii (((k : Nat) : Int) + 1)), (0, .ref 102), (1, ii (hd : Int)), (2, ii (hd2 : Int)), (3, ii place), (4, ii (q : Int))]) dm_X12_found_116 (y_incp (a := ((k : Nat) : Int)) (c := 1) rfl rfl (by decide)) rfl ?_
                  refine me2 (pc' := 77) (S' := []) dm_X12_found_119 rfl rfl rfl ?_
                  exact pg_sub (L := [(0, .ref 102), (1, ii (hd : Int)), (2, ii (hd2 : Int)), (3, ii place), (4, ii (q : Int)), (5, ii (((k + 1) : Nat) : Int))]) rfl rfl rfl (ih77 (vm w - (k + 1)) (by omega) (k + 1) u (va_up g k (Int64.ofInt ((fstN (fun j => vsame (e + 1) (vit v j) (vit w k)) (vm v) : Nat) : Int))) rfl (by omega) hvu (fun j hj => by rw [up_at]; by_cases z : j = k; (rw [if_pos z, z]); (rw [if_neg z]; exact hg j (by omega))))
            exact pg_sub (L := [(0, .ref 102), (1, ii (hd : Int)), (2, ii (hd2 : Int)), (3, ii place), (4, ii (q : Int)), (5, ii ((0 : Nat) : Int))]) rfl rfl rfl (lp77 _ 0 (rowS s q b 4 (vm w : Int)) (fun _ => 0) rfl (Nat.zero_le _) (by rw [fillS_0]; exact vw3_rf _) (fun j hj => absurd hj (Nat.not_lt_zero j)))
          · replace hb8 := dT hb8
            refine me1 (pc' := 50) (L' := [(0, .ref 102), (1, ii (hd : Int)), (2, ii (hd2 : Int)), (3, ii place)]) (S' := [.ref 102]) dm_X12_found_49 rfl rfl rfl rfl ?_
            refine me0 (pc' := 51) (S' := [ii 0, .ref 102]) dm_X12_found_50 rfl rfl rfl rfl ?_
            refine me1 (pc' := 52) (L' := [(0, .ref 102), (1, ii (hd : Int)), (2, ii (hd2 : Int)), (3, ii place)]) (S' := [.ref 102, ii 0, .ref 102]) dm_X12_found_51 rfl rfl rfl rfl ?_
            refine me1 (pc' := 53) (L' := [(0, .ref 102), (1, ii (hd : Int)), (2, ii (hd2 : Int)), (3, ii place)]) (S' := [ii (hd : Int), .ref 102, ii 0, .ref 102]) dm_X12_found_52 rfl rfl rfl rfl ?_
            refine me1 (pc' := 54) (L' := [(0, .ref 102), (1, ii (hd : Int)), (2, ii (hd2 : Int)), (3, ii place)]) (S' := [ii (hd2 : Int), ii (hd : Int), .ref 102, ii 0, .ref 102]) dm_X12_found_53 rfl rfl rfl rfl ?_
            have hfl := fstN_le (fun k => vsame (e + 1) (vit v k) w) (vm v)
            refine x_cv (pc' := 57) (rest := [ii 0, .ref 102]) dm_X12_found_54 rfl (q_inv (As := [ii (hd : Int), ii (hd2 : Int)]) (S := [ii 0, .ref 102]) hm rfl rfl rfl) rfl rfl rfl (r_placeOf_ (s := s) hm (by omega) hB0 hv hh3 hw (by omega)) ?_
            rintro _ _ ⟨t, rfl, rfl, hvw⟩
            refine y_i2l (a := ((fstN (fun k => vsame (e + 1) (vit v k) w) (vm v) : Nat) : Int)) dm_X12_found_57 (pc' := 58) rfl (by omega) (by omega) ?_
            refine x_cv (pc' := 61) (rest := []) dm_X12_found_58 rfl (q_inv (As := [ii 0, .long (Int64.ofInt ((fstN (fun k => vsame (e + 1) (vit v k) w) (vm v) : Nat) : Int))]) (S := []) hm rfl rfl rfl) rfl rfl rfl (r_one_ (s := t) (q := q) (b := b) hm (by omega) (hvw.1 ▸ hq) (hvw.1 ▸ hb) (by omega) (by omega) (by omega)) ?_
            rintro _ _ ⟨rfl, rfl⟩
            refine y_ret (r := some (ii (q : Int))) dm_X12_found_61 rfl rfl rfl ?_
            rw [show d_find (e + 1) v w = .inr (v1 0 (Int64.ofInt ((fstN (fun k => vsame (e + 1) (vit v k) w) (vm v) : Nat) : Int))) by unfold d_find; rw [if_neg (by omega), if_pos (by omega)]]
            exact ⟨_, rfl, rres_bk (vw3_pre hvw) (rres_row (kind := 0) (n := 1) (w := v1 0 (Int64.ofInt ((fstN (fun k => vsame (e + 1) (vit v k) w) (vm v) : Nat) : Int))) (hvw.1 ▸ hq) hq3 (hvw.1 ▸ hb) (hvw.1 ▸ he0) (vw1_one (by omega)) (by show ¬ 0 = 7; omega) (by show ¬ 0 = 6; omega) rfl rfl rfl (fun _ _ => rfl) (by omega) (Nat.le_refl _))⟩
      · refine me1 (pc' := 27) (L' := [(0, .ref 102), (1, ii (hd : Int)), (2, ii (hd2 : Int)), (3, ii place)]) (S' := [.ref 102]) dm_X12_found_26 rfl rfl rfl rfl ?_
        refine me0 (pc' := 28) (S' := [ii 3, .ref 102]) dm_X12_found_27 rfl rfl rfl rfl ?_
        refine me1 (pc' := 29) (L' := [(0, .ref 102), (1, ii (hd : Int)), (2, ii (hd2 : Int)), (3, ii place)]) (S' := [ii place, ii 3, .ref 102]) dm_X12_found_28 rfl rfl rfl rfl ?_
        refine x_cv (pc' := 32) (rest := []) dm_X12_found_29 rfl (q_inv (As := [ii 3, ii place]) (S := []) hm rfl rfl rfl) rfl rfl rfl (r_fail_ (s := s) hm (by omega) he0 hca.1 hca.2) ?_
        rintro _ _ ⟨rfl, rfl⟩
        refine y_ret (r := some (ii (-1))) dm_X12_found_32 rfl rfl rfl ?_
        rw [show d_find (e + 1) v w = .inl 3 by unfold d_find; rw [if_pos (by omega)]]
        exact ⟨_, rfl, rres_fail (rpre_rf s) he0⟩
