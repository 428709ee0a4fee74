theorem setS_row (s : RS) (q b kf n m : Nat) (k0 : Int) (g : Nat → Int64) : setS (fillS (rowS s q b k0 (n : Int)) b m g) q b kf n = fillS (rowS s q b (kf : Int) (n : Int)) b m g := by
  have hA : viewI (va_up (va_up s.2.2.1 1 (va_up (s.2.2.1 1) q (b : Int))) 2 (va_up (s.2.2.1 2) q (k0 + (n : Int) * 8))) q (kf : Int) (b : Int) (n : Int) = va_up (va_up s.2.2.1 1 (va_up (s.2.2.1 1) q (b : Int))) 2 (va_up (s.2.2.1 2) q ((kf : Int) + (n : Int) * 8)) := by
    unfold viewI
    funext j
    by_cases h2 : j = 2
    · subst h2
      rw [up_eq, up_eq]
      show va_up (va_up (s.2.2.1 2) q _) q _ = _
      rw [up_up, up_eq]
    · rw [up_ne _ _ h2, up_ne _ _ h2]
      by_cases h1 : j = 1
      · subst h1
        rw [up_eq, up_eq]
        show va_up (va_up (s.2.2.1 1) q _) q _ = _
        rw [up_up]
      · rw [up_ne _ _ h1, up_ne _ _ h2]
  show (_, _, viewI (va_up (va_up s.2.2.1 1 (va_up (s.2.2.1 1) q (b : Int))) 2 (va_up (s.2.2.1 2) q (k0 + (n : Int) * 8))) q (kf : Int) (b : Int) (n : Int), _) = _
  rw [hA]
  rfl
/-- an item with a handle of its own -/
theorem rres_item {pre post : mj_H} {s s1 : RS} {e q p : Nat} {place : Int} {w : VV} (hq : s.1 4 = (q : Int)) (he : s.1 5 = 0) (hw : vwS (va_up s.1 4 ((q : Int) + 1), s.2.1, s.2.2.1, s.2.2.2) q s1) (hp : 3 ≤ p) (hv : rv s1 (e + 1) p w) : rres pre post s (e + 1) (.inr w) place 0 1 (ii (p : Int)) (rS pre post s1) := by
  obtain ⟨a1, a2, a3, a4, a5⟩ := hw
  have a1 : s1.1 = va_up s.1 4 ((q : Int) + 1) := a1
  have a2 : s1.2.1 = s.2.1 := a2
  have a3 : s1.2.2.2 = s.2.2.2 := a3
  have hr2 := rvb_ge (o := .inr w) (vb := 1) (by decide)
  refine ⟨s1, rfl, ⟨?_, ?_, fun hd _ h2 => a5 hd (by omega), fun k _ => by rw [a3]⟩, ⟨fun k _ c4 _ _ _ => ?_, a2, fun k c1 c2 _ _ _ => a4 k c1 c2, fun k _ => by rw [a3], fun j _ => by rw [a4 12 (by decide) (by decide)]⟩, ?_, ?_, ?_, ?_, p, hp, rfl, hv⟩
  · rw [a1, up_eq]; omega
  · rw [a1, up_ne _ _ (by decide)]; exact Int.le_refl _
  · rw [a1, up_ne _ _ c4]
  · rw [a1, up_ne _ _ (by decide)]; omega
  · rw [a1, up_eq]; omega
  · rw [a1, up_ne _ _ (by decide)]; exact he
  · rw [a1, up_ne _ _ (by decide)]
/-- behind nest: what waited from base on is a nest's -/
def nestS (s : RS) (q b n base : Nat) : RS := (va_up (fillS (rowS s q b 7 (n : Int)) b n (fun k => Int64.ofInt (s.2.2.1 12 (base + k)))).1 13 (base : Int), (fillS (rowS s q b 7 (n : Int)) b n (fun k => Int64.ofInt (s.2.2.1 12 (base + k)))).2.1, (fillS (rowS s q b 7 (n : Int)) b n (fun k => Int64.ofInt (s.2.2.1 12 (base + k)))).2.2.1, (fillS (rowS s q b 7 (n : Int)) b n (fun k => Int64.ofInt (s.2.2.1 12 (base + k)))).2.2.2)
theorem fillS_0 (T : RS) (b : Nat) (g : Nat → Int64) : fillS T b 0 g = T := by
  unfold fillS
  rw [fb_0]
  have h : va_up T.2.2.2 0 (T.2.2.2 0) = T.2.2.2 := by
    funext j
    show (if j = 0 then T.2.2.2 0 else T.2.2.2 j) = T.2.2.2 j
    by_cases h : j = 0
    · rw [if_pos h, h]
    · rw [if_neg h]
  rw [h]
theorem fill_1 {pre post : mj_H} (T : RS) (b : Nat) (x : Int64) : rI pre post T.1 T.2.1 T.2.2.1 (va_up T.2.2.2 0 (va_up (T.2.2.2 0) b x)) = rS pre post (fillS T b 1 (fun _ => x)) := by
  show _ = rI pre post T.1 T.2.1 T.2.2.1 (va_up T.2.2.2 0 (fb b 1 (fun _ => x) (T.2.2.2 0)))
  rw [← fb_1]
/-- what a made value is -/
theorem rv_rowS {s : RS} {e q b n kind : Nat} {g : Nat → Int64} {w : VV} (hw : vw1 w) (h7 : vk w ≠ 7) (h6 : vk w ≠ 6) (hk : vk w = kind) (hm : vm w = n) (hc : vc w = 0) (hf : ∀ k, k < n → g k = vn w k) : rv (fillS (rowS s q b (kind : Int) (n : Int)) b n g) (e + 1) q w := by
  have hqw : vq w = n := by unfold vq; rw [if_neg h6, if_neg h7]; exact hm
  refine rv_flat (fr := b) hw h7 ?_ ?_ ?_ ?_ (fun k hk2 => ?_)
  · show (q : Int) < (q : Int) + 1; omega
  · show va_up (s.2.2.1 1) q _ q = _; rw [up_eq]
  · show va_up (s.2.2.1 2) q _ q = _; rw [up_eq, hk, hm, hc]; omega
  · show (b : Int) + (vq w : Int) ≤ (b : Int) + (n : Int); omega
  · rw [fill_at (by omega), hf k (by omega)]
theorem rv_nestS {s : RS} {e q b n : Nat} {g : Nat → Int64} {ch : Nat → VV} (hq : s.1 4 = (q : Int)) (hb : s.1 3 = (b : Int)) (hn : n ≤ 24) (hf : ∀ k, k < n → ∃ p : Nat, 3 ≤ p ∧ g k = Int64.ofInt (p : Int) ∧ rv s e p (ch k)) : rv (fillS (rowS s q b 7 (n : Int)) b n g) (e + 1) q (vnest n ch) := by
  have hx : rext s (fillS (rowS s q b 7 (n : Int)) b n g) := rext_fill (rext_row hq hb _ (by omega)) (by omega) g
  refine ⟨vw1_nest hn, ?_, ?_, b, ?_, ?_, fun z => absurd rfl z, fun _ k hk => ?_⟩
  · show (q : Int) < (q : Int) + 1; omega
  · show va_up (s.2.2.1 2) q _ q = _; rw [up_eq]; show (7 : Int) + (n : Int) * 8 = ((7 : Nat) : Int) + 8 * (n : Int) + 2048 * ((0 : Nat) : Int); omega
  · show va_up (s.2.2.1 1) q _ q = _; rw [up_eq]
  · show (b : Int) + ((n : Nat) : Int) ≤ (b : Int) + (n : Int); omega
  · obtain ⟨p, p1, p2, p3⟩ := hf k hk
    exact ⟨p, p1, (fill_at hk).trans p2, rv_ext hx p1 p3⟩
theorem pick_f (x : Int64) : (if fitsB x = true then 4 else 5) = vform 1 (fun _ => x) := by
  unfold vform
  by_cases h : fitsB x = true
  · rw [if_pos h, if_pos (allF_iff.mpr (fun k _ => fitsB_iff.mp h))]
  · rw [if_neg h, if_neg (fun z => h (fitsB_iff.mpr (allF_iff.mp z 0 (by omega))))]
theorem rres_dup {pre post : mj_H} {s : RS} {e cb vb : Nat} {o : Nat ⊕ VV} {place : Int} {x : Value} {h' : mj_H} (h : rres pre post s e o place cb vb x h') : rres pre post s (e + 1) o place cb vb x h' := by
  obtain ⟨s1, a1, a2, a3, a4, a5, a6⟩ := h
  refine ⟨s1, a1, a2, a3, a4, a5, ?_⟩
  cases o with
  | inl n => exact a6
  | inr w => obtain ⟨b1, b2, p, b3, b4, b5⟩ := a6; exact ⟨b1, b2, p, b3, b4, rv_up b5⟩
theorem r_itemAtN_ {xt : mj_X} {d e hd : Nat} {pre post : mj_H} {s : RS} {v : VV} (hm : pre.length = 102) {k t : Nat} (hd1 : 2 ≤ d) (hB : rB s) (hv : rv s (e + 1) hd v) (hh3 : 3 ≤ hd) (hk : vk v ≤ 1 ∨ (vk v = 7 ∧ k < vm v)) (hk2 : k ≤ 120) : pgV xt d 262 [.ref 102, ii (hd : Int), ii (k : Int), ii (t : Int)] (rS pre post s) (fun x h' => ∃ q : Nat, x = ii (q : Int) ∧ h' = rS pre post s ∧ 3 ≤ q ∧ rv s (e + 1) q (vit v k)) := by
  have hB0 := hB
  obtain ⟨hB1, hB2, hB3, hB4⟩ := hB
  obtain ⟨fr, hfr, hsh, hlt, hcl, hvk, hvm, hvc, hvq, hvcl⟩ := rv_val hv
  refine x_enter pm_X12_itemAt (L0 := [(0, .ref 102), (1, ii (hd : Int)), (2, ii (k : Int)), (3, ii (t : Int))]) rfl (Nat.le_of_ble_eq_true rfl) (by omega) ?_
  refine me1 (pc' := 1) (L' := [(0, .ref 102), (1, ii (hd : Int)), (2, ii (k : Int)), (3, ii (t : Int))]) (S' := [.ref 102]) dm_X12_itemAt_0 rfl rfl rfl rfl ?_
  refine me1 (pc' := 2) (L' := [(0, .ref 102), (1, ii (hd : Int)), (2, ii (k : Int)), (3, ii (t : Int))]) (S' := [ii (hd : Int), .ref 102]) dm_X12_itemAt_1 rfl rfl rfl rfl ?_
  refine x_cp (pc' := 5) (v := ii (vk v : Int)) (rest := []) dm_X12_itemAt_2 rfl (q_inv (As := [ii (hd : Int)]) (S := []) hm rfl rfl rfl) rfl rfl rfl (r_kindOf_ hm (by omega) hB0 hv) ?_
  refine me1 (pc' := 7) (L' := [(4, ii (vk v : Int)), (0, .ref 102), (1, ii (hd : Int)), (2, ii (k : Int)), (3, ii (t : Int))]) (S' := []) dm_X12_itemAt_5 rfl rfl rfl rfl ?_
  refine me1 (pc' := 9) (L' := [(4, ii (vk v : Int)), (0, .ref 102), (1, ii (hd : Int)), (2, ii (k : Int)), (3, ii (t : Int))]) (S' := [ii (vk v : Int)]) dm_X12_itemAt_7 rfl rfl rfl rfl ?_
  refine me0 (pc' := 11) (S' := [ii 7, ii (vk v : Int)]) dm_X12_itemAt_9 rfl rfl rfl rfl ?_
  refine y_2ne (a := (vk v : Int)) (b := 7) (t := 21) (pc' := 14) dm_X12_itemAt_11 rfl rfl (by omega) (fun hb1 => ?_) (fun hb1 => ?_)
  · refine me1 (pc' := 23) (L' := [(4, ii (vk v : Int)), (0, .ref 102), (1, ii (hd : Int)), (2, ii (k : Int)), (3, ii (t : Int))]) (S' := [ii (vk v : Int)]) dm_X12_itemAt_21 rfl rfl rfl rfl ?_
    refine me0 (pc' := 24) (S' := [ii 1, ii (vk v : Int)]) dm_X12_itemAt_23 rfl rfl rfl rfl ?_
    refine y_2gt (a := (vk v : Int)) (b := 1) (t := 29) (pc' := 27) dm_X12_itemAt_24 rfl rfl (by omega) (fun hb2 => ?_) (fun hb2 => ?_)
    · refine me1 (pc' := 31) (L' := [(4, ii (vk v : Int)), (0, .ref 102), (1, ii (hd : Int)), (2, ii (k : Int)), (3, ii (t : Int))]) (S' := [ii (vk v : Int)]) dm_X12_itemAt_29 rfl rfl rfl rfl ?_
      refine me0 (pc' := 33) (S' := [ii 6, ii (vk v : Int)]) dm_X12_itemAt_31 rfl rfl rfl rfl ?_
      refine y_2ne (a := (vk v : Int)) (b := 6) (t := 64) (pc' := 36) dm_X12_itemAt_33 rfl rfl (by omega) (fun hb3 => ?_) (fun hb3 => ?_)
      · exfalso; omega
      · exfalso; omega
    · refine me1 (pc' := 28) (L' := [(4, ii (vk v : Int)), (0, .ref 102), (1, ii (hd : Int)), (2, ii (k : Int)), (3, ii (t : Int))]) (S' := [ii (hd : Int)]) dm_X12_itemAt_27 rfl rfl rfl rfl ?_
      refine y_ret (r := some (ii (hd : Int))) dm_X12_itemAt_28 rfl rfl rfl ?_
      exact ⟨_, rfl, hd, rfl, rfl, hh3, by unfold vit; rw [if_pos (by omega)]; exact hv⟩
  · refine me1 (pc' := 15) (L' := [(4, ii (vk v : Int)), (0, .ref 102), (1, ii (hd : Int)), (2, ii (k : Int)), (3, ii (t : Int))]) (S' := [.ref 102]) dm_X12_itemAt_14 rfl rfl rfl rfl ?_
    refine me1 (pc' := 16) (L' := [(4, ii (vk v : Int)), (0, .ref 102), (1, ii (hd : Int)), (2, ii (k : Int)), (3, ii (t : Int))]) (S' := [ii (hd : Int), .ref 102]) dm_X12_itemAt_15 rfl rfl rfl rfl ?_
    refine me1 (pc' := 17) (L' := [(4, ii (vk v : Int)), (0, .ref 102), (1, ii (hd : Int)), (2, ii (k : Int)), (3, ii (t : Int))]) (S' := [ii (k : Int), ii (hd : Int), .ref 102]) dm_X12_itemAt_16 rfl rfl rfl rfl ?_
    obtain ⟨q, hq3, hqlt, hqk, hcq⟩ := r_value_ (xt := xt) (d := d - 1) (pre := pre) (post := post) (k := k) hm (by omega) hB0 hv (by omega) (by omega)
    refine x_cp (pc' := 20) (v := ii (q : Int)) (rest := []) dm_X12_itemAt_17 rfl (q_inv (As := [ii (hd : Int), ii (k : Int)]) (S := []) hm rfl rfl rfl) rfl rfl rfl (hcq) ?_
    refine y_ret (r := some (ii (q : Int))) dm_X12_itemAt_20 rfl rfl rfl ?_
    exact ⟨_, rfl, q, rfl, rfl, hq3, by unfold vit; rw [if_neg (by omega), if_pos (by omega)]; exact rv_up hqk⟩
set_option maxRecDepth 20000 in
theorem pm_X12_itemOf : mj_mmof pg_ms 261 = some ((⟨"ArrayCalculatorModel", "itemOf", "(II)I"⟩, prog_14_method_18_code, 4, (Option.some Jvm.ClassFile.FieldType.int)), 12, false, mj_dec prog_14_method_18_code) := rfl
theorem dm_X12_itemOf_0 : mj_dec prog_14_method_18_code 0 = some (.aload_n 0, 1) := by decide +kernel
theorem dm_X12_itemOf_1 : mj_dec prog_14_method_18_code 1 = some (.iload_n 1, 1) := by decide +kernel
theorem dm_X12_itemOf_2 : mj_dec prog_14_method_18_code 2 = some (.invokevirtual 146, 3) := by decide +kernel
theorem dm_X12_itemOf_5 : mj_dec prog_14_method_18_code 5 = some (.istore_n 3, 1) := by decide +kernel
theorem dm_X12_itemOf_6 : mj_dec prog_14_method_18_code 6 = some (.iload_n 3, 1) := by decide +kernel
theorem dm_X12_itemOf_7 : mj_dec prog_14_method_18_code 7 = some (.bipush 7, 2) := by decide +kernel
theorem dm_X12_itemOf_9 : mj_dec prog_14_method_18_code 9 = some (.if_icmp .eq 8, 3) := by decide +kernel
theorem dm_X12_itemOf_12 : mj_dec prog_14_method_18_code 12 = some (.iload_n 3, 1) := by decide +kernel
theorem dm_X12_itemOf_13 : mj_dec prog_14_method_18_code 13 = some (.iconst 1, 1) := by decide +kernel
theorem dm_X12_itemOf_14 : mj_dec prog_14_method_18_code 14 = some (.if_icmp .gt 11, 3) := by decide +kernel
theorem dm_X12_itemOf_17 : mj_dec prog_14_method_18_code 17 = some (.aload_n 0, 1) := by decide +kernel
theorem dm_X12_itemOf_18 : mj_dec prog_14_method_18_code 18 = some (.iload_n 1, 1) := by decide +kernel
theorem dm_X12_itemOf_19 : mj_dec prog_14_method_18_code 19 = some (.iload_n 2, 1) := by decide +kernel
theorem dm_X12_itemOf_20 : mj_dec prog_14_method_18_code 20 = some (.iconst 0, 1) := by decide +kernel
theorem dm_X12_itemOf_21 : mj_dec prog_14_method_18_code 21 = some (.invokevirtual 159, 3) := by decide +kernel
theorem dm_X12_itemOf_24 : mj_dec prog_14_method_18_code 24 = some (.ireturn, 1) := by decide +kernel
theorem dm_X12_itemOf_25 : mj_dec prog_14_method_18_code 25 = some (.aload_n 0, 1) := by decide +kernel
theorem dm_X12_itemOf_26 : mj_dec prog_14_method_18_code 26 = some (.dup, 1) := by decide +kernel
theorem dm_X12_itemOf_27 : mj_dec prog_14_method_18_code 27 = some (.getfield 102, 3) := by decide +kernel
theorem dm_X12_itemOf_30 : mj_dec prog_14_method_18_code 30 = some (.iconst 1, 1) := by decide +kernel
theorem dm_X12_itemOf_31 : mj_dec prog_14_method_18_code 31 = some (.iadd, 1) := by decide +kernel
theorem dm_X12_itemOf_32 : mj_dec prog_14_method_18_code 32 = some (.putfield 102, 3) := by decide +kernel
theorem dm_X12_itemOf_35 : mj_dec prog_14_method_18_code 35 = some (.aload_n 0, 1) := by decide +kernel
theorem dm_X12_itemOf_36 : mj_dec prog_14_method_18_code 36 = some (.iload_n 1, 1) := by decide +kernel
theorem dm_X12_itemOf_37 : mj_dec prog_14_method_18_code 37 = some (.iload_n 2, 1) := by decide +kernel
theorem dm_X12_itemOf_38 : mj_dec prog_14_method_18_code 38 = some (.aload_n 0, 1) := by decide +kernel
theorem dm_X12_itemOf_39 : mj_dec prog_14_method_18_code 39 = some (.getfield 102, 3) := by decide +kernel
theorem dm_X12_itemOf_42 : mj_dec prog_14_method_18_code 42 = some (.iconst 1, 1) := by decide +kernel
theorem dm_X12_itemOf_43 : mj_dec prog_14_method_18_code 43 = some (.isub, 1) := by decide +kernel
theorem dm_X12_itemOf_44 : mj_dec prog_14_method_18_code 44 = some (.invokevirtual 159, 3) := by decide +kernel
theorem dm_X12_itemOf_47 : mj_dec prog_14_method_18_code 47 = some (.ireturn, 1) := by decide +kernel
theorem r_itemOf_ {k : Nat} {xt : mj_X} {d e hd q b : Nat} {pre post : mj_H} {s : RS} {v : VV} {place : Int} (hm : pre.length = 102) (hd1 : 3 ≤ d) (hB : rB s) (hv : rv s (e + 1) hd v) (hh3 : 3 ≤ hd) (hq : s.1 4 = (q : Int)) (hb : s.1 3 = (b : Int)) (hq3 : 3 ≤ q) (hV2 : q < 310000) (he0 : s.1 5 = 0) (hca : 0 ≤ s.1 10 ∧ s.1 10 ≤ 100) (hC : b + 300 ≤ 820000) (hk : vk v ≤ 1 ∨ k < vm v) (hk2 : k ≤ 120) : pgV xt d 261 [.ref 102, ii (hd : Int), ii (k : Int)] (rS pre post s) (rres pre post s (e + 1) (.inr (vit v k)) place 0 1) := by
  have hB0 := hB
  obtain ⟨hB1, hB2, hB3, hB4⟩ := hB
  obtain ⟨fr, hfr, hsh, hlt, hcl, hvk, hvm, hvc, hvq, hvcl⟩ := rv_val hv
  refine x_enter pm_X12_itemOf (L0 := [(0, .ref 102), (1, ii (hd : Int)), (2, ii (k : Int))]) rfl (Nat.le_of_ble_eq_true rfl) (by omega) ?_
  refine me1 (pc' := 1) (L' := [(0, .ref 102), (1, ii (hd : Int)), (2, ii (k : Int))]) (S' := [.ref 102]) dm_X12_itemOf_0 rfl rfl rfl rfl ?_
  refine me1 (pc' := 2) (L' := [(0, .ref 102), (1, ii (hd : Int)), (2, ii (k : Int))]) (S' := [ii (hd : Int), .ref 102]) dm_X12_itemOf_1 rfl rfl rfl rfl ?_
  refine x_cp (pc' := 5) (v := ii (vk v : Int)) (rest := []) dm_X12_itemOf_2 rfl (q_inv (As := [ii (hd : Int)]) (S := []) hm rfl rfl rfl) rfl rfl rfl (r_kindOf_ hm (by omega) hB0 hv) ?_
  refine me1 (pc' := 6) (L' := [(3, ii (vk v : Int)), (0, .ref 102), (1, ii (hd : Int)), (2, ii (k : Int))]) (S' := []) dm_X12_itemOf_5 rfl rfl rfl rfl ?_
  refine me1 (pc' := 7) (L' := [(3, ii (vk v : Int)), (0, .ref 102), (1, ii (hd : Int)), (2, ii (k : Int))]) (S' := [ii (vk v : Int)]) dm_X12_itemOf_6 rfl rfl rfl rfl ?_
  refine me0 (pc' := 9) (S' := [ii 7, ii (vk v : Int)]) dm_X12_itemOf_7 rfl rfl rfl rfl ?_
  refine y_2eq (a := (vk v : Int)) (b := 7) (t := 17) (pc' := 12) dm_X12_itemOf_9 rfl rfl (by omega) (fun hb1 => ?_) (fun hb1 => ?_)
  · refine me1 (pc' := 18) (L' := [(3, ii (vk v : Int)), (0, .ref 102), (1, ii (hd : Int)), (2, ii (k : Int))]) (S' := [.ref 102]) dm_X12_itemOf_17 rfl rfl rfl rfl ?_
    refine me1 (pc' := 19) (L' := [(3, ii (vk v : Int)), (0, .ref 102), (1, ii (hd : Int)), (2, ii (k : Int))]) (S' := [ii (hd : Int), .ref 102]) dm_X12_itemOf_18 rfl rfl rfl rfl ?_
    refine me1 (pc' := 20) (L' := [(3, ii (vk v : Int)), (0, .ref 102), (1, ii (hd : Int)), (2, ii (k : Int))]) (S' := [ii (k : Int), ii (hd : Int), .ref 102]) dm_X12_itemOf_19 rfl rfl rfl rfl ?_
    refine me0 (pc' := 21) (S' := [ii 0, ii (k : Int), ii (hd : Int), .ref 102]) dm_X12_itemOf_20 rfl rfl rfl rfl ?_
    refine x_cv (pc' := 24) (rest := []) dm_X12_itemOf_21 rfl (q_inv (As := [ii (hd : Int), ii (k : Int), ii 0]) (S := []) hm rfl rfl rfl) rfl rfl rfl (r_itemAtN_ (t := 0) hm (by omega) hB0 hv hh3 (by omega) (by omega)) ?_
    rintro _ _ ⟨p, rfl, rfl, hp3, hpv⟩
    refine y_ret (r := some (ii (p : Int))) dm_X12_itemOf_24 rfl rfl rfl ?_
    exact ⟨_, rfl, s, rfl, rext_rf s, rfr_rf s, by omega, by omega, he0, rfl, p, hp3, rfl, hpv⟩
  · refine me1 (pc' := 13) (L' := [(3, ii (vk v : Int)), (0, .ref 102), (1, ii (hd : Int)), (2, ii (k : Int))]) (S' := [ii (vk v : Int)]) dm_X12_itemOf_12 rfl rfl rfl rfl ?_
    refine me0 (pc' := 14) (S' := [ii 1, ii (vk v : Int)]) dm_X12_itemOf_13 rfl rfl rfl rfl ?_
    refine y_2gt (a := (vk v : Int)) (b := 1) (t := 25) (pc' := 17) dm_X12_itemOf_14 rfl rfl (by omega) (fun hb2 => ?_) (fun hb2 => ?_)
    · refine me1 (pc' := 26) (L' := [(3, ii (vk v : Int)), (0, .ref 102), (1, ii (hd : Int)), (2, ii (k : Int))]) (S' := [.ref 102]) dm_X12_itemOf_25 rfl rfl rfl rfl ?_
      refine me0 (pc' := 27) (S' := [.ref 102, .ref 102]) dm_X12_itemOf_26 rfl rfl rfl rfl ?_
      refine me3 (pc' := 30) (S' := [ii (s.1 4), .ref 102]) dm_X12_itemOf_27 (q_geti (v := s.1 4) hm rfl (fun m i l => rg_4 m i l) rfl) rfl rfl rfl ?_
      refine me0 (pc' := 31) (S' := [ii 1, ii (s.1 4), .ref 102]) dm_X12_itemOf_30 rfl rfl rfl rfl ?_
      refine y_iadd (a := s.1 4) (b := 1) dm_X12_itemOf_31 (pc' := 32) rfl ?_
      refine me3 (pc' := 35) (S' := []) (h1 := rI pre post (va_up s.1 4 ((s.1 4) + 1)) s.2.1 s.2.2.1 s.2.2.2) dm_X12_itemOf_32 (q_puti hm rfl rfl (fun m i l v => rf_4 m i l v)) rfl rfl rfl ?_
      refine pg_cast (h2 := rS pre post (va_up s.1 4 ((q : Int) + 1), s.2.1, s.2.2.1, s.2.2.2)) (by rw [hq]) ?_
      have hB9 : rB (va_up s.1 4 ((q : Int) + 1), s.2.1, s.2.2.1, s.2.2.2) := ⟨by show 3 ≤ (q : Int) + 1; omega, by show (q : Int) + 1 ≤ 310000; omega, hB3, hB4⟩
      have hx9 : rext s (va_up s.1 4 ((q : Int) + 1), s.2.1, s.2.2.1, s.2.2.2) := ⟨by show s.1 4 ≤ (q : Int) + 1; omega, Int.le_refl _, fun _ _ _ => ⟨rfl, rfl⟩, fun _ _ => rfl⟩
      have hv1 : rv (va_up s.1 4 ((q : Int) + 1), s.2.1, s.2.2.1, s.2.2.2) (e + 1) hd v := rv_ext hx9 hh3 hv
      refine me1 (pc' := 36) (L' := [(3, ii (vk v : Int)), (0, .ref 102), (1, ii (hd : Int)), (2, ii (k : Int))]) (S' := [.ref 102]) dm_X12_itemOf_35 rfl rfl rfl rfl ?_
      refine me1 (pc' := 37) (L' := [(3, ii (vk v : Int)), (0, .ref 102), (1, ii (hd : Int)), (2, ii (k : Int))]) (S' := [ii (hd : Int), .ref 102]) dm_X12_itemOf_36 rfl rfl rfl rfl ?_
      refine me1 (pc' := 38) (L' := [(3, ii (vk v : Int)), (0, .ref 102), (1, ii (hd : Int)), (2, ii (k : Int))]) (S' := [ii (k : Int), ii (hd : Int), .ref 102]) dm_X12_itemOf_37 rfl rfl rfl rfl ?_
      refine me1 (pc' := 39) (L' := [(3, ii (vk v : Int)), (0, .ref 102), (1, ii (hd : Int)), (2, ii (k : Int))]) (S' := [.ref 102, ii (k : Int), ii (hd : Int), .ref 102]) dm_X12_itemOf_38 rfl rfl rfl rfl ?_
      refine me3 (pc' := 42) (S' := [ii ((q : Int) + 1), ii (k : Int), ii (hd : Int), .ref 102]) dm_X12_itemOf_39 (q_geti (v := (q : Int) + 1) hm rfl (fun m i l => rg_4 m i l) rfl) rfl rfl rfl ?_
      refine me0 (pc' := 43) (S' := [ii 1, ii ((q : Int) + 1), ii (k : Int), ii (hd : Int), .ref 102]) dm_X12_itemOf_42 rfl rfl rfl rfl ?_
      refine y_isub (a := (q : Int) + 1) (b := 1) dm_X12_itemOf_43 (pc' := 44) rfl ?_
      refine pg_st (S' := [ii (q : Int), ii (k : Int), ii (hd : Int), .ref 102]) (congrArg (fun z => ii z :: [ii (k : Int), ii (hd : Int), .ref 102]) (by omega)) ?_
      refine x_cv (pc' := 47) (rest := []) dm_X12_itemOf_44 rfl (q_inv (As := [ii (hd : Int), ii (k : Int), ii (q : Int)]) (S := []) hm rfl rfl rfl) rfl rfl rfl (r_itemAt_ (t := q) (s := (va_up s.1 4 ((q : Int) + 1), s.2.1, s.2.2.1, s.2.2.2)) hm (by omega) hB9 hv1 (by omega) (by omega) (by show (q : Int) < (q : Int) + 1; omega)) ?_
      rintro _ _ ⟨p, s1, rfl, rfl, hpv, hws, hp3⟩
      refine y_ret (r := some (ii (p : Int))) dm_X12_itemOf_47 rfl rfl rfl ?_
      exact ⟨_, rfl, rres_item hq he0 hws (by omega) hpv⟩
    · refine me1 (pc' := 18) (L' := [(3, ii (vk v : Int)), (0, .ref 102), (1, ii (hd : Int)), (2, ii (k : Int))]) (S' := [.ref 102]) dm_X12_itemOf_17 rfl rfl rfl rfl ?_
      refine me1 (pc' := 19) (L' := [(3, ii (vk v : Int)), (0, .ref 102), (1, ii (hd : Int)), (2, ii (k : Int))]) (S' := [ii (hd : Int), .ref 102]) dm_X12_itemOf_18 rfl rfl rfl rfl ?_
      refine me1 (pc' := 20) (L' := [(3, ii (vk v : Int)), (0, .ref 102), (1, ii (hd : Int)), (2, ii (k : Int))]) (S' := [ii (k : Int), ii (hd : Int), .ref 102]) dm_X12_itemOf_19 rfl rfl rfl rfl ?_
      refine me0 (pc' := 21) (S' := [ii 0, ii (k : Int), ii (hd : Int), .ref 102]) dm_X12_itemOf_20 rfl rfl rfl rfl ?_
      refine x_cv (pc' := 24) (rest := []) dm_X12_itemOf_21 rfl (q_inv (As := [ii (hd : Int), ii (k : Int), ii 0]) (S := []) hm rfl rfl rfl) rfl rfl rfl (r_itemAtN_ (t := 0) hm (by omega) hB0 hv hh3 (by omega) (by omega)) ?_
      rintro _ _ ⟨p, rfl, rfl, hp3, hpv⟩
      refine y_ret (r := some (ii (p : Int))) dm_X12_itemOf_24 rfl rfl rfl ?_
      exact ⟨_, rfl, s, rfl, rext_rf s, rfr_rf s, by omega, by omega, he0, rfl, p, hp3, rfl, hpv⟩
set_option maxRecDepth 20000 in
theorem pm_X12_oneMore : mj_mmof pg_ms 290 = some ((⟨"ArrayCalculatorModel", "oneMore", "(I)I"⟩, prog_14_method_40_code, 3, (Option.some Jvm.ClassFile.FieldType.int)), 12, false, mj_dec prog_14_method_40_code) := rfl
theorem dm_X12_oneMore_0 : mj_dec prog_14_method_40_code 0 = some (.aload_n 0, 1) := by decide +kernel
theorem dm_X12_oneMore_1 : mj_dec prog_14_method_40_code 1 = some (.aload_n 0, 1) := by decide +kernel
theorem dm_X12_oneMore_2 : mj_dec prog_14_method_40_code 2 = some (.iload_n 1, 1) := by decide +kernel
theorem dm_X12_oneMore_3 : mj_dec prog_14_method_40_code 3 = some (.invokevirtual 146, 3) := by decide +kernel
theorem dm_X12_oneMore_6 : mj_dec prog_14_method_40_code 6 = some (.ifCond .ne 7, 3) := by decide +kernel
theorem dm_X12_oneMore_9 : mj_dec prog_14_method_40_code 9 = some (.iconst 5, 1) := by decide +kernel
theorem dm_X12_oneMore_10 : mj_dec prog_14_method_40_code 10 = some (.goto 18, 3) := by decide +kernel
theorem dm_X12_oneMore_13 : mj_dec prog_14_method_40_code 13 = some (.aload_n 0, 1) := by decide +kernel
theorem dm_X12_oneMore_14 : mj_dec prog_14_method_40_code 14 = some (.iload_n 1, 1) := by decide +kernel
theorem dm_X12_oneMore_15 : mj_dec prog_14_method_40_code 15 = some (.invokevirtual 146, 3) := by decide +kernel
theorem dm_X12_oneMore_18 : mj_dec prog_14_method_40_code 18 = some (.iconst 1, 1) := by decide +kernel
theorem dm_X12_oneMore_19 : mj_dec prog_14_method_40_code 19 = some (.if_icmp .ne 7, 3) := by decide +kernel
theorem dm_X12_oneMore_22 : mj_dec prog_14_method_40_code 22 = some (.iconst 3, 1) := by decide +kernel
theorem dm_X12_oneMore_23 : mj_dec prog_14_method_40_code 23 = some (.goto 5, 3) := by decide +kernel
theorem dm_X12_oneMore_26 : mj_dec prog_14_method_40_code 26 = some (.bipush 7, 2) := by decide +kernel
theorem dm_X12_oneMore_28 : mj_dec prog_14_method_40_code 28 = some (.iconst 1, 1) := by decide +kernel
theorem dm_X12_oneMore_29 : mj_dec prog_14_method_40_code 29 = some (.invokevirtual 126, 3) := by decide +kernel
theorem dm_X12_oneMore_32 : mj_dec prog_14_method_40_code 32 = some (.istore_n 2, 1) := by decide +kernel
theorem dm_X12_oneMore_33 : mj_dec prog_14_method_40_code 33 = some (.aload_n 0, 1) := by decide +kernel
theorem dm_X12_oneMore_34 : mj_dec prog_14_method_40_code 34 = some (.getfield 8, 3) := by decide +kernel
theorem dm_X12_oneMore_37 : mj_dec prog_14_method_40_code 37 = some (.aload_n 0, 1) := by decide +kernel
theorem dm_X12_oneMore_38 : mj_dec prog_14_method_40_code 38 = some (.getfield 15, 3) := by decide +kernel
theorem dm_X12_oneMore_41 : mj_dec prog_14_method_40_code 41 = some (.iload_n 2, 1) := by decide +kernel
theorem dm_X12_oneMore_42 : mj_dec prog_14_method_40_code 42 = some (.iaload, 1) := by decide +kernel
theorem dm_X12_oneMore_43 : mj_dec prog_14_method_40_code 43 = some (.aload_n 0, 1) := by decide +kernel
theorem dm_X12_oneMore_44 : mj_dec prog_14_method_40_code 44 = some (.iload_n 1, 1) := by decide +kernel
theorem dm_X12_oneMore_45 : mj_dec prog_14_method_40_code 45 = some (.invokevirtual 162, 3) := by decide +kernel
theorem dm_X12_oneMore_48 : mj_dec prog_14_method_40_code 48 = some (.ifCond .eq 12, 3) := by decide +kernel
theorem dm_X12_oneMore_51 : mj_dec prog_14_method_40_code 51 = some (.aload_n 0, 1) := by decide +kernel
theorem dm_X12_oneMore_52 : mj_dec prog_14_method_40_code 52 = some (.iload_n 1, 1) := by decide +kernel
theorem dm_X12_oneMore_53 : mj_dec prog_14_method_40_code 53 = some (.iconst 0, 1) := by decide +kernel
theorem dm_X12_oneMore_54 : mj_dec prog_14_method_40_code 54 = some (.invokevirtual 138, 3) := by decide +kernel
theorem dm_X12_oneMore_57 : mj_dec prog_14_method_40_code 57 = some (.goto 5, 3) := by decide +kernel
theorem dm_X12_oneMore_60 : mj_dec prog_14_method_40_code 60 = some (.iload_n 1, 1) := by decide +kernel
theorem dm_X12_oneMore_61 : mj_dec prog_14_method_40_code 61 = some (.i2l, 1) := by decide +kernel
theorem dm_X12_oneMore_62 : mj_dec prog_14_method_40_code 62 = some (.lastore, 1) := by decide +kernel
theorem dm_X12_oneMore_63 : mj_dec prog_14_method_40_code 63 = some (.aload_n 0, 1) := by decide +kernel
theorem dm_X12_oneMore_64 : mj_dec prog_14_method_40_code 64 = some (.iload_n 2, 1) := by decide +kernel
theorem dm_X12_oneMore_65 : mj_dec prog_14_method_40_code 65 = some (.invokevirtual 146, 3) := by decide +kernel
theorem dm_X12_oneMore_68 : mj_dec prog_14_method_40_code 68 = some (.iconst 5, 1) := by decide +kernel
theorem dm_X12_oneMore_69 : mj_dec prog_14_method_40_code 69 = some (.if_icmp .ne 11, 3) := by decide +kernel
theorem dm_X12_oneMore_72 : mj_dec prog_14_method_40_code 72 = some (.aload_n 0, 1) := by decide +kernel
theorem dm_X12_oneMore_73 : mj_dec prog_14_method_40_code 73 = some (.iload_n 2, 1) := by decide +kernel
theorem dm_X12_oneMore_74 : mj_dec prog_14_method_40_code 74 = some (.invokevirtual 205, 3) := by decide +kernel
theorem dm_X12_oneMore_77 : mj_dec prog_14_method_40_code 77 = some (.goto 4, 3) := by decide +kernel
theorem dm_X12_oneMore_80 : mj_dec prog_14_method_40_code 80 = some (.iload_n 2, 1) := by decide +kernel
theorem dm_X12_oneMore_81 : mj_dec prog_14_method_40_code 81 = some (.ireturn, 1) := by decide +kernel
theorem r_oneMore_ {xt : mj_X} {d e hd q b : Nat} {pre post : mj_H} {s : RS} {v : VV} {place : Int} (hm : pre.length = 102) (hd1 : 5 ≤ d) (hB : rB s) (hv : rv s (e + 1) hd v) (hh3 : 3 ≤ hd) (hq : s.1 4 = (q : Int)) (hb : s.1 3 = (b : Int)) (hq3 : 3 ≤ q) (hV2 : q < 310000) (he0 : s.1 5 = 0) (hca : 0 ≤ s.1 10 ∧ s.1 10 ≤ 100) (hC : b + 300 ≤ 820000) : pgV xt d 290 [.ref 102, ii (hd : Int)] (rS pre post s) (rres pre post s (e + 2) (m_more v) place 1 1) := by
  have hB0 := hB
  obtain ⟨hB1, hB2, hB3, hB4⟩ := hB
  obtain ⟨fr, hfr, hsh, hlt, hcl, hvk, hvm, hvc, hvq, hvcl⟩ := rv_val hv
  have hv1 : vk v ≤ 1 → vq v = 1 := vq_1 hv.1
  refine x_enter pm_X12_oneMore (L0 := [(0, .ref 102), (1, ii (hd : Int))]) rfl (Nat.le_of_ble_eq_true rfl) (by omega) ?_
  refine me1 (pc' := 1) (L' := [(0, .ref 102), (1, ii (hd : Int))]) (S' := [.ref 102]) dm_X12_oneMore_0 rfl rfl rfl rfl ?_
  refine me1 (pc' := 2) (L' := [(0, .ref 102), (1, ii (hd : Int))]) (S' := [.ref 102, .ref 102]) dm_X12_oneMore_1 rfl rfl rfl rfl ?_
  refine me1 (pc' := 3) (L' := [(0, .ref 102), (1, ii (hd : Int))]) (S' := [ii (hd : Int), .ref 102, .ref 102]) dm_X12_oneMore_2 rfl rfl rfl rfl ?_
  refine x_cp (pc' := 6) (v := ii (vk v : Int)) (rest := [.ref 102]) dm_X12_oneMore_3 rfl (q_inv (As := [ii (hd : Int)]) (S := [.ref 102]) hm rfl rfl rfl) rfl rfl rfl (r_kindOf_ hm (by omega) hB0 hv) ?_
  refine y_1ne (a := (vk v : Int)) (t := 13) (pc' := 9) dm_X12_oneMore_6 rfl rfl (by omega) (fun hb1 => ?_) (fun hb1 => ?_)
  · refine me1 (pc' := 14) (L' := [(0, .ref 102), (1, ii (hd : Int))]) (S' := [.ref 102, .ref 102]) dm_X12_oneMore_13 rfl rfl rfl rfl ?_
    refine me1 (pc' := 15) (L' := [(0, .ref 102), (1, ii (hd : Int))]) (S' := [ii (hd : Int), .ref 102, .ref 102]) dm_X12_oneMore_14 rfl rfl rfl rfl ?_
    refine x_cp (pc' := 18) (v := ii (vk v : Int)) (rest := [.ref 102]) dm_X12_oneMore_15 rfl (q_inv (As := [ii (hd : Int)]) (S := [.ref 102]) hm rfl rfl rfl) rfl rfl rfl (r_kindOf_ hm (by omega) hB0 hv) ?_
    refine me0 (pc' := 19) (S' := [ii 1, ii (vk v : Int), .ref 102]) dm_X12_oneMore_18 rfl rfl rfl rfl ?_
    refine y_2ne (a := (vk v : Int)) (b := 1) (t := 26) (pc' := 22) dm_X12_oneMore_19 rfl rfl (by omega) (fun hb2 => ?_) (fun hb2 => ?_)
    · refine me0 (pc' := 28) (S' := [ii 7, .ref 102]) dm_X12_oneMore_26 rfl rfl rfl rfl ?_
      refine me0 (pc' := 29) (S' := [ii 1, ii 7, .ref 102]) dm_X12_oneMore_28 rfl rfl rfl rfl ?_
      refine x_cv (pc' := 32) (rest := []) dm_X12_oneMore_29 rfl (q_inv (As := [ii 7, ii 1]) (S := []) hm rfl rfl rfl) rfl rfl rfl (r_row_ (q := q) (b := b) (s := s) hm (by omega) hq hb (by omega) (by omega) (by omega)) ?_
      rintro _ _ ⟨rfl, rfl⟩
      refine me1 (pc' := 33) (L' := [(2, ii (q : Int)), (0, .ref 102), (1, ii (hd : Int))]) (S' := []) dm_X12_oneMore_32 rfl rfl rfl rfl ?_
      have hxT : rext s (rowS s q b 7 1) := rext_row hq hb _ (by omega)
      have hBT : rB (rowS s q b 7 1) := ⟨by show 3 ≤ (q : Int) + 1; omega, by show (q : Int) + 1 ≤ 310000; omega, by show 0 ≤ (b : Int) + 1; omega, by show (b : Int) + 1 ≤ 820000; omega⟩
      have hvT : ∀ (k : Nat) (F : Nat → Int64), rv (fillS (rowS s q b 7 1) b k F) (e + 1) hd v := fun k F => rv_ext (rext_fill hxT (by omega) F) hh3 hv
      refine me1 (pc' := 34) (L' := [(2, ii (q : Int)), (0, .ref 102), (1, ii (hd : Int))]) (S' := [.ref 102]) dm_X12_oneMore_33 rfl rfl rfl rfl ?_
      refine me3 (pc' := 37) (S' := [.ref (102 + 1)]) dm_X12_oneMore_34 (q_getr hm rfl (fun m i l => rg_0 m i l)) rfl rfl rfl ?_
      refine me1 (pc' := 38) (L' := [(2, ii (q : Int)), (0, .ref 102), (1, ii (hd : Int))]) (S' := [.ref 102, .ref (102 + 1)]) dm_X12_oneMore_37 rfl rfl rfl rfl ?_
      refine me3 (pc' := 41) (S' := [.ref (102 + 2), .ref (102 + 1)]) dm_X12_oneMore_38 (q_getr hm rfl (fun m i l => rg_1 m i l)) rfl rfl rfl ?_
      refine me1 (pc' := 42) (L' := [(2, ii (q : Int)), (0, .ref 102), (1, ii (hd : Int))]) (S' := [ii (q : Int), .ref (102 + 2), .ref (102 + 1)]) dm_X12_oneMore_41 rfl rfl rfl rfl ?_
      refine me3 (pc' := 43) (S' := [ii ((((rowS s q b 7 1).2.2.1) 1) q), .ref (102 + 1)]) dm_X12_oneMore_42 (q_iald (v := (((rowS s q b 7 1).2.2.1) 1) q) (k := 1) (n := 310000) hm (fun m i l I J => rc_1 m i l I J) (by omega) (by omega) (by decide) rfl) rfl rfl rfl ?_
      refine pg_st (S' := [ii (b : Int), .ref (102 + 1)]) (congrArg (fun z => ii z :: [.ref (102 + 1)]) (up_eq _ _ _)) ?_
      refine me1 (pc' := 44) (L' := [(2, ii (q : Int)), (0, .ref 102), (1, ii (hd : Int))]) (S' := [.ref 102, ii (b : Int), .ref (102 + 1)]) dm_X12_oneMore_43 rfl rfl rfl rfl ?_
      refine me1 (pc' := 45) (L' := [(2, ii (q : Int)), (0, .ref 102), (1, ii (hd : Int))]) (S' := [ii (hd : Int), .ref 102, ii (b : Int), .ref (102 + 1)]) dm_X12_oneMore_44 rfl rfl rfl rfl ?_
      refine x_cp (pc' := 48) (v := zz (decide (vk v ≤ 1))) (rest := [ii (b : Int), .ref (102 + 1)]) dm_X12_oneMore_45 rfl (q_inv (As := [ii (hd : Int)]) (S := [ii (b : Int), .ref (102 + 1)]) hm rfl rfl rfl) rfl rfl rfl (r_isOne_ hm (by omega) hBT (by have := hvT 0 (fun _ => 0); rwa [show fillS (rowS s q b 7 1) b 0 (fun _ => 0) = (rowS s q b 7 1) from fillS_0 _ _ _] at this)) ?_
      refine y_zeq (c := decide (vk v ≤ 1)) (t := 60) (pc' := 51) dm_X12_oneMore_48 rfl rfl (fun hb3 => ?_) (fun hb3 => ?_)
      · replace hb3 := dF hb3
        refine me1 (pc' := 61) (L' := [(2, ii (q : Int)), (0, .ref 102), (1, ii (hd : Int))]) (S' := [ii (hd : Int), ii (b : Int), .ref (102 + 1)]) dm_X12_oneMore_60 rfl rfl rfl rfl ?_
        refine y_i2l (a := (hd : Int)) dm_X12_oneMore_61 (pc' := 62) rfl (by omega) (by omega) ?_
        refine me3 (pc' := 63) (S' := []) (h1 := rI pre post ((rowS s q b 7 1).1) ((rowS s q b 7 1).2.1) ((rowS s q b 7 1).2.2.1) (va_up ((rowS s q b 7 1).2.2.2) 0 (va_up (((rowS s q b 7 1).2.2.2) 0) b (Int64.ofInt (hd : Int))))) dm_X12_oneMore_62 (q_last (j := (b : Int)) (k := 0) (n := 820000) hm (fun m i l I J => rc_0 m i l I J) (fun m i l I J f => rs_0 m i l I J f) (by omega) (by omega) (by decide)) rfl rfl rfl ?_
        refine pg_cast (h2 := rI pre post ((fillS (rowS s q b 7 1) b 1 (fun _ => (Int64.ofInt (hd : Int)))).1) ((fillS (rowS s q b 7 1) b 1 (fun _ => (Int64.ofInt (hd : Int)))).2.1) ((fillS (rowS s q b 7 1) b 1 (fun _ => (Int64.ofInt (hd : Int)))).2.2.1) ((fillS (rowS s q b 7 1) b 1 (fun _ => (Int64.ofInt (hd : Int)))).2.2.2)) (fill_1 (rowS s q b 7 1) b (Int64.ofInt (hd : Int))) ?_
        refine me1 (pc' := 64) (L' := [(2, ii (q : Int)), (0, .ref 102), (1, ii (hd : Int))]) (S' := [.ref 102]) dm_X12_oneMore_63 rfl rfl rfl rfl ?_
        refine me1 (pc' := 65) (L' := [(2, ii (q : Int)), (0, .ref 102), (1, ii (hd : Int))]) (S' := [ii (q : Int), .ref 102]) dm_X12_oneMore_64 rfl rfl rfl rfl ?_
        have hkq : pgP xt (d - 1) 245 [.ref 102, ii (q : Int)] (rI pre post ((fillS (rowS s q b 7 1) b 1 (fun _ => (Int64.ofInt (hd : Int)))).1) ((fillS (rowS s q b 7 1) b 1 (fun _ => (Int64.ofInt (hd : Int)))).2.1) ((fillS (rowS s q b 7 1) b 1 (fun _ => (Int64.ofInt (hd : Int)))).2.2.1) ((fillS (rowS s q b 7 1) b 1 (fun _ => (Int64.ofInt (hd : Int)))).2.2.2)) (ii 7) := by
          exact r_kindOf_ (s := (fillS (rowS s q b 7 1) b 1 (fun _ => (Int64.ofInt (hd : Int))))) (hd := q) (v := vnest 1 (fun _ => v)) (e := e + 1) hm (by omega) hBT (rv_nestS (e := e + 1) (n := 1) (ch := fun _ => v) hq hb (by omega) (fun k hk => ⟨hd, hh3, rfl, hv⟩))
        refine x_cp (pc' := 68) (v := ii 7) (rest := []) dm_X12_oneMore_65 rfl (q_inv (As := [ii (q : Int)]) (S := []) hm rfl rfl rfl) rfl rfl rfl (hkq) ?_
        refine me0 (pc' := 69) (S' := [ii 5, ii 7]) dm_X12_oneMore_68 rfl rfl rfl rfl ?_
        refine y_2ne (a := 7) (b := 5) (t := 80) (pc' := 72) dm_X12_oneMore_69 rfl rfl (by omega) (fun hb4 => ?_) (fun hb4 => ?_)
        · refine me1 (pc' := 81) (L' := [(2, ii (q : Int)), (0, .ref 102), (1, ii (hd : Int))]) (S' := [ii (q : Int)]) dm_X12_oneMore_80 rfl rfl rfl rfl ?_
          refine y_ret (r := some (ii (q : Int))) dm_X12_oneMore_81 rfl rfl rfl ?_
          rw [show m_more v = .inr (vnest 1 (fun _ => v)) by unfold m_more; rw [if_neg (by omega)]]
          exact ⟨_, rfl, rres_nest (n := 1) (ch := fun _ => v) hq hq3 hb he0 (by omega) (fun k hk => ⟨hd, hh3, rfl, hv⟩) (by omega) (by omega)⟩
        · exfalso; omega
      · replace hb3 := dT hb3; exfalso; omega
    · refine me0 (pc' := 23) (S' := [ii 3, .ref 102]) dm_X12_oneMore_22 rfl rfl rfl rfl ?_
      refine me2 (pc' := 28) (S' := [ii 3, .ref 102]) dm_X12_oneMore_23 rfl rfl rfl ?_
      refine me0 (pc' := 29) (S' := [ii 1, ii 3, .ref 102]) dm_X12_oneMore_28 rfl rfl rfl rfl ?_
      refine x_cv (pc' := 32) (rest := []) dm_X12_oneMore_29 rfl (q_inv (As := [ii 3, ii 1]) (S := []) hm rfl rfl rfl) rfl rfl rfl (r_row_ (q := q) (b := b) (s := s) hm (by omega) hq hb (by omega) (by omega) (by omega)) ?_
      rintro _ _ ⟨rfl, rfl⟩
      refine me1 (pc' := 33) (L' := [(2, ii (q : Int)), (0, .ref 102), (1, ii (hd : Int))]) (S' := []) dm_X12_oneMore_32 rfl rfl rfl rfl ?_
      have hxT : rext s (rowS s q b 3 1) := rext_row hq hb _ (by omega)
      have hBT : rB (rowS s q b 3 1) := ⟨by show 3 ≤ (q : Int) + 1; omega, by show (q : Int) + 1 ≤ 310000; omega, by show 0 ≤ (b : Int) + 1; omega, by show (b : Int) + 1 ≤ 820000; omega⟩
      have hvT : ∀ (k : Nat) (F : Nat → Int64), rv (fillS (rowS s q b 3 1) b k F) (e + 1) hd v := fun k F => rv_ext (rext_fill hxT (by omega) F) hh3 hv
      refine me1 (pc' := 34) (L' := [(2, ii (q : Int)), (0, .ref 102), (1, ii (hd : Int))]) (S' := [.ref 102]) dm_X12_oneMore_33 rfl rfl rfl rfl ?_
      refine me3 (pc' := 37) (S' := [.ref (102 + 1)]) dm_X12_oneMore_34 (q_getr hm rfl (fun m i l => rg_0 m i l)) rfl rfl rfl ?_
      refine me1 (pc' := 38) (L' := [(2, ii (q : Int)), (0, .ref 102), (1, ii (hd : Int))]) (S' := [.ref 102, .ref (102 + 1)]) dm_X12_oneMore_37 rfl rfl rfl rfl ?_
      refine me3 (pc' := 41) (S' := [.ref (102 + 2), .ref (102 + 1)]) dm_X12_oneMore_38 (q_getr hm rfl (fun m i l => rg_1 m i l)) rfl rfl rfl ?_
      refine me1 (pc' := 42) (L' := [(2, ii (q : Int)), (0, .ref 102), (1, ii (hd : Int))]) (S' := [ii (q : Int), .ref (102 + 2), .ref (102 + 1)]) dm_X12_oneMore_41 rfl rfl rfl rfl ?_
      refine me3 (pc' := 43) (S' := [ii ((((rowS s q b 3 1).2.2.1) 1) q), .ref (102 + 1)]) dm_X12_oneMore_42 (q_iald (v := (((rowS s q b 3 1).2.2.1) 1) q) (k := 1) (n := 310000) hm (fun m i l I J => rc_1 m i l I J) (by omega) (by omega) (by decide) rfl) rfl rfl rfl ?_
      refine pg_st (S' := [ii (b : Int), .ref (102 + 1)]) (congrArg (fun z => ii z :: [.ref (102 + 1)]) (up_eq _ _ _)) ?_
      refine me1 (pc' := 44) (L' := [(2, ii (q : Int)), (0, .ref 102), (1, ii (hd : Int))]) (S' := [.ref 102, ii (b : Int), .ref (102 + 1)]) dm_X12_oneMore_43 rfl rfl rfl rfl ?_
      refine me1 (pc' := 45) (L' := [(2, ii (q : Int)), (0, .ref 102), (1, ii (hd : Int))]) (S' := [ii (hd : Int), .ref 102, ii (b : Int), .ref (102 + 1)]) dm_X12_oneMore_44 rfl rfl rfl rfl ?_
      refine x_cp (pc' := 48) (v := zz (decide (vk v ≤ 1))) (rest := [ii (b : Int), .ref (102 + 1)]) dm_X12_oneMore_45 rfl (q_inv (As := [ii (hd : Int)]) (S := [ii (b : Int), .ref (102 + 1)]) hm rfl rfl rfl) rfl rfl rfl (r_isOne_ hm (by omega) hBT (by have := hvT 0 (fun _ => 0); rwa [show fillS (rowS s q b 3 1) b 0 (fun _ => 0) = (rowS s q b 3 1) from fillS_0 _ _ _] at this)) ?_
      refine y_zeq (c := decide (vk v ≤ 1)) (t := 60) (pc' := 51) dm_X12_oneMore_48 rfl rfl (fun hb5 => ?_) (fun hb5 => ?_)
      · replace hb5 := dF hb5; exfalso; omega
      · replace hb5 := dT hb5
        refine me1 (pc' := 52) (L' := [(2, ii (q : Int)), (0, .ref 102), (1, ii (hd : Int))]) (S' := [.ref 102, ii (b : Int), .ref (102 + 1)]) dm_X12_oneMore_51 rfl rfl rfl rfl ?_
        refine me1 (pc' := 53) (L' := [(2, ii (q : Int)), (0, .ref 102), (1, ii (hd : Int))]) (S' := [ii (hd : Int), .ref 102, ii (b : Int), .ref (102 + 1)]) dm_X12_oneMore_52 rfl rfl rfl rfl ?_
        refine me0 (pc' := 54) (S' := [ii 0, ii (hd : Int), .ref 102, ii (b : Int), .ref (102 + 1)]) dm_X12_oneMore_53 rfl rfl rfl rfl ?_
        refine x_cp (pc' := 57) (v := .long (vn v 0)) (rest := [ii (b : Int), .ref (102 + 1)]) dm_X12_oneMore_54 rfl (q_inv (As := [ii (hd : Int), ii 0]) (S := [ii (b : Int), .ref (102 + 1)]) hm rfl rfl rfl) rfl rfl rfl (r_number_ (k := 0) hm (by omega) hBT (by have := hvT 0 (fun _ => 0); rwa [show fillS (rowS s q b 3 1) b 0 (fun _ => 0) = (rowS s q b 3 1) from fillS_0 _ _ _] at this) (by omega) (by omega)) ?_
        refine me2 (pc' := 62) (S' := [.long (vn v 0), ii (b : Int), .ref (102 + 1)]) dm_X12_oneMore_57 rfl rfl rfl ?_
        refine me3 (pc' := 63) (S' := []) (h1 := rI pre post ((rowS s q b 3 1).1) ((rowS s q b 3 1).2.1) ((rowS s q b 3 1).2.2.1) (va_up ((rowS s q b 3 1).2.2.2) 0 (va_up (((rowS s q b 3 1).2.2.2) 0) b (vn v 0)))) dm_X12_oneMore_62 (q_last (j := (b : Int)) (k := 0) (n := 820000) hm (fun m i l I J => rc_0 m i l I J) (fun m i l I J f => rs_0 m i l I J f) (by omega) (by omega) (by decide)) rfl rfl rfl ?_
        refine pg_cast (h2 := rI pre post ((fillS (rowS s q b 3 1) b 1 (fun _ => (vn v 0))).1) ((fillS (rowS s q b 3 1) b 1 (fun _ => (vn v 0))).2.1) ((fillS (rowS s q b 3 1) b 1 (fun _ => (vn v 0))).2.2.1) ((fillS (rowS s q b 3 1) b 1 (fun _ => (vn v 0))).2.2.2)) (fill_1 (rowS s q b 3 1) b (vn v 0)) ?_
        refine me1 (pc' := 64) (L' := [(2, ii (q : Int)), (0, .ref 102), (1, ii (hd : Int))]) (S' := [.ref 102]) dm_X12_oneMore_63 rfl rfl rfl rfl ?_
        refine me1 (pc' := 65) (L' := [(2, ii (q : Int)), (0, .ref 102), (1, ii (hd : Int))]) (S' := [ii (q : Int), .ref 102]) dm_X12_oneMore_64 rfl rfl rfl rfl ?_
        have hkq : pgP xt (d - 1) 245 [.ref 102, ii (q : Int)] (rI pre post ((fillS (rowS s q b 3 1) b 1 (fun _ => (vn v 0))).1) ((fillS (rowS s q b 3 1) b 1 (fun _ => (vn v 0))).2.1) ((fillS (rowS s q b 3 1) b 1 (fun _ => (vn v 0))).2.2.1) ((fillS (rowS s q b 3 1) b 1 (fun _ => (vn v 0))).2.2.2)) (ii 3) := by
          have hvq : rv (fillS (rowS s q b 3 1) b 1 (fun _ => (vn v 0))) (e + 1) q (vrow 3 1 (fun _ => vn v 0)) := rv_rowS (n := 1) (kind := 3) (w := vrow 3 1 (fun _ => vn v 0)) (vw1_row (by omega) (by omega) (by omega)) (by show ¬ 3 = 7; omega) (by show ¬ 3 = 6; omega) rfl rfl rfl (fun _ _ => rfl)
          exact r_kindOf_ (s := (fillS (rowS s q b 3 1) b 1 (fun _ => (vn v 0)))) hm (by omega) hBT hvq
        refine x_cp (pc' := 68) (v := ii 3) (rest := []) dm_X12_oneMore_65 rfl (q_inv (As := [ii (q : Int)]) (S := []) hm rfl rfl rfl) rfl rfl rfl (hkq) ?_
        refine me0 (pc' := 69) (S' := [ii 5, ii 3]) dm_X12_oneMore_68 rfl rfl rfl rfl ?_
        refine y_2ne (a := 3) (b := 5) (t := 80) (pc' := 72) dm_X12_oneMore_69 rfl rfl (by omega) (fun hb6 => ?_) (fun hb6 => ?_)
        · refine me1 (pc' := 81) (L' := [(2, ii (q : Int)), (0, .ref 102), (1, ii (hd : Int))]) (S' := [ii (q : Int)]) dm_X12_oneMore_80 rfl rfl rfl rfl ?_
          refine y_ret (r := some (ii (q : Int))) dm_X12_oneMore_81 rfl rfl rfl ?_
          rw [show m_more v = .inr (vpick v (fun _ => 0) 1) by unfold m_more; rw [if_pos (by omega)], vpick_r (by omega)]
          have hpk : pickk v = 3 := by unfold pickk; rw [if_pos (by omega)]
          refine ⟨_, rfl, ?_⟩
          have hvf := vform_le (m := 1) (f := (fun _ => vn v 0))
          rw [hpk]
          refine rres_dup (rres_row (n := 1) (kind := 3) hq hq3 hb he0 (vw1_row (by omega) (by omega) (by omega)) (by show ¬ 3 = 7; omega) (by show ¬ 3 = 6; omega) rfl rfl rfl (fun k hk => by show vn v 0 = vn v _; rw [if_pos (by omega)]) (by omega) (by omega))
        · exfalso; omega
  · refine me0 (pc' := 10) (S' := [ii 5, .ref 102]) dm_X12_oneMore_9 rfl rfl rfl rfl ?_
    refine me2 (pc' := 28) (S' := [ii 5, .ref 102]) dm_X12_oneMore_10 rfl rfl rfl ?_
    refine me0 (pc' := 29) (S' := [ii 1, ii 5, .ref 102]) dm_X12_oneMore_28 rfl rfl rfl rfl ?_
    refine x_cv (pc' := 32) (rest := []) dm_X12_oneMore_29 rfl (q_inv (As := [ii 5, ii 1]) (S := []) hm rfl rfl rfl) rfl rfl rfl (r_row_ (q := q) (b := b) (s := s) hm (by omega) hq hb (by omega) (by omega) (by omega)) ?_
    rintro _ _ ⟨rfl, rfl⟩
    refine me1 (pc' := 33) (L' := [(2, ii (q : Int)), (0, .ref 102), (1, ii (hd : Int))]) (S' := []) dm_X12_oneMore_32 rfl rfl rfl rfl ?_
    have hxT : rext s (rowS s q b 5 1) := rext_row hq hb _ (by omega)
    have hBT : rB (rowS s q b 5 1) := ⟨by show 3 ≤ (q : Int) + 1; omega, by show (q : Int) + 1 ≤ 310000; omega, by show 0 ≤ (b : Int) + 1; omega, by show (b : Int) + 1 ≤ 820000; omega⟩
    have hvT : ∀ (k : Nat) (F : Nat → Int64), rv (fillS (rowS s q b 5 1) b k F) (e + 1) hd v := fun k F => rv_ext (rext_fill hxT (by omega) F) hh3 hv
    refine me1 (pc' := 34) (L' := [(2, ii (q : Int)), (0, .ref 102), (1, ii (hd : Int))]) (S' := [.ref 102]) dm_X12_oneMore_33 rfl rfl rfl rfl ?_
    refine me3 (pc' := 37) (S' := [.ref (102 + 1)]) dm_X12_oneMore_34 (q_getr hm rfl (fun m i l => rg_0 m i l)) rfl rfl rfl ?_
    refine me1 (pc' := 38) (L' := [(2, ii (q : Int)), (0, .ref 102), (1, ii (hd : Int))]) (S' := [.ref 102, .ref (102 + 1)]) dm_X12_oneMore_37 rfl rfl rfl rfl ?_
    refine me3 (pc' := 41) (S' := [.ref (102 + 2), .ref (102 + 1)]) dm_X12_oneMore_38 (q_getr hm rfl (fun m i l => rg_1 m i l)) rfl rfl rfl ?_
    refine me1 (pc' := 42) (L' := [(2, ii (q : Int)), (0, .ref 102), (1, ii (hd : Int))]) (S' := [ii (q : Int), .ref (102 + 2), .ref (102 + 1)]) dm_X12_oneMore_41 rfl rfl rfl rfl ?_
    refine me3 (pc' := 43) (S' := [ii ((((rowS s q b 5 1).2.2.1) 1) q), .ref (102 + 1)]) dm_X12_oneMore_42 (q_iald (v := (((rowS s q b 5 1).2.2.1) 1) q) (k := 1) (n := 310000) hm (fun m i l I J => rc_1 m i l I J) (by omega) (by omega) (by decide) rfl) rfl rfl rfl ?_
    refine pg_st (S' := [ii (b : Int), .ref (102 + 1)]) (congrArg (fun z => ii z :: [.ref (102 + 1)]) (up_eq _ _ _)) ?_
    refine me1 (pc' := 44) (L' := [(2, ii (q : Int)), (0, .ref 102), (1, ii (hd : Int))]) (S' := [.ref 102, ii (b : Int), .ref (102 + 1)]) dm_X12_oneMore_43 rfl rfl rfl rfl ?_
    refine me1 (pc' := 45) (L' := [(2, ii (q : Int)), (0, .ref 102), (1, ii (hd : Int))]) (S' := [ii (hd : Int), .ref 102, ii (b : Int), .ref (102 + 1)]) dm_X12_oneMore_44 rfl rfl rfl rfl ?_
    refine x_cp (pc' := 48) (v := zz (decide (vk v ≤ 1))) (rest := [ii (b : Int), .ref (102 + 1)]) dm_X12_oneMore_45 rfl (q_inv (As := [ii (hd : Int)]) (S := [ii (b : Int), .ref (102 + 1)]) hm rfl rfl rfl) rfl rfl rfl (r_isOne_ hm (by omega) hBT (by have := hvT 0 (fun _ => 0); rwa [show fillS (rowS s q b 5 1) b 0 (fun _ => 0) = (rowS s q b 5 1) from fillS_0 _ _ _] at this)) ?_
    refine y_zeq (c := decide (vk v ≤ 1)) (t := 60) (pc' := 51) dm_X12_oneMore_48 rfl rfl (fun hb7 => ?_) (fun hb7 => ?_)
    · replace hb7 := dF hb7; exfalso; omega
    · replace hb7 := dT hb7
      refine me1 (pc' := 52) (L' := [(2, ii (q : Int)), (0, .ref 102), (1, ii (hd : Int))]) (S' := [.ref 102, ii (b : Int), .ref (102 + 1)]) dm_X12_oneMore_51 rfl rfl rfl rfl ?_
      refine me1 (pc' := 53) (L' := [(2, ii (q : Int)), (0, .ref 102), (1, ii (hd : Int))]) (S' := [ii (hd : Int), .ref 102, ii (b : Int), .ref (102 + 1)]) dm_X12_oneMore_52 rfl rfl rfl rfl ?_
      refine me0 (pc' := 54) (S' := [ii 0, ii (hd : Int), .ref 102, ii (b : Int), .ref (102 + 1)]) dm_X12_oneMore_53 rfl rfl rfl rfl ?_
      refine x_cp (pc' := 57) (v := .long (vn v 0)) (rest := [ii (b : Int), .ref (102 + 1)]) dm_X12_oneMore_54 rfl (q_inv (As := [ii (hd : Int), ii 0]) (S := [ii (b : Int), .ref (102 + 1)]) hm rfl rfl rfl) rfl rfl rfl (r_number_ (k := 0) hm (by omega) hBT (by have := hvT 0 (fun _ => 0); rwa [show fillS (rowS s q b 5 1) b 0 (fun _ => 0) = (rowS s q b 5 1) from fillS_0 _ _ _] at this) (by omega) (by omega)) ?_
      refine me2 (pc' := 62) (S' := [.long (vn v 0), ii (b : Int), .ref (102 + 1)]) dm_X12_oneMore_57 rfl rfl rfl ?_
      refine me3 (pc' := 63) (S' := []) (h1 := rI pre post ((rowS s q b 5 1).1) ((rowS s q b 5 1).2.1) ((rowS s q b 5 1).2.2.1) (va_up ((rowS s q b 5 1).2.2.2) 0 (va_up (((rowS s q b 5 1).2.2.2) 0) b (vn v 0)))) dm_X12_oneMore_62 (q_last (j := (b : Int)) (k := 0) (n := 820000) hm (fun m i l I J => rc_0 m i l I J) (fun m i l I J f => rs_0 m i l I J f) (by omega) (by omega) (by decide)) rfl rfl rfl ?_
      refine pg_cast (h2 := rI pre post ((fillS (rowS s q b 5 1) b 1 (fun _ => (vn v 0))).1) ((fillS (rowS s q b 5 1) b 1 (fun _ => (vn v 0))).2.1) ((fillS (rowS s q b 5 1) b 1 (fun _ => (vn v 0))).2.2.1) ((fillS (rowS s q b 5 1) b 1 (fun _ => (vn v 0))).2.2.2)) (fill_1 (rowS s q b 5 1) b (vn v 0)) ?_
      refine me1 (pc' := 64) (L' := [(2, ii (q : Int)), (0, .ref 102), (1, ii (hd : Int))]) (S' := [.ref 102]) dm_X12_oneMore_63 rfl rfl rfl rfl ?_
      refine me1 (pc' := 65) (L' := [(2, ii (q : Int)), (0, .ref 102), (1, ii (hd : Int))]) (S' := [ii (q : Int), .ref 102]) dm_X12_oneMore_64 rfl rfl rfl rfl ?_
      have hkq : pgP xt (d - 1) 245 [.ref 102, ii (q : Int)] (rI pre post ((fillS (rowS s q b 5 1) b 1 (fun _ => (vn v 0))).1) ((fillS (rowS s q b 5 1) b 1 (fun _ => (vn v 0))).2.1) ((fillS (rowS s q b 5 1) b 1 (fun _ => (vn v 0))).2.2.1) ((fillS (rowS s q b 5 1) b 1 (fun _ => (vn v 0))).2.2.2)) (ii 5) := by
        have hvq : rv (fillS (rowS s q b 5 1) b 1 (fun _ => (vn v 0))) (e + 1) q (vrow 5 1 (fun _ => vn v 0)) := rv_rowS (n := 1) (kind := 5) (w := vrow 5 1 (fun _ => vn v 0)) (vw1_row (by omega) (by omega) (by omega)) (by show ¬ 5 = 7; omega) (by show ¬ 5 = 6; omega) rfl rfl rfl (fun _ _ => rfl)
        exact r_kindOf_ (s := (fillS (rowS s q b 5 1) b 1 (fun _ => (vn v 0)))) hm (by omega) hBT hvq
      refine x_cp (pc' := 68) (v := ii 5) (rest := []) dm_X12_oneMore_65 rfl (q_inv (As := [ii (q : Int)]) (S := []) hm rfl rfl rfl) rfl rfl rfl (hkq) ?_
      refine me0 (pc' := 69) (S' := [ii 5, ii 5]) dm_X12_oneMore_68 rfl rfl rfl rfl ?_
      refine y_2ne (a := 5) (b := 5) (t := 80) (pc' := 72) dm_X12_oneMore_69 rfl rfl (by omega) (fun hb8 => ?_) (fun hb8 => ?_)
      · exfalso; omega
      · refine me1 (pc' := 73) (L' := [(2, ii (q : Int)), (0, .ref 102), (1, ii (hd : Int))]) (S' := [.ref 102]) dm_X12_oneMore_72 rfl rfl rfl rfl ?_
        refine me1 (pc' := 74) (L' := [(2, ii (q : Int)), (0, .ref 102), (1, ii (hd : Int))]) (S' := [ii (q : Int), .ref 102]) dm_X12_oneMore_73 rfl rfl rfl rfl ?_
        have hvq : rv (fillS (rowS s q b 5 1) b 1 (fun _ => (vn v 0))) (e + 1) q (vrow 5 1 (fun _ => vn v 0)) := rv_rowS (n := 1) (kind := 5) (w := vrow 5 1 (fun _ => vn v 0)) (vw1_row (by omega) (by omega) (by omega)) (by show ¬ 5 = 7; omega) (by show ¬ 5 = 6; omega) rfl rfl rfl (fun _ _ => rfl)
        refine x_cv (pc' := 77) (rest := []) dm_X12_oneMore_74 rfl (q_inv (As := [ii (q : Int)]) (S := []) hm rfl rfl rfl) rfl rfl rfl (r_settled_ (s := (fillS (rowS s q b 5 1) b 1 (fun _ => (vn v 0)))) (fr0 := b) hm (by omega) hBT hvq (up_eq _ _ _)) ?_
        rintro _ _ ⟨rfl, rfl⟩
        refine me2 (pc' := 81) (S' := [ii (q : Int)]) dm_X12_oneMore_77 rfl rfl rfl ?_
        refine y_ret (r := some (ii (q : Int))) dm_X12_oneMore_81 rfl rfl rfl ?_
        rw [show m_more v = .inr (vpick v (fun _ => 0) 1) by unfold m_more; rw [if_pos (by omega)], vpick_r (by omega)]
        have hpk : pickk v = vform 1 (fun _ => vn v 0) := by unfold pickk; rw [if_neg (by omega), if_pos (by omega)]; exact pick_f _
        refine ⟨_, rfl, ?_⟩
        have hst := setS_row s q b (vform 1 (fun _ => vn v 0)) 1 1 5 (fun _ => vn v 0)
        rw [show rS pre post (setS (fillS (rowS s q b 5 1) b 1 (fun _ => vn v 0)) q b (vform 1 (fun _ => vn v 0)) 1) = rS pre post (fillS (rowS s q b ((vform 1 (fun _ => vn v 0) : Nat) : Int) ((1 : Nat) : Int)) b 1 (fun _ => vn v 0)) from congrArg (rS pre post) hst]
        have hvf := vform_le (m := 1) (f := (fun _ => vn v 0))
        rw [hpk]
        refine rres_dup (rres_row (n := 1) (kind := (vform 1 (fun _ => vn v 0))) hq hq3 hb he0 (vw1_row (by omega) (by omega) (by omega)) (by show ¬ (vform 1 (fun _ => vn v 0)) = 7; omega) (by show ¬ (vform 1 (fun _ => vn v 0)) = 6; omega) rfl rfl rfl (fun k hk => by show vn v 0 = vn v _; rw [if_pos (by omega)]) (by omega) (by omega))
