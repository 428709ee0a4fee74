/-- an array filled from b on, k of it -/
def fb {α : Type} (b k : Nat) (g z : Nat → α) : Nat → α := fun j => if b ≤ j ∧ j < b + k then g (j - b) else z j
theorem fb_0 {α : Type} (b : Nat) (g z : Nat → α) : fb b 0 g z = z := by
  funext j
  unfold fb
  rw [if_neg (by omega)]
theorem fb_s {α : Type} (b k : Nat) (g z : Nat → α) : va_up (fb b k g z) (b + k) (g k) = fb b (k + 1) g z := by
  funext j
  show (if j = b + k then g k else if b ≤ j ∧ j < b + k then g (j - b) else z j) = if b ≤ j ∧ j < b + (k + 1) then g (j - b) else z j
  by_cases h1 : j = b + k
  · rw [if_pos h1, if_pos (by omega), h1, Nat.add_sub_cancel_left]
  · by_cases h2 : b ≤ j ∧ j < b + k
    · rw [if_neg h1, if_pos h2, if_pos (by omega)]
    · rw [if_neg h1, if_neg h2, if_neg (by omega)]
theorem fb_at {α : Type} {b k j : Nat} (g z : Nat → α) (h : j < k) : fb b k g z (b + j) = g j := by
  unfold fb
  rw [if_pos (by omega), Nat.add_sub_cancel_left]
theorem fb_lo {α : Type} {b k j : Nat} (g z : Nat → α) (h : j < b) : fb b k g z j = z j := by
  unfold fb
  rw [if_neg (by omega)]
/-- the state behind seen: a new handle -/
def seenS (s : RS) (q : Nat) (kind at_ n : Int) : RS := (va_up s.1 4 ((q : Int) + 1), s.2.1, va_up (va_up s.2.2.1 1 (va_up (s.2.2.1 1) q at_)) 2 (va_up (s.2.2.1 2) q (kind + n * 8)), s.2.2.2)
/-- behind row: a new handle of new cells (b: how many there were) -/
def rowS (s : RS) (q b : Nat) (kind n : Int) : RS := (va_up (va_up s.1 3 ((b : Int) + n)) 4 ((q : Int) + 1), s.2.1, va_up (va_up s.2.2.1 1 (va_up (s.2.2.1 1) q (b : Int))) 2 (va_up (s.2.2.1 2) q (kind + n * 8)), s.2.2.2)
/-- behind table -/
def tabS (s : RS) (q b : Nat) (r c : Int) : RS := (va_up (va_up s.1 3 ((b : Int) + r * c)) 4 ((q : Int) + 1), s.2.1, va_up (va_up s.2.2.1 1 (va_up (s.2.2.1 1) q (b : Int))) 2 (va_up (s.2.2.1 2) q (6 + r * 8 + c * 2048)), s.2.2.2)
/-- behind view -/
def viewI (I : Nat → Nat → Int) (hd : Nat) (kind at_ n : Int) : Nat → Nat → Int := va_up (va_up I 1 (va_up (I 1) hd at_)) 2 (va_up (I 2) hd (kind + n * 8))
/-- the cells from b on filled -/
def fillS (s : RS) (b k : Nat) (g : Nat → Int64) : RS := (s.1, s.2.1, s.2.2.1, va_up s.2.2.2 0 (fb b k g (s.2.2.2 0)))
theorem rv_flat {s : RS} {e q fr : Nat} {w : VV} (hw : vw1 w) (h7 : vk w ≠ 7) (hq : (q : Int) < s.1 4) (h1 : s.2.2.1 1 q = (fr : Int)) (h2 : s.2.2.1 2 q = (vk w : Int) + 8 * (vm w : Int) + 2048 * (vc w : Int)) (hc : (fr : Int) + (vq w : Int) ≤ s.1 3) (hf : ∀ k, k < vq w → s.2.2.2 0 (fr + k) = vn w k) : rv s (e + 1) q w :=
  ⟨hw, hq, h2, fr, h1, by have : vcl w = vq w := (by unfold vcl; rw [if_neg h7]); rw [this]; exact hc, fun _ => hf, fun z => absurd z h7⟩
/-- the reference's state after what makes values: nothing else has changed -/
def rfr (s t : RS) : Prop := (∀ k, k ≠ 3 → k ≠ 4 → k ≠ 5 → k ≠ 6 → k ≠ 17 → t.1 k = s.1 k) ∧ t.2.1 = s.2.1 ∧ (∀ k, k ≠ 1 → k ≠ 2 → k ≠ 12 → k ≠ 14 → k ≠ 15 → t.2.2.1 k = s.2.2.1 k) ∧ (∀ k, k ≠ 0 → t.2.2.2 k = s.2.2.2 k) ∧ (∀ j : Nat, (j : Int) < s.1 13 → t.2.2.1 12 j = s.2.2.1 12 j)
theorem rfr_rf (s : RS) : rfr s s := ⟨fun _ _ _ _ _ _ => rfl, rfl, fun _ _ _ _ _ _ => rfl, fun _ _ => rfl, fun _ _ => rfl⟩
theorem rfr_tr {s t u : RS} (h1 : rfr s t) (h2 : rfr t u) : rfr s u := by
  obtain ⟨a1, a2, a3, a4, a5⟩ := h1
  obtain ⟨b1, b2, b3, b4, b5⟩ := h2
  refine ⟨fun k c1 c2 c3 c4 c5 => (b1 k c1 c2 c3 c4 c5).trans (a1 k c1 c2 c3 c4 c5), b2.trans a2, fun k c1 c2 c3 c4 c5 => (b3 k c1 c2 c3 c4 c5).trans (a3 k c1 c2 c3 c4 c5), fun k c => (b4 k c).trans (a4 k c), fun j hj => (b5 j ?_).trans (a5 j hj)⟩
  rw [a1 13 (by decide) (by decide) (by decide) (by decide) (by decide)]
  exact hj
theorem rfr_row (s : RS) (q b : Nat) (kind n : Int) : rfr s (rowS s q b kind n) := by
  refine ⟨fun k c1 c2 _ _ _ => ?_, rfl, fun k c1 c2 _ _ _ => ?_, fun _ _ => rfl, fun _ _ => rfl⟩
  · show va_up (va_up s.1 3 _) 4 _ k = _
    rw [up_ne _ _ c2, up_ne _ _ c1]
  · show va_up (va_up s.2.2.1 1 _) 2 _ k = _
    rw [up_ne _ _ c2, up_ne _ _ c1]
theorem rfr_tab (s : RS) (q b : Nat) (r c : Int) : rfr s (tabS s q b r c) := by
  refine ⟨fun k c1 c2 _ _ _ => ?_, rfl, fun k c1 c2 _ _ _ => ?_, fun _ _ => rfl, fun _ _ => rfl⟩
  · show va_up (va_up s.1 3 _) 4 _ k = _
    rw [up_ne _ _ c2, up_ne _ _ c1]
  · show va_up (va_up s.2.2.1 1 _) 2 _ k = _
    rw [up_ne _ _ c2, up_ne _ _ c1]
theorem rfr_seen (s : RS) (q : Nat) (kind at_ n : Int) : rfr s (seenS s q kind at_ n) := by
  refine ⟨fun k c1 c2 _ _ _ => ?_, rfl, fun k c1 c2 _ _ _ => ?_, fun _ _ => rfl, fun _ _ => rfl⟩
  · show va_up s.1 4 _ k = _
    rw [up_ne _ _ c2]
  · show va_up (va_up s.2.2.1 1 _) 2 _ k = _
    rw [up_ne _ _ c2, up_ne _ _ c1]
theorem rfr_fill (s : RS) (b k : Nat) (g : Nat → Int64) : rfr s (fillS s b k g) :=
  ⟨fun _ _ _ _ _ _ => rfl, rfl, fun _ _ _ _ _ _ => rfl, fun j hj => up_ne _ _ hj, fun _ _ => rfl⟩
theorem rext_seen {s : RS} {q : Nat} (hq : s.1 4 = (q : Int)) (kind at_ n : Int) : rext s (seenS s q kind at_ n) := by
  refine ⟨by show s.1 4 ≤ (q : Int) + 1; omega, Int.le_refl _, fun hd _ h2 => ?_, fun _ _ => rfl⟩
  have hn : hd ≠ q := by omega
  exact ⟨up_ne _ _ hn, up_ne _ _ hn⟩
theorem rext_row {s : RS} {q b : Nat} (hq : s.1 4 = (q : Int)) (hb : s.1 3 = (b : Int)) (kind : Int) {n : Int} (hn : 0 ≤ n) : rext s (rowS s q b kind n) := by
  refine ⟨by show s.1 4 ≤ (q : Int) + 1; omega, by show s.1 3 ≤ (b : Int) + n; omega, fun hd _ h2 => ?_, fun _ _ => rfl⟩
  have hn : hd ≠ q := by omega
  exact ⟨up_ne _ _ hn, up_ne _ _ hn⟩
theorem rext_tab {s : RS} {q b : Nat} (hq : s.1 4 = (q : Int)) (hb : s.1 3 = (b : Int)) {r c : Int} (hn : 0 ≤ r * c) : rext s (tabS s q b r c) := by
  refine ⟨by show s.1 4 ≤ (q : Int) + 1; omega, by show s.1 3 ≤ (b : Int) + r * c; omega, fun hd _ h2 => ?_, fun _ _ => rfl⟩
  have hn : hd ≠ q := by omega
  exact ⟨up_ne _ _ hn, up_ne _ _ hn⟩
/-- filling cells that are above those of s -/
theorem rext_fill {s t : RS} (h : rext s t) {b k : Nat} (hb : s.1 3 ≤ (b : Int)) (g : Nat → Int64) : rext s (fillS t b k g) := by
  obtain ⟨h1, h2, h3, h4⟩ := h
  exact ⟨h1, h2, h3, fun j hj => (fb_lo _ _ (by omega)).trans (h4 j hj)⟩
set_option maxRecDepth 20000 in
theorem pm_X12_view : mj_mmof pg_ms 199 = some ((⟨"ArrayCalculatorModel", "view", "(IIII)V"⟩, prog_14_method_7_code, 5, (Option.none : Option Jvm.ClassFile.FieldType)), 12, false, mj_dec prog_14_method_7_code) := rfl
theorem dm_X12_view_0 : mj_dec prog_14_method_7_code 0 = some (.aload_n 0, 1) := by decide +kernel
theorem dm_X12_view_1 : mj_dec prog_14_method_7_code 1 = some (.getfield 15, 3) := by decide +kernel
theorem dm_X12_view_4 : mj_dec prog_14_method_7_code 4 = some (.iload_n 1, 1) := by decide +kernel
theorem dm_X12_view_5 : mj_dec prog_14_method_7_code 5 = some (.iload_n 3, 1) := by decide +kernel
theorem dm_X12_view_6 : mj_dec prog_14_method_7_code 6 = some (.iastore, 1) := by decide +kernel
theorem dm_X12_view_7 : mj_dec prog_14_method_7_code 7 = some (.aload_n 0, 1) := by decide +kernel
theorem dm_X12_view_8 : mj_dec prog_14_method_7_code 8 = some (.getfield 19, 3) := by decide +kernel
theorem dm_X12_view_11 : mj_dec prog_14_method_7_code 11 = some (.iload_n 1, 1) := by decide +kernel
theorem dm_X12_view_12 : mj_dec prog_14_method_7_code 12 = some (.iload_n 2, 1) := by decide +kernel
theorem dm_X12_view_13 : mj_dec prog_14_method_7_code 13 = some (.iload 4, 2) := by decide +kernel
theorem dm_X12_view_15 : mj_dec prog_14_method_7_code 15 = some (.iconst 3, 1) := by decide +kernel
theorem dm_X12_view_16 : mj_dec prog_14_method_7_code 16 = some (.ishl, 1) := by decide +kernel
theorem dm_X12_view_17 : mj_dec prog_14_method_7_code 17 = some (.ior, 1) := by decide +kernel
theorem dm_X12_view_18 : mj_dec prog_14_method_7_code 18 = some (.iastore, 1) := by decide +kernel
theorem dm_X12_view_19 : mj_dec prog_14_method_7_code 19 = some (.return_, 1) := by decide +kernel
theorem r_view_ {xt : mj_X} {d : Nat} {pre post : mj_H} {i : Nat → Int} {l : Nat → Int64} {I : Nat → Nat → Int} {J : Nat → Nat → Int64} (hm : pre.length = 102) {hd : Nat} {kind at_ n : Int} (hd1 : 1 ≤ d) (hh : hd < 310000) (hk : 0 ≤ kind ∧ kind ≤ 7) (hn : 0 ≤ n ∧ n ≤ 255) : pgN xt d 199 [.ref 102, ii (hd : Int), ii kind, ii at_, ii n] (rI pre post i l I J) (fun h' => h' = rI pre post i l (viewI I hd kind at_ n) J) := by
  refine x_enter pm_X12_view (L0 := [(0, .ref 102), (1, ii (hd : Int)), (2, ii kind), (3, ii at_), (4, ii n)]) rfl (Nat.le_of_ble_eq_true rfl) (by omega) ?_
  refine me1 (pc' := 1) (L' := [(0, .ref 102), (1, ii (hd : Int)), (2, ii kind), (3, ii at_), (4, ii n)]) (S' := [.ref 102]) dm_X12_view_0 rfl rfl rfl rfl ?_
  refine me3 (pc' := 4) (S' := [.ref (102 + 2)]) dm_X12_view_1 (q_getr hm rfl (fun m i l => rg_1 m i l)) rfl rfl rfl ?_
  refine me1 (pc' := 5) (L' := [(0, .ref 102), (1, ii (hd : Int)), (2, ii kind), (3, ii at_), (4, ii n)]) (S' := [ii (hd : Int), .ref (102 + 2)]) dm_X12_view_4 rfl rfl rfl rfl ?_
  refine me1 (pc' := 6) (L' := [(0, .ref 102), (1, ii (hd : Int)), (2, ii kind), (3, ii at_), (4, ii n)]) (S' := [ii at_, ii (hd : Int), .ref (102 + 2)]) dm_X12_view_5 rfl rfl rfl rfl ?_
  refine me3 (pc' := 7) (S' := []) (h1 := rI pre post i l (va_up I 1 (va_up (I 1) hd at_)) J) dm_X12_view_6 (q_iast (j := (hd : Int)) (k := 1) (n := 310000) hm (fun m i l I J => rc_1 m i l I J) (fun m i l I J f => rs_1 m i l I J f) (by omega) (by omega) (by decide)) rfl rfl rfl ?_
  refine me1 (pc' := 8) (L' := [(0, .ref 102), (1, ii (hd : Int)), (2, ii kind), (3, ii at_), (4, ii n)]) (S' := [.ref 102]) dm_X12_view_7 rfl rfl rfl rfl ?_
  refine me3 (pc' := 11) (S' := [.ref (102 + 3)]) dm_X12_view_8 (q_getr hm rfl (fun m i l => rg_2 m i l)) rfl rfl rfl ?_
  refine me1 (pc' := 12) (L' := [(0, .ref 102), (1, ii (hd : Int)), (2, ii kind), (3, ii at_), (4, ii n)]) (S' := [ii (hd : Int), .ref (102 + 3)]) dm_X12_view_11 rfl rfl rfl rfl ?_
  refine me1 (pc' := 13) (L' := [(0, .ref 102), (1, ii (hd : Int)), (2, ii kind), (3, ii at_), (4, ii n)]) (S' := [ii kind, ii (hd : Int), .ref (102 + 3)]) dm_X12_view_12 rfl rfl rfl rfl ?_
  refine me1 (pc' := 15) (L' := [(0, .ref 102), (1, ii (hd : Int)), (2, ii kind), (3, ii at_), (4, ii n)]) (S' := [ii n, ii kind, ii (hd : Int), .ref (102 + 3)]) dm_X12_view_13 rfl rfl rfl rfl ?_
  refine me0 (pc' := 16) (S' := [ii 3, ii n, ii kind, ii (hd : Int), .ref (102 + 3)]) dm_X12_view_15 rfl rfl rfl rfl ?_
  refine y_shl (a := n) (k := 3) dm_X12_view_16 (pc' := 17) rfl (by decide) ?_
  refine y_or (a := kind) (b := n * 8) dm_X12_view_17 (pc' := 18) rfl (k := 3) (c := n) rfl (by omega) (by omega) (by omega) (by omega) ?_
  refine me3 (pc' := 19) (S' := []) (h1 := rI pre post i l (va_up (va_up I 1 (va_up (I 1) hd at_)) 2 (va_up (I 2) hd (kind + (n * 8)))) J) dm_X12_view_18 (q_iast (j := (hd : Int)) (k := 2) (n := 310000) hm (fun m i l I J => rc_2 m i l I J) (fun m i l I J f => rs_2 m i l I J f) (by omega) (by omega) (by decide)) rfl rfl rfl ?_
  refine y_ret (r := none) dm_X12_view_19 rfl rfl rfl ?_
  exact ⟨rfl, rfl⟩
set_option maxRecDepth 20000 in
theorem pm_X12_seen : mj_mmof pg_ms 198 = some ((⟨"ArrayCalculatorModel", "seen", "(III)I"⟩, prog_14_method_8_code, 4, (Option.some Jvm.ClassFile.FieldType.int)), 12, false, mj_dec prog_14_method_8_code) := rfl
theorem dm_X12_seen_0 : mj_dec prog_14_method_8_code 0 = some (.aload_n 0, 1) := by decide +kernel
theorem dm_X12_seen_1 : mj_dec prog_14_method_8_code 1 = some (.aload_n 0, 1) := by decide +kernel
theorem dm_X12_seen_2 : mj_dec prog_14_method_8_code 2 = some (.getfield 102, 3) := by decide +kernel
theorem dm_X12_seen_5 : mj_dec prog_14_method_8_code 5 = some (.iload_n 1, 1) := by decide +kernel
theorem dm_X12_seen_6 : mj_dec prog_14_method_8_code 6 = some (.iload_n 2, 1) := by decide +kernel
theorem dm_X12_seen_7 : mj_dec prog_14_method_8_code 7 = some (.iload_n 3, 1) := by decide +kernel
theorem dm_X12_seen_8 : mj_dec prog_14_method_8_code 8 = some (.invokevirtual 115, 3) := by decide +kernel
theorem dm_X12_seen_11 : mj_dec prog_14_method_8_code 11 = some (.aload_n 0, 1) := by decide +kernel
theorem dm_X12_seen_12 : mj_dec prog_14_method_8_code 12 = some (.dup, 1) := by decide +kernel
theorem dm_X12_seen_13 : mj_dec prog_14_method_8_code 13 = some (.getfield 102, 3) := by decide +kernel
theorem dm_X12_seen_16 : mj_dec prog_14_method_8_code 16 = some (.iconst 1, 1) := by decide +kernel
theorem dm_X12_seen_17 : mj_dec prog_14_method_8_code 17 = some (.iadd, 1) := by decide +kernel
theorem dm_X12_seen_18 : mj_dec prog_14_method_8_code 18 = some (.putfield 102, 3) := by decide +kernel
theorem dm_X12_seen_21 : mj_dec prog_14_method_8_code 21 = some (.aload_n 0, 1) := by decide +kernel
theorem dm_X12_seen_22 : mj_dec prog_14_method_8_code 22 = some (.getfield 102, 3) := by decide +kernel
theorem dm_X12_seen_25 : mj_dec prog_14_method_8_code 25 = some (.iconst 1, 1) := by decide +kernel
theorem dm_X12_seen_26 : mj_dec prog_14_method_8_code 26 = some (.isub, 1) := by decide +kernel
theorem dm_X12_seen_27 : mj_dec prog_14_method_8_code 27 = some (.ireturn, 1) := by decide +kernel
theorem r_seen_ {xt : mj_X} {d q : Nat} {pre post : mj_H} {s : RS} {kind at_ n : Int} (hm : pre.length = 102) (hd1 : 2 ≤ d) (hq : s.1 4 = (q : Int)) (hV2 : q < 310000) (hk : 0 ≤ kind ∧ kind ≤ 7) (hn : 0 ≤ n ∧ n ≤ 255) : pgV xt d 198 [.ref 102, ii kind, ii at_, ii n] (rS pre post s) (fun v h' => v = ii (q : Int) ∧ h' = rS pre post (seenS s q kind at_ n)) := by
  refine x_enter pm_X12_seen (L0 := [(0, .ref 102), (1, ii kind), (2, ii at_), (3, ii n)]) rfl (Nat.le_of_ble_eq_true rfl) (by omega) ?_
  refine me1 (pc' := 1) (L' := [(0, .ref 102), (1, ii kind), (2, ii at_), (3, ii n)]) (S' := [.ref 102]) dm_X12_seen_0 rfl rfl rfl rfl ?_
  refine me1 (pc' := 2) (L' := [(0, .ref 102), (1, ii kind), (2, ii at_), (3, ii n)]) (S' := [.ref 102, .ref 102]) dm_X12_seen_1 rfl rfl rfl rfl ?_
  refine me3 (pc' := 5) (S' := [ii (s.1 4), .ref 102]) dm_X12_seen_2 (q_geti (v := s.1 4) hm rfl (fun m i l => rg_4 m i l) rfl) rfl rfl rfl ?_
  refine pg_st (S' := [ii (q : Int), .ref 102]) (by rw [hq]) ?_
  refine me1 (pc' := 6) (L' := [(0, .ref 102), (1, ii kind), (2, ii at_), (3, ii n)]) (S' := [ii kind, ii (q : Int), .ref 102]) dm_X12_seen_5 rfl rfl rfl rfl ?_
  refine me1 (pc' := 7) (L' := [(0, .ref 102), (1, ii kind), (2, ii at_), (3, ii n)]) (S' := [ii at_, ii kind, ii (q : Int), .ref 102]) dm_X12_seen_6 rfl rfl rfl rfl ?_
  refine me1 (pc' := 8) (L' := [(0, .ref 102), (1, ii kind), (2, ii at_), (3, ii n)]) (S' := [ii n, ii at_, ii kind, ii (q : Int), .ref 102]) dm_X12_seen_7 rfl rfl rfl rfl ?_
  refine x_cn (pc' := 11) (rest := []) dm_X12_seen_8 rfl (q_inv (As := [ii (q : Int), ii kind, ii at_, ii n]) (S := []) hm rfl rfl rfl) rfl rfl rfl (r_view_ (hd := q) hm (by omega) (by omega) (by omega) (by omega)) ?_
  rintro _ rfl
  refine me1 (pc' := 12) (L' := [(0, .ref 102), (1, ii kind), (2, ii at_), (3, ii n)]) (S' := [.ref 102]) dm_X12_seen_11 rfl rfl rfl rfl ?_
  refine me0 (pc' := 13) (S' := [.ref 102, .ref 102]) dm_X12_seen_12 rfl rfl rfl rfl ?_
  refine me3 (pc' := 16) (S' := [ii (s.1 4), .ref 102]) dm_X12_seen_13 (q_geti (v := s.1 4) hm rfl (fun m i l => rg_4 m i l) rfl) rfl rfl rfl ?_
  refine pg_st (S' := [ii (q : Int), .ref 102]) (by rw [hq]) ?_
  refine me0 (pc' := 17) (S' := [ii 1, ii (q : Int), .ref 102]) dm_X12_seen_16 rfl rfl rfl rfl ?_
  refine y_iadd (a := (q : Int)) (b := 1) dm_X12_seen_17 (pc' := 18) rfl ?_
  refine me3 (pc' := 21) (S' := []) (h1 := rI pre post (va_up s.1 4 ((q : Int) + 1)) s.2.1 (viewI s.2.2.1 q kind at_ n) s.2.2.2) dm_X12_seen_18 (q_puti hm rfl rfl (fun m i l v => rf_4 m i l v)) rfl rfl rfl ?_
  refine me1 (pc' := 22) (L' := [(0, .ref 102), (1, ii kind), (2, ii at_), (3, ii n)]) (S' := [.ref 102]) dm_X12_seen_21 rfl rfl rfl rfl ?_
  refine me3 (pc' := 25) (S' := [ii ((q : Int) + 1)]) dm_X12_seen_22 (q_geti (v := (q : Int) + 1) hm rfl (fun m i l => rg_4 m i l) rfl) rfl rfl rfl ?_
  refine me0 (pc' := 26) (S' := [ii 1, ii ((q : Int) + 1)]) dm_X12_seen_25 rfl rfl rfl rfl ?_
  refine y_isub (a := (q : Int) + 1) (b := 1) dm_X12_seen_26 (pc' := 27) rfl ?_
  refine y_ret (r := some (ii (((q : Int) + 1) - 1))) dm_X12_seen_27 rfl rfl rfl ?_
  exact ⟨_, rfl, n_ii (by omega), rfl⟩
set_option maxRecDepth 20000 in
theorem pm_X12_row : mj_mmof pg_ms 197 = some ((⟨"ArrayCalculatorModel", "row", "(II)I"⟩, prog_14_method_9_code, 3, (Option.some Jvm.ClassFile.FieldType.int)), 12, false, mj_dec prog_14_method_9_code) := rfl
theorem dm_X12_row_0 : mj_dec prog_14_method_9_code 0 = some (.aload_n 0, 1) := by decide +kernel
theorem dm_X12_row_1 : mj_dec prog_14_method_9_code 1 = some (.dup, 1) := by decide +kernel
theorem dm_X12_row_2 : mj_dec prog_14_method_9_code 2 = some (.getfield 119, 3) := by decide +kernel
theorem dm_X12_row_5 : mj_dec prog_14_method_9_code 5 = some (.iload_n 2, 1) := by decide +kernel
theorem dm_X12_row_6 : mj_dec prog_14_method_9_code 6 = some (.iadd, 1) := by decide +kernel
theorem dm_X12_row_7 : mj_dec prog_14_method_9_code 7 = some (.putfield 119, 3) := by decide +kernel
theorem dm_X12_row_10 : mj_dec prog_14_method_9_code 10 = some (.aload_n 0, 1) := by decide +kernel
theorem dm_X12_row_11 : mj_dec prog_14_method_9_code 11 = some (.iload_n 1, 1) := by decide +kernel
theorem dm_X12_row_12 : mj_dec prog_14_method_9_code 12 = some (.aload_n 0, 1) := by decide +kernel
theorem dm_X12_row_13 : mj_dec prog_14_method_9_code 13 = some (.getfield 119, 3) := by decide +kernel
theorem dm_X12_row_16 : mj_dec prog_14_method_9_code 16 = some (.iload_n 2, 1) := by decide +kernel
theorem dm_X12_row_17 : mj_dec prog_14_method_9_code 17 = some (.isub, 1) := by decide +kernel
theorem dm_X12_row_18 : mj_dec prog_14_method_9_code 18 = some (.iload_n 2, 1) := by decide +kernel
theorem dm_X12_row_19 : mj_dec prog_14_method_9_code 19 = some (.invokevirtual 122, 3) := by decide +kernel
theorem dm_X12_row_22 : mj_dec prog_14_method_9_code 22 = some (.ireturn, 1) := by decide +kernel
theorem r_row_ {xt : mj_X} {d q b : Nat} {pre post : mj_H} {s : RS} {kind n : Int} (hm : pre.length = 102) (hd1 : 3 ≤ d) (hq : s.1 4 = (q : Int)) (hb : s.1 3 = (b : Int)) (hV2 : q < 310000) (hk : 0 ≤ kind ∧ kind ≤ 7) (hn : 0 ≤ n ∧ n ≤ 255) : pgV xt d 197 [.ref 102, ii kind, ii n] (rS pre post s) (fun v h' => v = ii (q : Int) ∧ h' = rS pre post (rowS s q b kind n)) := by
  refine x_enter pm_X12_row (L0 := [(0, .ref 102), (1, ii kind), (2, ii n)]) rfl (Nat.le_of_ble_eq_true rfl) (by omega) ?_
  refine me1 (pc' := 1) (L' := [(0, .ref 102), (1, ii kind), (2, ii n)]) (S' := [.ref 102]) dm_X12_row_0 rfl rfl rfl rfl ?_
  refine me0 (pc' := 2) (S' := [.ref 102, .ref 102]) dm_X12_row_1 rfl rfl rfl rfl ?_
  refine me3 (pc' := 5) (S' := [ii (s.1 3), .ref 102]) dm_X12_row_2 (q_geti (v := s.1 3) hm rfl (fun m i l => rg_3 m i l) rfl) rfl rfl rfl ?_
  refine me1 (pc' := 6) (L' := [(0, .ref 102), (1, ii kind), (2, ii n)]) (S' := [ii n, ii (s.1 3), .ref 102]) dm_X12_row_5 rfl rfl rfl rfl ?_
  refine y_iadd (a := s.1 3) (b := n) dm_X12_row_6 (pc' := 7) rfl ?_
  refine me3 (pc' := 10) (S' := []) (h1 := rI pre post (va_up s.1 3 ((s.1 3) + n)) s.2.1 s.2.2.1 s.2.2.2) dm_X12_row_7 (q_puti hm rfl rfl (fun m i l v => rf_3 m i l v)) rfl rfl rfl ?_
  refine me1 (pc' := 11) (L' := [(0, .ref 102), (1, ii kind), (2, ii n)]) (S' := [.ref 102]) dm_X12_row_10 rfl rfl rfl rfl ?_
  refine me1 (pc' := 12) (L' := [(0, .ref 102), (1, ii kind), (2, ii n)]) (S' := [ii kind, .ref 102]) dm_X12_row_11 rfl rfl rfl rfl ?_
  refine me1 (pc' := 13) (L' := [(0, .ref 102), (1, ii kind), (2, ii n)]) (S' := [.ref 102, ii kind, .ref 102]) dm_X12_row_12 rfl rfl rfl rfl ?_
  refine me3 (pc' := 16) (S' := [ii ((s.1 3) + n), ii kind, .ref 102]) dm_X12_row_13 (q_geti (v := (s.1 3) + n) hm rfl (fun m i l => rg_3 m i l) rfl) rfl rfl rfl ?_
  refine me1 (pc' := 17) (L' := [(0, .ref 102), (1, ii kind), (2, ii n)]) (S' := [ii n, ii ((s.1 3) + n), ii kind, .ref 102]) dm_X12_row_16 rfl rfl rfl rfl ?_
  refine y_isub (a := (s.1 3) + n) (b := n) dm_X12_row_17 (pc' := 18) rfl ?_
  refine me1 (pc' := 19) (L' := [(0, .ref 102), (1, ii kind), (2, ii n)]) (S' := [ii n, ii (((s.1 3) + n) - n), ii kind, .ref 102]) dm_X12_row_18 rfl rfl rfl rfl ?_
  refine x_cv (pc' := 22) (rest := []) dm_X12_row_19 rfl (q_inv (As := [ii kind, ii (((s.1 3) + n) - n), ii n]) (S := []) hm rfl rfl rfl) rfl rfl rfl (r_seen_ (q := q) (s := (va_up s.1 3 ((s.1 3) + n), s.2.1, s.2.2.1, s.2.2.2)) hm (by omega) hq (by omega) (by omega) (by omega)) ?_
  rintro _ _ ⟨rfl, rfl⟩
  refine y_ret (r := some (ii (q : Int))) dm_X12_row_22 rfl rfl rfl ?_
  refine ⟨_, rfl, rfl, ?_⟩
  unfold rowS seenS
  rw [show s.1 3 + n - n = (b : Int) by omega, show s.1 3 + n = (b : Int) + n by omega]
theorem up_up {α : Type} (f : Nat → α) (k : Nat) (v w : α) : va_up (va_up f k v) k w = va_up f k w := by
  funext j
  unfold va_up
  by_cases h : j = k
  · rw [if_pos h, if_pos h]
  · rw [if_neg h, if_neg h, if_neg h]
set_option maxRecDepth 20000 in
theorem pm_X12_table : mj_mmof pg_ms 264 = some ((⟨"ArrayCalculatorModel", "table", "(II)I"⟩, prog_14_method_10_code, 4, (Option.some Jvm.ClassFile.FieldType.int)), 12, false, mj_dec prog_14_method_10_code) := rfl
theorem dm_X12_table_0 : mj_dec prog_14_method_10_code 0 = some (.aload_n 0, 1) := by decide +kernel
theorem dm_X12_table_1 : mj_dec prog_14_method_10_code 1 = some (.dup, 1) := by decide +kernel
theorem dm_X12_table_2 : mj_dec prog_14_method_10_code 2 = some (.getfield 119, 3) := by decide +kernel
theorem dm_X12_table_5 : mj_dec prog_14_method_10_code 5 = some (.iload_n 1, 1) := by decide +kernel
theorem dm_X12_table_6 : mj_dec prog_14_method_10_code 6 = some (.iload_n 2, 1) := by decide +kernel
theorem dm_X12_table_7 : mj_dec prog_14_method_10_code 7 = some (.imul, 1) := by decide +kernel
theorem dm_X12_table_8 : mj_dec prog_14_method_10_code 8 = some (.iadd, 1) := by decide +kernel
theorem dm_X12_table_9 : mj_dec prog_14_method_10_code 9 = some (.putfield 119, 3) := by decide +kernel
theorem dm_X12_table_12 : mj_dec prog_14_method_10_code 12 = some (.aload_n 0, 1) := by decide +kernel
theorem dm_X12_table_13 : mj_dec prog_14_method_10_code 13 = some (.bipush 6, 2) := by decide +kernel
theorem dm_X12_table_15 : mj_dec prog_14_method_10_code 15 = some (.aload_n 0, 1) := by decide +kernel
theorem dm_X12_table_16 : mj_dec prog_14_method_10_code 16 = some (.getfield 119, 3) := by decide +kernel
theorem dm_X12_table_19 : mj_dec prog_14_method_10_code 19 = some (.iload_n 1, 1) := by decide +kernel
theorem dm_X12_table_20 : mj_dec prog_14_method_10_code 20 = some (.iload_n 2, 1) := by decide +kernel
theorem dm_X12_table_21 : mj_dec prog_14_method_10_code 21 = some (.imul, 1) := by decide +kernel
theorem dm_X12_table_22 : mj_dec prog_14_method_10_code 22 = some (.isub, 1) := by decide +kernel
theorem dm_X12_table_23 : mj_dec prog_14_method_10_code 23 = some (.iload_n 1, 1) := by decide +kernel
theorem dm_X12_table_24 : mj_dec prog_14_method_10_code 24 = some (.invokevirtual 122, 3) := by decide +kernel
theorem dm_X12_table_27 : mj_dec prog_14_method_10_code 27 = some (.istore_n 3, 1) := by decide +kernel
theorem dm_X12_table_28 : mj_dec prog_14_method_10_code 28 = some (.aload_n 0, 1) := by decide +kernel
theorem dm_X12_table_29 : mj_dec prog_14_method_10_code 29 = some (.getfield 19, 3) := by decide +kernel
theorem dm_X12_table_32 : mj_dec prog_14_method_10_code 32 = some (.iload_n 3, 1) := by decide +kernel
theorem dm_X12_table_33 : mj_dec prog_14_method_10_code 33 = some (.dup2, 1) := by decide +kernel
theorem dm_X12_table_34 : mj_dec prog_14_method_10_code 34 = some (.iaload, 1) := by decide +kernel
theorem dm_X12_table_35 : mj_dec prog_14_method_10_code 35 = some (.iload_n 2, 1) := by decide +kernel
theorem dm_X12_table_36 : mj_dec prog_14_method_10_code 36 = some (.bipush 11, 2) := by decide +kernel
theorem dm_X12_table_38 : mj_dec prog_14_method_10_code 38 = some (.ishl, 1) := by decide +kernel
theorem dm_X12_table_39 : mj_dec prog_14_method_10_code 39 = some (.ior, 1) := by decide +kernel
theorem dm_X12_table_40 : mj_dec prog_14_method_10_code 40 = some (.iastore, 1) := by decide +kernel
theorem dm_X12_table_41 : mj_dec prog_14_method_10_code 41 = some (.iload_n 3, 1) := by decide +kernel
theorem dm_X12_table_42 : mj_dec prog_14_method_10_code 42 = some (.ireturn, 1) := by decide +kernel
theorem r_table_ {xt : mj_X} {d q b : Nat} {pre post : mj_H} {s : RS} {r c : Int} (hm : pre.length = 102) (hd1 : 3 ≤ d) (hq : s.1 4 = (q : Int)) (hb : s.1 3 = (b : Int)) (hV2 : q < 310000) (hr : 0 ≤ r ∧ r ≤ 12) (hc : 0 ≤ c ∧ c ≤ 12) : pgV xt d 264 [.ref 102, ii r, ii c] (rS pre post s) (fun v h' => v = ii (q : Int) ∧ h' = rS pre post (tabS s q b r c)) := by
  refine x_enter pm_X12_table (L0 := [(0, .ref 102), (1, ii r), (2, ii c)]) rfl (Nat.le_of_ble_eq_true rfl) (by omega) ?_
  refine me1 (pc' := 1) (L' := [(0, .ref 102), (1, ii r), (2, ii c)]) (S' := [.ref 102]) dm_X12_table_0 rfl rfl rfl rfl ?_
  refine me0 (pc' := 2) (S' := [.ref 102, .ref 102]) dm_X12_table_1 rfl rfl rfl rfl ?_
  refine me3 (pc' := 5) (S' := [ii (s.1 3), .ref 102]) dm_X12_table_2 (q_geti (v := s.1 3) hm rfl (fun m i l => rg_3 m i l) rfl) rfl rfl rfl ?_
  refine me1 (pc' := 6) (L' := [(0, .ref 102), (1, ii r), (2, ii c)]) (S' := [ii r, ii (s.1 3), .ref 102]) dm_X12_table_5 rfl rfl rfl rfl ?_
  refine me1 (pc' := 7) (L' := [(0, .ref 102), (1, ii r), (2, ii c)]) (S' := [ii c, ii r, ii (s.1 3), .ref 102]) dm_X12_table_6 rfl rfl rfl rfl ?_
  refine y_imul (a := r) (b := c) dm_X12_table_7 (pc' := 8) rfl ?_
  refine y_iadd (a := s.1 3) (b := r * c) dm_X12_table_8 (pc' := 9) rfl ?_
  refine me3 (pc' := 12) (S' := []) (h1 := rI pre post (va_up s.1 3 ((s.1 3) + (r * c))) s.2.1 s.2.2.1 s.2.2.2) dm_X12_table_9 (q_puti hm rfl rfl (fun m i l v => rf_3 m i l v)) rfl rfl rfl ?_
  refine me1 (pc' := 13) (L' := [(0, .ref 102), (1, ii r), (2, ii c)]) (S' := [.ref 102]) dm_X12_table_12 rfl rfl rfl rfl ?_
  refine me0 (pc' := 15) (S' := [ii 6, .ref 102]) dm_X12_table_13 rfl rfl rfl rfl ?_
  refine me1 (pc' := 16) (L' := [(0, .ref 102), (1, ii r), (2, ii c)]) (S' := [.ref 102, ii 6, .ref 102]) dm_X12_table_15 rfl rfl rfl rfl ?_
  refine me3 (pc' := 19) (S' := [ii ((s.1 3) + (r * c)), ii 6, .ref 102]) dm_X12_table_16 (q_geti (v := (s.1 3) + (r * c)) hm rfl (fun m i l => rg_3 m i l) rfl) rfl rfl rfl ?_
  refine me1 (pc' := 20) (L' := [(0, .ref 102), (1, ii r), (2, ii c)]) (S' := [ii r, ii ((s.1 3) + (r * c)), ii 6, .ref 102]) dm_X12_table_19 rfl rfl rfl rfl ?_
  refine me1 (pc' := 21) (L' := [(0, .ref 102), (1, ii r), (2, ii c)]) (S' := [ii c, ii r, ii ((s.1 3) + (r * c)), ii 6, .ref 102]) dm_X12_table_20 rfl rfl rfl rfl ?_
  refine y_imul (a := r) (b := c) dm_X12_table_21 (pc' := 22) rfl ?_
  refine y_isub (a := (s.1 3) + (r * c)) (b := r * c) dm_X12_table_22 (pc' := 23) rfl ?_
  refine me1 (pc' := 24) (L' := [(0, .ref 102), (1, ii r), (2, ii c)]) (S' := [ii r, ii (((s.1 3) + (r * c)) - (r * c)), ii 6, .ref 102]) dm_X12_table_23 rfl rfl rfl rfl ?_
  refine x_cv (pc' := 27) (rest := []) dm_X12_table_24 rfl (q_inv (As := [ii 6, ii (((s.1 3) + (r * c)) - (r * c)), ii r]) (S := []) hm rfl rfl rfl) rfl rfl rfl (r_seen_ (q := q) (s := (va_up s.1 3 ((s.1 3) + (r * c)), s.2.1, s.2.2.1, s.2.2.2)) hm (by omega) hq (by omega) (by omega) (by omega)) ?_
  rintro _ _ ⟨rfl, rfl⟩
  refine me1 (pc' := 28) (L' := [(3, ii (q : Int)), (0, .ref 102), (1, ii r), (2, ii c)]) (S' := []) dm_X12_table_27 rfl rfl rfl rfl ?_
  refine me1 (pc' := 29) (L' := [(3, ii (q : Int)), (0, .ref 102), (1, ii r), (2, ii c)]) (S' := [.ref 102]) dm_X12_table_28 rfl rfl rfl rfl ?_
  refine me3 (pc' := 32) (S' := [.ref (102 + 3)]) dm_X12_table_29 (q_getr hm rfl (fun m i l => rg_2 m i l)) rfl rfl rfl ?_
  refine me1 (pc' := 33) (L' := [(3, ii (q : Int)), (0, .ref 102), (1, ii r), (2, ii c)]) (S' := [ii (q : Int), .ref (102 + 3)]) dm_X12_table_32 rfl rfl rfl rfl ?_
  refine me0 (pc' := 34) (S' := [ii (q : Int), .ref (102 + 3), ii (q : Int), .ref (102 + 3)]) dm_X12_table_33 rfl rfl rfl rfl ?_
  refine me3 (pc' := 35) (S' := [ii ((((seenS (va_up s.1 3 ((s.1 3) + (r * c)), s.2.1, s.2.2.1, s.2.2.2) q 6 (((s.1 3) + (r * c)) - (r * c)) r).2.2.1) 2) q), ii (q : Int), .ref (102 + 3)]) dm_X12_table_34 (q_iald (v := (((seenS (va_up s.1 3 ((s.1 3) + (r * c)), s.2.1, s.2.2.1, s.2.2.2) q 6 (((s.1 3) + (r * c)) - (r * c)) r).2.2.1) 2) q) (k := 2) (n := 310000) hm (fun m i l I J => rc_2 m i l I J) (by omega) (by omega) (by decide) rfl) rfl rfl rfl ?_
  refine pg_st (S' := [ii (6 + r * 8), ii (q : Int), .ref (102 + 3)]) (by rw [show ((((seenS (va_up s.1 3 ((s.1 3) + (r * c)), s.2.1, s.2.2.1, s.2.2.2) q 6 (((s.1 3) + (r * c)) - (r * c)) r).2.2.1) 2) q : Int) = 6 + r * 8 from up_eq _ _ _]) ?_
  refine me1 (pc' := 36) (L' := [(3, ii (q : Int)), (0, .ref 102), (1, ii r), (2, ii c)]) (S' := [ii c, ii (6 + r * 8), ii (q : Int), .ref (102 + 3)]) dm_X12_table_35 rfl rfl rfl rfl ?_
  refine me0 (pc' := 38) (S' := [ii 11, ii c, ii (6 + r * 8), ii (q : Int), .ref (102 + 3)]) dm_X12_table_36 rfl rfl rfl rfl ?_
  refine y_shl (a := c) (k := 11) dm_X12_table_38 (pc' := 39) rfl (by decide) ?_
  refine y_or (a := 6 + r * 8) (b := c * 2048) dm_X12_table_39 (pc' := 40) rfl (k := 11) (c := c) rfl (by omega) (by omega) (by omega) (by omega) ?_
  refine me3 (pc' := 41) (S' := []) (h1 := rI pre post ((seenS (va_up s.1 3 ((s.1 3) + (r * c)), s.2.1, s.2.2.1, s.2.2.2) q 6 (((s.1 3) + (r * c)) - (r * c)) r).1) ((seenS (va_up s.1 3 ((s.1 3) + (r * c)), s.2.1, s.2.2.1, s.2.2.2) q 6 (((s.1 3) + (r * c)) - (r * c)) r).2.1) (va_up ((seenS (va_up s.1 3 ((s.1 3) + (r * c)), s.2.1, s.2.2.1, s.2.2.2) q 6 (((s.1 3) + (r * c)) - (r * c)) r).2.2.1) 2 (va_up (((seenS (va_up s.1 3 ((s.1 3) + (r * c)), s.2.1, s.2.2.1, s.2.2.2) q 6 (((s.1 3) + (r * c)) - (r * c)) r).2.2.1) 2) q ((6 + r * 8) + (c * 2048)))) ((seenS (va_up s.1 3 ((s.1 3) + (r * c)), s.2.1, s.2.2.1, s.2.2.2) q 6 (((s.1 3) + (r * c)) - (r * c)) r).2.2.2)) dm_X12_table_40 (q_iast (j := (q : Int)) (k := 2) (n := 310000) hm (fun m i l I J => rc_2 m i l I J) (fun m i l I J f => rs_2 m i l I J f) (by omega) (by omega) (by decide)) rfl rfl rfl ?_
  refine me1 (pc' := 42) (L' := [(3, ii (q : Int)), (0, .ref 102), (1, ii r), (2, ii c)]) (S' := [ii (q : Int)]) dm_X12_table_41 rfl rfl rfl rfl ?_
  refine y_ret (r := some (ii (q : Int))) dm_X12_table_42 rfl rfl rfl ?_
  refine ⟨_, rfl, rfl, ?_⟩
  unfold tabS seenS
  rw [show s.1 3 + r * c - r * c = (b : Int) by omega, show s.1 3 + r * c = (b : Int) + r * c by omega]
  show rI _ _ _ _ (va_up (va_up (va_up s.2.2.1 1 _) 2 _) 2 (va_up (va_up (s.2.2.1 2) q _) q _)) _ = _
  rw [up_up, up_up]
