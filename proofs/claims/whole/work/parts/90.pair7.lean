/-! PAIRED: what is made -/
def fE (f s l : Int) : Int := if f ≠ 0 then f else if 1000 < s ∨ 5 < l then 8 else 0
/-- is the answer a row of bits -/
abbrev bitV (vb : Int) : Prop := vb = 60 ∨ vb = 62 ∨ vb = 61 ∨ vb = 126
def flG (vb : Int) (v w : VV) (j : Nat) : Int64 := (outT vb v w (lkV v w) j).2
/-- of two that are no nests -/
def flV (vb : Int) (v w : VV) : VV := if vk (lkV v w) ≤ 1 then v1 0 (flG vb v w 0) else if vk (lkV v w) = 6 then vtab (vm (lkV v w)) (vc (lkV v w)) (flG vb v w) else if bitV vb then vrow 2 (vm (lkV v w)) (flG vb v w) else vrow (vform (vm (lkV v w)) (flG vb v w)) (vm (lkV v w)) (flG vb v w)
def paV (vb : Int) : Nat → VV → VV → VV
  | 0, _, _ => v0
  | d + 1, v, w => if pflat v w then flV vb v w else vnest (pnN v w) (fun k => paV vb d (pat v k) (pat w k))
theorem paV_s {vb : Int} {d : Nat} {v w : VV} : paV vb (d + 1) v w = (if pflat v w then flV vb v w else vnest (pnN v w) (fun k => paV vb d (pat v k) (pat w k))) := rfl
/-- how many values are made -/
def paK : Nat → VV → VV → Nat
  | 0, _, _ => 0
  | d + 1, v, w => if pflat v w then 1 else 1 + sumN (pnN v w) (fun k => paK d (pat v k) (pat w k))
theorem paK_s {d : Nat} {v w : VV} : paK (d + 1) v w = (if pflat v w then 1 else 1 + sumN (pnN v w) (fun k => paK d (pat v k) (pat w k))) := rfl
theorem outF_bits {vb : Int} {k1 k2 : Nat} {a b : Int64} (h : bitV vb) : (outF vb k1 k2 a b).2 = 0 ∨ (outF vb k1 k2 a b).2 = 1 := by
  have e0 : Int64.ofInt 0 = 0 := by decide
  have e1 : Int64.ofInt 1 = 1 := by decide
  unfold outF
  rw [e0, e1]
  by_cases c1 : vb = 61
  · rw [if_pos c1]; dsimp only; split
    · exact Or.inr rfl
    · exact Or.inl rfl
  · rw [if_neg c1]
    by_cases c2 : ¬ ((k1 = 1 ∨ k1 = 3) ↔ (k2 = 1 ∨ k2 = 3)) ∨ ((k1 = 1 ∨ k1 = 3) ∧ ¬ (vb = 60 ∨ vb = 62))
    · rw [if_pos c2]; exact Or.inl rfl
    · rw [if_neg c2]
      by_cases c3 : vb = 60
      · rw [if_pos c3]; dsimp only; split
        · exact Or.inr rfl
        · exact Or.inl rfl
      · rw [if_neg c3]
        by_cases c4 : vb = 62
        · rw [if_pos c4]; dsimp only; split
          · exact Or.inr rfl
          · exact Or.inl rfl
        · rw [if_neg c4]
          have hv : vb = 126 := by omega
          subst hv
          simp only [show ¬ ((126 : Int) = 43) by decide, show ¬ ((126 : Int) = 45) by decide, show ¬ ((126 : Int) = 42) by decide, show ¬ ((126 : Int) = 37) by decide, show ¬ ((126 : Int) = 33) by decide, show ¬ ((126 : Int) = 38) by decide, show ¬ ((126 : Int) = 124) by decide, if_false, if_true]
          split
          · exact Or.inr rfl
          · exact Or.inl rfl
theorem flE_all {vb : Int} {v w lk : VV} {n : Nat} (h : flE vb v w lk n = 0) : ∀ j, j < n → (outT vb v w lk j).1 = 0 := by
  unfold flE at h
  by_cases z : askF v w = 0
  · rw [if_pos z] at h
    exact errs_all h
  · rw [if_neg z] at h
    exact absurd h z
theorem outT_fit {vb : Int} {v w lk : VV} {j : Nat} (h : (outT vb v w lk j).1 = 0) (h6 : vk lk = 6) : fits (outT vb v w lk j).2 := by
  rw [outT_2]
  by_cases z : (outF vb (vk v) (vk w) (vnum v (j : Int)) (vnum w (j : Int))).1 = 0 ∧ vk lk = 6 ∧ fitsB (outF vb (vk v) (vk w) (vnum v (j : Int)) (vnum w (j : Int))).2 = false
  · rw [outT_6 z] at h; omega
  · rw [outT_1 z] at h
    refine fitsB_iff.mp ?_
    cases hf : fitsB (outF vb (vk v) (vk w) (vnum v (j : Int)) (vnum w (j : Int))).2 with
    | true => rfl
    | false => exact absurd ⟨h, h6, hf⟩ z
theorem lkV_w {v w : VV} (hv : vw1 v) (hw : vw1 w) : vw1 (lkV v w) := by unfold lkV; split <;> assumption
/-- for any heap that keeps its cells, this is a value there -/
def rcv (B : Nat → Prop) (h : mj_H) (arr : Prop) (va vmt : Nat) (V : Nat → Option Nat) (lo hi e q : Nat) (w : VV) : Prop := ∀ (A' : Nat → Prop) (hf : mj_H) (VF : Nat → Option Nat), (∀ x c, B x → h[x]? = some c → A' x ∧ hf[x]? = some c) → (arr → hf[va]? = some (cA 4 vmt VF) ∧ A' va) → (∀ j, lo ≤ j → j < hi → VF j = V j) → cv A' hf e q w
theorem rcv_mono {B B' : Nat → Prop} {h h' : mj_H} {arr : Prop} {va vmt lo hi lo' hi' e q : Nat} {V V' : Nat → Option Nat} {w : VV} (hr : rcv B h arr va vmt V lo hi e q w) (hk : ∀ x c, B x → h[x]? = some c → B' x ∧ h'[x]? = some c) (hV : ∀ j, lo ≤ j → j < hi → V' j = V j) (h1 : lo' ≤ lo) (h2 : hi ≤ hi') : rcv B' h' arr va vmt V' lo' hi' e q w := by
  intro A' hf VF k1 k2 k3
  refine hr A' hf VF (fun x c hx hg => ?_) k2 (fun j j1 j2 => ?_)
  · obtain ⟨z1, z2⟩ := hk x c hx hg
    exact k1 x c z1 z2
  · rw [k3 j (by omega) (by omega)]; exact hV j j1 j2
/-- what no nest is -/
theorem rcv_flat {A : Nat → Prop} {h : mj_H} {arr : Prop} {va vmt lo hi e q row fr n : Nat} {V : Nat → Option Nat} {f : Nat → Int64} {w : VV} (hg : h[q]? = some (cVal (vk w : Int) 0 row (fr : Int) (vm w : Int) (vc w : Int))) (hw : vw1 w) (hk : 2 ≤ vk w) (hk6 : vk w ≤ 6) (h2 : 2 ≤ q) (hA : A q) (hr : rowAt A h row n f) (hfr : fr ≤ 1000) (hb : 0 < vq w → fr + vq w ≤ n) (hf : ∀ k, k < vq w → f (fr + k) = vn w k) : rcv A h arr va vmt V lo hi (e + 1) q w := by
  intro A' hF VF k1 _ _
  obtain ⟨z1, z2⟩ := k1 q _ hA hg
  refine cv_flat z2 hw hk hk6 h2 z1 ?_ hfr hb hf
  rcases hr with g1 | ⟨g2, g3, g4, g5⟩
  · exact Or.inl g1
  · obtain ⟨y1, y2⟩ := k1 row _ g5 g3
    exact Or.inr ⟨g2, y2, g4, y1⟩
theorem rcv_one {A : Nat → Prop} {h : mj_H} {arr : Prop} {va vmt lo hi e q k : Nat} {V : Nat → Option Nat} {x : Int64} (hg : h[q]? = some (cVal (k : Int) x 1 0 1 0)) (hk : k ≤ 1) (h2 : 2 ≤ q) (hA : A q) : rcv A h arr va vmt V lo hi (e + 1) q (v1 k x) := by
  intro A' hF VF k1 _ _
  obtain ⟨z1, z2⟩ := k1 q _ hA hg
  exact cv_one z2 hk h2 z1
/-- cells that were there are kept, but o and va; so many have come -/
def mkS (o va : Nat) (h h' : mj_H) (a b : Nat) : Prop := ∃ h1 X, h' = h1 ++ X ∧ h1.length = h.length ∧ mj_sl h1 = mj_sl h ∧ (∀ x, x ≠ o → x ≠ va → h1[x]? = h[x]?) ∧ X.length ≤ a ∧ mj_sl X ≤ b
theorem mkS_rf (o va : Nat) (h : mj_H) : mkS o va h h 0 0 := ⟨h, [], (List.append_nil _).symm, rfl, rfl, fun _ _ _ => rfl, Nat.le_refl _, Nat.le_refl _⟩
theorem mkS_get {o va : Nat} {h h' : mj_H} {a b x : Nat} {c : mj_E} (hm : mkS o va h h' a b) (h1 : x ≠ o) (h2 : x ≠ va) (hg : h[x]? = some c) : h'[x]? = some c := by
  obtain ⟨h0, X, rfl, -, -, h4, -⟩ := hm
  exact hl_app ((h4 x h1 h2).trans hg)
theorem mkS_len {o va : Nat} {h h' : mj_H} {a b : Nat} (hm : mkS o va h h' a b) : h.length ≤ h'.length := by
  obtain ⟨h0, X, rfl, h1, -⟩ := hm
  rw [List.length_append]
  omega
theorem mkS_up {o va : Nat} {h h' : mj_H} {a b a' b' : Nat} (hm : mkS o va h h' a b) (ha : a ≤ a') (hb : b ≤ b') : mkS o va h h' a' b' := by
  obtain ⟨h0, X, h1, h2, h3, h4, h5, h6⟩ := hm
  exact ⟨h0, X, h1, h2, h3, h4, by omega, by omega⟩
theorem mkS_app {o va : Nat} {h h' : mj_H} {a b : Nat} {e : mj_E} (hm : mkS o va h h' a b) : mkS o va h (h' ++ [e]) (a + 1) (b + mj_sl1 e) := by
  obtain ⟨h0, X, rfl, h2, h3, h4, h5, h6⟩ := hm
  refine ⟨h0, X ++ [e], List.append_assoc _ _ _, h2, h3, h4, by rw [List.length_append]; show _ + 1 ≤ _; omega, ?_⟩
  rw [sl_app]
  show mj_sl X + (mj_sl1 e + 0) ≤ _
  omega
theorem mkS_set {o va x : Nat} {h h' : mj_H} {a b : Nat} {e e' : mj_E} (hm : mkS o va h h' a b) (hx : x = o ∨ x = va) (hl : x < h.length) (hg : h'[x]? = some e) (hs : mj_sl1 e' = mj_sl1 e) : mkS o va h (h'.set x e') a b := by
  obtain ⟨h0, X, rfl, h2, h3, h4, h5, h6⟩ := hm
  have hg0 : h0[x]? = some e := by rw [List.getElem?_append_left (by omega)] at hg; exact hg
  refine ⟨h0.set x e', X, by rw [List.set_append_left _ _ (by omega)], by rw [List.length_set]; exact h2, by rw [sl_set hg0 hs]; exact h3, fun y h7 h8 => ?_, h5, h6⟩
  rw [List.getElem?_set_ne (by omega)]
  exact h4 y h7 h8
theorem mkS_tr {o va : Nat} {h h' h2 : mj_H} {a b a' b' : Nat} (hm : mkS o va h h' a b) (hn : mkS o va h' h2 a' b') (ho : o < h.length) (hv : va < h.length) : mkS o va h h2 (a + a') (b + b') := by
  obtain ⟨h0, X, rfl, g1, g2, g3, g4, g5⟩ := hm
  obtain ⟨k0, Y, rfl, f1, f2, f3, f4, f5⟩ := hn
  have hs : k0 = k0.take h.length ++ k0.drop h.length := (List.take_append_drop _ _).symm
  have hd : k0.drop h.length = X := by
    apply List.ext_getElem?
    intro i
    rw [List.getElem?_drop, f3 _ (by omega) (by omega), List.getElem?_append_right (by omega), g1]
    congr 1
    omega
  rw [List.length_append] at f1
  have hlt : (k0.take h.length).length = h.length := by rw [List.length_take]; omega
  rw [hd] at hs
  refine ⟨k0.take h.length, X ++ Y, ?_, hlt, ?_, fun x h7 h8 => ?_, by rw [List.length_append]; omega, by rw [sl_app]; omega⟩
  · rw [← List.append_assoc, ← hs]
  · have e1 : mj_sl k0 = mj_sl (k0.take h.length) + mj_sl X := by conv => lhs; rw [hs, sl_app]
    rw [sl_app] at f2
    omega
  · by_cases z : x < h.length
    · have e1 := f3 x h7 h8
      rw [hs, List.getElem?_append_left (by omega), List.getElem?_append_left (by omega)] at e1
      rw [e1]
      exact g3 x h7 h8
    · rw [List.getElem?_eq_none (by omega), List.getElem?_eq_none (by omega)]
/-- the cell that is made of two that are no nests -/
def mfC (vb : Int) (lk : VV) (N f : Nat → Int64) (ra nu : Nat) : mj_E := if vk lk ≤ 1 then cVal 0 (N nu) 1 0 1 0 else if vk lk = 6 then cVal 6 0 ra ((nu : Nat) : Int) (vm lk : Int) (vc lk : Int) else if bitV vb then cVal 2 0 ra ((nu : Nat) : Int) (vm lk : Int) 0 else cVal (vform (vm lk) (fun j => f (nu + j)) : Int) 0 ra ((nu : Nat) : Int) (vm lk : Int) 0
theorem ends2 {h : mj_H} {o : Nat} {x y X Y : mj_E} (ho : o < h.length) : (((h ++ [x]).set o X) ++ [y]).set o Y = (h.set o Y) ++ [x, y] := by
  rw [List.set_append_left _ _ ho, List.append_assoc, List.set_append_left _ _ (by rw [List.length_set]; exact ho), List.set_set]
  rfl
theorem ends1 {h : mj_H} {o : Nat} {x Y : mj_E} (ho : o < h.length) : (h ++ [x]).set o Y = (h.set o Y) ++ [x] := List.set_append_left _ _ ho
theorem ends1b {h : mj_H} {o : Nat} {y X Y : mj_E} (ho : o < h.length) : ((h.set o X) ++ [y]).set o Y = (h.set o Y) ++ [y] := by
  rw [List.set_append_left _ _ (by rw [List.length_set]; exact ho), List.set_set]
set_option maxRecDepth 20000 in
theorem pm_X10_nestAt : mj_mmof pg_ms 109 = some ((⟨"ArrayCalculator$Value", "nestAt", "([LArrayCalculator$Value;II)LArrayCalculator$Value;"⟩, prog_12_method_13_code, 3, (Option.some (Jvm.ClassFile.FieldType.object "ArrayCalculator$Value"))), 10, false, mj_dec prog_12_method_13_code) := rfl
theorem dm_X10_nestAt_0 : mj_dec prog_12_method_13_code 0 = some (.new 10, 3) := by decide +kernel
theorem dm_X10_nestAt_3 : mj_dec prog_12_method_13_code 3 = some (.dup, 1) := by decide +kernel
theorem dm_X10_nestAt_4 : mj_dec prog_12_method_13_code 4 = some (.aload_n 0, 1) := by decide +kernel
theorem dm_X10_nestAt_5 : mj_dec prog_12_method_13_code 5 = some (.iload_n 1, 1) := by decide +kernel
theorem dm_X10_nestAt_6 : mj_dec prog_12_method_13_code 6 = some (.iload_n 2, 1) := by decide +kernel
theorem dm_X10_nestAt_7 : mj_dec prog_12_method_13_code 7 = some (.invokespecial 58, 3) := by decide +kernel
theorem dm_X10_nestAt_10 : mj_dec prog_12_method_13_code 10 = some (.areturn, 1) := by decide +kernel
theorem c_nestAt {xt : mj_X} {d e q a n n0 fr : Nat} {A : Nat → Prop} {h : mj_H} {g : Nat → Option Nat} {ch : Nat → VV} (hd : 3 ≤ d) (hl : 2 ≤ h.length) (hq : h.length = q) (hqA : ¬ A q) (ha : h[a]? = some (cA 4 n0 g)) (ha2 : 2 ≤ a) (hn : n0 ≤ 1000) (hfr : fr + n ≤ n0) (he : e ≤ 20) (hS : sumN n (fun k => vsz e (ch k)) ≤ 29999) (hqq : ∀ k, k < n → ∃ q, g (fr + k) = some q ∧ cv A h e q (ch k)) : pgV xt d 109 [.ref a, ii ((fr : Nat) : Int), ii ((n : Nat) : Int)] h (fun v h' => v = .ref q ∧ h' = h ++ [cO 10 [ii 7, .long (Int64.ofInt 0), .ref 1, .ref a, ii ((fr : Nat) : Int), ii ((n : Nat) : Int), ii 0, ii ((1 + sumN n (fun k => vsz e (ch k)) : Nat) : Int), ii ((1 + maxN n (fun k => vlv e (ch k)) : Nat) : Int)]]) := by
  subst hq
  refine x_enter pm_X10_nestAt (L0 := [(0, .ref a), (1, ii ((fr : Nat) : Int)), (2, ii ((n : Nat) : Int))]) rfl (Nat.le_of_ble_eq_true rfl) (by omega) ?_
  refine me3 (pc' := 3) (S' := [.ref h.length]) (h1 := h ++ [cO 10 [ii 0, .long (Int64.ofInt 0), .null, .null, ii 0, ii 0, ii 0, ii 0, ii 0]]) dm_X10_nestAt_0 (g_nw rfl rfl rfl) rfl rfl rfl ?_
  refine me0 (pc' := 4) (S' := [.ref h.length, .ref h.length]) dm_X10_nestAt_3 rfl rfl rfl rfl ?_
  refine me1 (pc' := 5) (L' := [(0, .ref a), (1, ii ((fr : Nat) : Int)), (2, ii ((n : Nat) : Int))]) (S' := [.ref a, .ref h.length, .ref h.length]) dm_X10_nestAt_4 rfl rfl rfl rfl ?_
  refine me1 (pc' := 6) (L' := [(0, .ref a), (1, ii ((fr : Nat) : Int)), (2, ii ((n : Nat) : Int))]) (S' := [ii ((fr : Nat) : Int), .ref a, .ref h.length, .ref h.length]) dm_X10_nestAt_5 rfl rfl rfl rfl ?_
  refine me1 (pc' := 7) (L' := [(0, .ref a), (1, ii ((fr : Nat) : Int)), (2, ii ((n : Nat) : Int))]) (S' := [ii ((n : Nat) : Int), ii ((fr : Nat) : Int), .ref a, .ref h.length, .ref h.length]) dm_X10_nestAt_6 rfl rfl rfl rfl ?_
  refine x_cn (pc' := 10) (rest := [.ref h.length]) dm_X10_nestAt_7 rfl (g_invp (As := [.ref a, ii ((fr : Nat) : Int), ii ((n : Nat) : Int)]) (S := [.ref h.length]) rfl rfl rfl) rfl rfl rfl (c_newN (A := A) (e := e) (n := n0) (g := g) (fr := fr) (m := n) (ch := ch) (by omega) hl_new (by omega) hqA (hl_app ha) ha2 (fun z => by have := hl_lt ha; omega) (by omega) (by omega) (by omega) (by omega) he hS (fun k hk => by obtain ⟨q1, hq1, hq2⟩ := hqq k hk; exact ⟨q1, hq1, cv_app hq2⟩) hl_setl) ?_
  rintro _ rfl
  refine y_ret (r := some (.ref h.length)) dm_X10_nestAt_10 rfl rfl rfl ?_
  exact ⟨_, rfl, rfl, rfl⟩
theorem c_nestAt0 {xt : mj_X} {d q fr : Nat} {h : mj_H} (hd : 3 ≤ d) (hl : 2 ≤ h.length) (hq : h.length = q) (hfr : fr ≤ 1000) : pgV xt d 109 [.null, ii ((fr : Nat) : Int), ii 0] h (fun v h' => v = .ref q ∧ h' = h ++ [cO 10 [ii 7, .long (Int64.ofInt 0), .ref 1, .null, ii ((fr : Nat) : Int), ii 0, ii 0, ii 1, ii 1]]) := by
  subst hq
  refine x_enter pm_X10_nestAt (L0 := [(0, .null), (1, ii ((fr : Nat) : Int)), (2, ii 0)]) rfl (Nat.le_of_ble_eq_true rfl) (by omega) ?_
  refine me3 (pc' := 3) (S' := [.ref h.length]) (h1 := h ++ [cO 10 [ii 0, .long (Int64.ofInt 0), .null, .null, ii 0, ii 0, ii 0, ii 0, ii 0]]) dm_X10_nestAt_0 (g_nw rfl rfl rfl) rfl rfl rfl ?_
  refine me0 (pc' := 4) (S' := [.ref h.length, .ref h.length]) dm_X10_nestAt_3 rfl rfl rfl rfl ?_
  refine me1 (pc' := 5) (L' := [(0, .null), (1, ii ((fr : Nat) : Int)), (2, ii 0)]) (S' := [.null, .ref h.length, .ref h.length]) dm_X10_nestAt_4 rfl rfl rfl rfl ?_
  refine me1 (pc' := 6) (L' := [(0, .null), (1, ii ((fr : Nat) : Int)), (2, ii 0)]) (S' := [ii ((fr : Nat) : Int), .null, .ref h.length, .ref h.length]) dm_X10_nestAt_5 rfl rfl rfl rfl ?_
  refine me1 (pc' := 7) (L' := [(0, .null), (1, ii ((fr : Nat) : Int)), (2, ii 0)]) (S' := [ii 0, ii ((fr : Nat) : Int), .null, .ref h.length, .ref h.length]) dm_X10_nestAt_6 rfl rfl rfl rfl ?_
  refine x_cn (pc' := 10) (rest := [.ref h.length]) dm_X10_nestAt_7 rfl (g_invp (As := [.null, ii ((fr : Nat) : Int), ii 0]) (S := [.ref h.length]) rfl rfl rfl) rfl rfl rfl (c_newN0 (fr := fr) (by omega) hl_new (by omega) (by omega) hl_setl) ?_
  rintro _ rfl
  refine y_ret (r := some (.ref h.length)) dm_X10_nestAt_10 rfl rfl rfl ?_
  exact ⟨_, rfl, rfl, rfl⟩
set_option maxRecDepth 20000 in
theorem pm_X5_makeFlat : mj_mmof pg_ms 105 = some ((⟨"ArrayCalculator$Paired", "makeFlat", "(LArrayCalculator$Value;)LArrayCalculator$Value;"⟩, prog_7_method_8_code, 4, (Option.some (Jvm.ClassFile.FieldType.object "ArrayCalculator$Value"))), 5, false, mj_dec prog_7_method_8_code) := rfl
theorem dm_X5_makeFlat_0 : mj_dec prog_7_method_8_code 0 = some (.aload_n 0, 1) := by decide +kernel
theorem dm_X5_makeFlat_1 : mj_dec prog_7_method_8_code 1 = some (.getfield 44, 3) := by decide +kernel
theorem dm_X5_makeFlat_4 : mj_dec prog_7_method_8_code 4 = some (.istore_n 2, 1) := by decide +kernel
theorem dm_X5_makeFlat_5 : mj_dec prog_7_method_8_code 5 = some (.aload_n 0, 1) := by decide +kernel
theorem dm_X5_makeFlat_6 : mj_dec prog_7_method_8_code 6 = some (.dup, 1) := by decide +kernel
theorem dm_X5_makeFlat_7 : mj_dec prog_7_method_8_code 7 = some (.getfield 44, 3) := by decide +kernel
theorem dm_X5_makeFlat_10 : mj_dec prog_7_method_8_code 10 = some (.aload_n 1, 1) := by decide +kernel
theorem dm_X5_makeFlat_11 : mj_dec prog_7_method_8_code 11 = some (.invokevirtual 83, 3) := by decide +kernel
theorem dm_X5_makeFlat_14 : mj_dec prog_7_method_8_code 14 = some (.iadd, 1) := by decide +kernel
theorem dm_X5_makeFlat_15 : mj_dec prog_7_method_8_code 15 = some (.putfield 44, 3) := by decide +kernel
theorem dm_X5_makeFlat_18 : mj_dec prog_7_method_8_code 18 = some (.aload_n 1, 1) := by decide +kernel
theorem dm_X5_makeFlat_19 : mj_dec prog_7_method_8_code 19 = some (.invokevirtual 79, 3) := by decide +kernel
theorem dm_X5_makeFlat_22 : mj_dec prog_7_method_8_code 22 = some (.ifCond .eq 26, 3) := by decide +kernel
theorem dm_X5_makeFlat_25 : mj_dec prog_7_method_8_code 25 = some (.iload_n 2, 1) := by decide +kernel
theorem dm_X5_makeFlat_26 : mj_dec prog_7_method_8_code 26 = some (.aload_n 0, 1) := by decide +kernel
theorem dm_X5_makeFlat_27 : mj_dec prog_7_method_8_code 27 = some (.getfield 9, 3) := by decide +kernel
theorem dm_X5_makeFlat_30 : mj_dec prog_7_method_8_code 30 = some (.arraylength, 1) := by decide +kernel
theorem dm_X5_makeFlat_31 : mj_dec prog_7_method_8_code 31 = some (.if_icmp .ge 12, 3) := by decide +kernel
theorem dm_X5_makeFlat_34 : mj_dec prog_7_method_8_code 34 = some (.aload_n 0, 1) := by decide +kernel
theorem dm_X5_makeFlat_35 : mj_dec prog_7_method_8_code 35 = some (.getfield 9, 3) := by decide +kernel
theorem dm_X5_makeFlat_38 : mj_dec prog_7_method_8_code 38 = some (.iload_n 2, 1) := by decide +kernel
theorem dm_X5_makeFlat_39 : mj_dec prog_7_method_8_code 39 = some (.laload, 1) := by decide +kernel
theorem dm_X5_makeFlat_40 : mj_dec prog_7_method_8_code 40 = some (.goto 4, 3) := by decide +kernel
theorem dm_X5_makeFlat_44 : mj_dec prog_7_method_8_code 44 = some (.invokestatic 118, 3) := by decide +kernel
theorem dm_X5_makeFlat_47 : mj_dec prog_7_method_8_code 47 = some (.areturn, 1) := by decide +kernel
theorem dm_X5_makeFlat_48 : mj_dec prog_7_method_8_code 48 = some (.aload_n 1, 1) := by decide +kernel
theorem dm_X5_makeFlat_49 : mj_dec prog_7_method_8_code 49 = some (.getfield 50, 3) := by decide +kernel
theorem dm_X5_makeFlat_52 : mj_dec prog_7_method_8_code 52 = some (.bipush 6, 2) := by decide +kernel
theorem dm_X5_makeFlat_54 : mj_dec prog_7_method_8_code 54 = some (.if_icmp .ne 20, 3) := by decide +kernel
theorem dm_X5_makeFlat_57 : mj_dec prog_7_method_8_code 57 = some (.aload_n 0, 1) := by decide +kernel
theorem dm_X5_makeFlat_58 : mj_dec prog_7_method_8_code 58 = some (.getfield 18, 3) := by decide +kernel
theorem dm_X5_makeFlat_61 : mj_dec prog_7_method_8_code 61 = some (.iload_n 2, 1) := by decide +kernel
theorem dm_X5_makeFlat_62 : mj_dec prog_7_method_8_code 62 = some (.aload_n 1, 1) := by decide +kernel
theorem dm_X5_makeFlat_63 : mj_dec prog_7_method_8_code 63 = some (.getfield 59, 3) := by decide +kernel
theorem dm_X5_makeFlat_66 : mj_dec prog_7_method_8_code 66 = some (.aload_n 1, 1) := by decide +kernel
theorem dm_X5_makeFlat_67 : mj_dec prog_7_method_8_code 67 = some (.getfield 122, 3) := by decide +kernel
theorem dm_X5_makeFlat_70 : mj_dec prog_7_method_8_code 70 = some (.invokestatic 125, 3) := by decide +kernel
theorem dm_X5_makeFlat_73 : mj_dec prog_7_method_8_code 73 = some (.areturn, 1) := by decide +kernel
theorem dm_X5_makeFlat_74 : mj_dec prog_7_method_8_code 74 = some (.aload_n 0, 1) := by decide +kernel
theorem dm_X5_makeFlat_75 : mj_dec prog_7_method_8_code 75 = some (.getfield 21, 3) := by decide +kernel
theorem dm_X5_makeFlat_78 : mj_dec prog_7_method_8_code 78 = some (.bipush 60, 2) := by decide +kernel
theorem dm_X5_makeFlat_80 : mj_dec prog_7_method_8_code 80 = some (.if_icmp .eq 30, 3) := by decide +kernel
theorem dm_X5_makeFlat_83 : mj_dec prog_7_method_8_code 83 = some (.aload_n 0, 1) := by decide +kernel
theorem dm_X5_makeFlat_84 : mj_dec prog_7_method_8_code 84 = some (.getfield 21, 3) := by decide +kernel
theorem dm_X5_makeFlat_87 : mj_dec prog_7_method_8_code 87 = some (.bipush 62, 2) := by decide +kernel
theorem dm_X5_makeFlat_89 : mj_dec prog_7_method_8_code 89 = some (.if_icmp .eq 21, 3) := by decide +kernel
theorem dm_X5_makeFlat_92 : mj_dec prog_7_method_8_code 92 = some (.aload_n 0, 1) := by decide +kernel
theorem dm_X5_makeFlat_93 : mj_dec prog_7_method_8_code 93 = some (.getfield 21, 3) := by decide +kernel
theorem dm_X5_makeFlat_96 : mj_dec prog_7_method_8_code 96 = some (.bipush 61, 2) := by decide +kernel
theorem dm_X5_makeFlat_98 : mj_dec prog_7_method_8_code 98 = some (.if_icmp .eq 12, 3) := by decide +kernel
theorem dm_X5_makeFlat_101 : mj_dec prog_7_method_8_code 101 = some (.aload_n 0, 1) := by decide +kernel
theorem dm_X5_makeFlat_102 : mj_dec prog_7_method_8_code 102 = some (.getfield 21, 3) := by decide +kernel
theorem dm_X5_makeFlat_105 : mj_dec prog_7_method_8_code 105 = some (.bipush 126, 2) := by decide +kernel
theorem dm_X5_makeFlat_107 : mj_dec prog_7_method_8_code 107 = some (.if_icmp .ne 7, 3) := by decide +kernel
theorem dm_X5_makeFlat_110 : mj_dec prog_7_method_8_code 110 = some (.iconst 1, 1) := by decide +kernel
theorem dm_X5_makeFlat_111 : mj_dec prog_7_method_8_code 111 = some (.goto 4, 3) := by decide +kernel
theorem dm_X5_makeFlat_114 : mj_dec prog_7_method_8_code 114 = some (.iconst 0, 1) := by decide +kernel
theorem dm_X5_makeFlat_115 : mj_dec prog_7_method_8_code 115 = some (.istore_n 3, 1) := by decide +kernel
theorem dm_X5_makeFlat_116 : mj_dec prog_7_method_8_code 116 = some (.iload_n 3, 1) := by decide +kernel
theorem dm_X5_makeFlat_117 : mj_dec prog_7_method_8_code 117 = some (.ifCond .eq 19, 3) := by decide +kernel
theorem dm_X5_makeFlat_120 : mj_dec prog_7_method_8_code 120 = some (.iconst 2, 1) := by decide +kernel
theorem dm_X5_makeFlat_121 : mj_dec prog_7_method_8_code 121 = some (.aload_n 0, 1) := by decide +kernel
theorem dm_X5_makeFlat_122 : mj_dec prog_7_method_8_code 122 = some (.getfield 18, 3) := by decide +kernel
theorem dm_X5_makeFlat_125 : mj_dec prog_7_method_8_code 125 = some (.iload_n 2, 1) := by decide +kernel
theorem dm_X5_makeFlat_126 : mj_dec prog_7_method_8_code 126 = some (.aload_n 1, 1) := by decide +kernel
theorem dm_X5_makeFlat_127 : mj_dec prog_7_method_8_code 127 = some (.getfield 59, 3) := by decide +kernel
theorem dm_X5_makeFlat_130 : mj_dec prog_7_method_8_code 130 = some (.invokestatic 129, 3) := by decide +kernel
theorem dm_X5_makeFlat_133 : mj_dec prog_7_method_8_code 133 = some (.goto 15, 3) := by decide +kernel
theorem dm_X5_makeFlat_136 : mj_dec prog_7_method_8_code 136 = some (.aload_n 0, 1) := by decide +kernel
theorem dm_X5_makeFlat_137 : mj_dec prog_7_method_8_code 137 = some (.getfield 18, 3) := by decide +kernel
theorem dm_X5_makeFlat_140 : mj_dec prog_7_method_8_code 140 = some (.iload_n 2, 1) := by decide +kernel
theorem dm_X5_makeFlat_141 : mj_dec prog_7_method_8_code 141 = some (.aload_n 1, 1) := by decide +kernel
theorem dm_X5_makeFlat_142 : mj_dec prog_7_method_8_code 142 = some (.getfield 59, 3) := by decide +kernel
theorem dm_X5_makeFlat_145 : mj_dec prog_7_method_8_code 145 = some (.invokestatic 133, 3) := by decide +kernel
theorem dm_X5_makeFlat_148 : mj_dec prog_7_method_8_code 148 = some (.areturn, 1) := by decide +kernel
theorem p_makeFlat {xt : mj_X} {d e p o nq ra mr nu : Nat} {A : Nat → Prop} {h : mj_H} {v : VV} {vb f sz lv nm vmI vu : Int} {rw_ : Bool} {va : Value} {N F : Nat → Int64} {f1 : Nat → Value} (hx1 : xt 1 = some (.long, 0, f1)) (hd : 4 ≤ d) (hl : 127 ≤ h.length) (hA : okA A h) (hoq : (o = 23 ∧ nq = 24) ∨ (o = 27 ∧ nq = 28)) (hvb : -2147483648 ≤ vb ∧ vb ≤ 2147483647) (hv : cv A h (e + 1) p v) (hk7 : vk v ≠ 7) (ho : h[o]? = some (PO vb f nq sz lv nm vmI rw_ (.ref ra) va ((nu : Nat) : Int) vu)) (hnq : h[nq]? = some (cJ 1000 N)) (hrow : rowAt A h ra mr F) (hnu : nu + vq v ≤ 999) (hnr : 2 ≤ vk v → 0 < vq v → nu + vq v ≤ mr) : pgV xt d 105 [.ref o, .ref p] h (fun x h' => x = .ref h.length ∧ h' = (h.set o (PO vb f nq sz lv nm vmI rw_ (.ref ra) va (((nu : Nat) : Int) + (vq v : Int)) vu)) ++ [mfC vb v N F ra nu]) := by
  obtain ⟨row, fr, vals, hp, hp2, hpA, hvk, hvm, hvc, hvs, hvl⟩ := cv_val hv
  have hpb := hA p hpA
  have hq9 := vq_le hv.1
  have hq5 : vk v ≤ 5 → vq v = vm v := vq_m
  have hmr : mr ≤ 1000 := by rcases hrow with z | z; (have := z.2; omega); exact z.2.2.1
  refine x_enter pm_X5_makeFlat (L0 := [(0, .ref o), (1, .ref p)]) rfl (Nat.le_of_ble_eq_true rfl) (by omega) ?_
  refine me1 (pc' := 1) (L' := [(0, .ref o), (1, .ref p)]) (S' := [.ref o]) dm_X5_makeFlat_0 rfl rfl rfl rfl ?_
  refine me3 (pc' := 4) (S' := [ii ((nu : Nat) : Int)]) dm_X5_makeFlat_1 (g_get (v := ii ((nu : Nat) : Int)) ho rfl rfl (by omega)) rfl rfl rfl ?_
  refine me1 (pc' := 5) (L' := [(2, ii ((nu : Nat) : Int)), (0, .ref o), (1, .ref p)]) (S' := []) dm_X5_makeFlat_4 rfl rfl rfl rfl ?_
  refine me1 (pc' := 6) (L' := [(2, ii ((nu : Nat) : Int)), (0, .ref o), (1, .ref p)]) (S' := [.ref o]) dm_X5_makeFlat_5 rfl rfl rfl rfl ?_
  refine me0 (pc' := 7) (S' := [.ref o, .ref o]) dm_X5_makeFlat_6 rfl rfl rfl rfl ?_
  refine me3 (pc' := 10) (S' := [ii ((nu : Nat) : Int), .ref o]) dm_X5_makeFlat_7 (g_get (v := ii ((nu : Nat) : Int)) ho rfl rfl (by omega)) rfl rfl rfl ?_
  refine me1 (pc' := 11) (L' := [(2, ii ((nu : Nat) : Int)), (0, .ref o), (1, .ref p)]) (S' := [.ref p, ii ((nu : Nat) : Int), .ref o]) dm_X5_makeFlat_10 rfl rfl rfl rfl ?_
  refine x_cp (pc' := 14) (v := ii (vq v : Int)) (rest := [ii ((nu : Nat) : Int), .ref o]) dm_X5_makeFlat_11 rfl (g_inv (As := []) (S := [ii ((nu : Nat) : Int), .ref o]) hp rfl rfl rfl (by omega)) rfl rfl rfl (c_numbers (by omega) hv) ?_
  refine y_iadd (a := ((nu : Nat) : Int)) (b := (vq v : Int)) dm_X5_makeFlat_14 (pc' := 15) rfl ?_
  refine me3 (pc' := 18) (S' := []) (h1 := (h).set o (cO 5 [ii vb, ii f, .ref nq, ii sz, ii lv, ii nm, ii vmI, zz rw_, .ref ra, va, ii (((nu : Nat) : Int) + (vq v : Int)), ii vu])) dm_X5_makeFlat_15 (g_put (fs' := [ii vb, ii f, .ref nq, ii sz, ii lv, ii nm, ii vmI, zz rw_, .ref ra, va, ii (((nu : Nat) : Int) + (vq v : Int)), ii vu]) ho rfl rfl rfl (by simp) rfl (by decide) (fun z => by cases z) (by omega)) rfl rfl rfl ?_
  refine me1 (pc' := 19) (L' := [(2, ii ((nu : Nat) : Int)), (0, .ref o), (1, .ref p)]) (S' := [.ref p]) dm_X5_makeFlat_18 rfl rfl rfl rfl ?_
  refine x_cp (pc' := 22) (v := zz (decide (vk v ≤ 1))) (rest := []) dm_X5_makeFlat_19 rfl (g_inv (As := []) (S := []) (hl_ne (by omega) hp) rfl rfl rfl (by omega)) rfl rfl rfl (c_isOne (by omega) (cv_set (nA hA (Or.inl (by omega))) hv)) ?_
  refine y_zeq (c := decide (vk v ≤ 1)) (t := 48) (pc' := 25) dm_X5_makeFlat_22 rfl rfl (fun hb1 => ?_) (fun hb1 => ?_)
  · replace hb1 := dF hb1
    refine me1 (pc' := 49) (L' := [(2, ii ((nu : Nat) : Int)), (0, .ref o), (1, .ref p)]) (S' := [.ref p]) dm_X5_makeFlat_48 rfl rfl rfl rfl ?_
    refine me3 (pc' := 52) (S' := [ii (vk v : Int)]) dm_X5_makeFlat_49 (g_get (v := ii (vk v : Int)) (hl_ne (by omega) hp) rfl rfl (by omega)) rfl rfl rfl ?_
    refine me0 (pc' := 54) (S' := [ii 6, ii (vk v : Int)]) dm_X5_makeFlat_52 rfl rfl rfl rfl ?_
    refine y_2ne (a := (vk v : Int)) (b := 6) (t := 74) (pc' := 57) dm_X5_makeFlat_54 rfl rfl (by omega) (fun hb2 => ?_) (fun hb2 => ?_)
    · refine me1 (pc' := 75) (L' := [(2, ii ((nu : Nat) : Int)), (0, .ref o), (1, .ref p)]) (S' := [.ref o]) dm_X5_makeFlat_74 rfl rfl rfl rfl ?_
      refine me3 (pc' := 78) (S' := [ii vb]) dm_X5_makeFlat_75 (g_get (v := ii vb) (hl_set (hl_lt ho)) rfl rfl (by omega)) rfl rfl rfl ?_
      refine me0 (pc' := 80) (S' := [ii 60, ii vb]) dm_X5_makeFlat_78 rfl rfl rfl rfl ?_
      refine y_2eq (a := vb) (b := 60) (t := 110) (pc' := 83) dm_X5_makeFlat_80 rfl rfl (by omega) (fun hb3 => ?_) (fun hb3 => ?_)
      · refine me0 (pc' := 111) (S' := [ii 1]) dm_X5_makeFlat_110 rfl rfl rfl rfl ?_
        refine me2 (pc' := 115) (S' := [ii 1]) dm_X5_makeFlat_111 rfl rfl rfl ?_
        refine me1 (pc' := 116) (L' := [(3, ii 1), (2, ii ((nu : Nat) : Int)), (0, .ref o), (1, .ref p)]) (S' := []) dm_X5_makeFlat_115 rfl rfl rfl rfl ?_
        refine me1 (pc' := 117) (L' := [(3, ii 1), (2, ii ((nu : Nat) : Int)), (0, .ref o), (1, .ref p)]) (S' := [ii 1]) dm_X5_makeFlat_116 rfl rfl rfl rfl ?_
        refine me_1f (pc' := 120) dm_X5_makeFlat_117 rfl (by decide) rfl ?_
        refine me0 (pc' := 121) (S' := [ii 2]) dm_X5_makeFlat_120 rfl rfl rfl rfl ?_
        refine me1 (pc' := 122) (L' := [(3, ii 1), (2, ii ((nu : Nat) : Int)), (0, .ref o), (1, .ref p)]) (S' := [.ref o, ii 2]) dm_X5_makeFlat_121 rfl rfl rfl rfl ?_
        refine me3 (pc' := 125) (S' := [.ref ra, ii 2]) dm_X5_makeFlat_122 (g_get (v := .ref ra) (hl_set (hl_lt ho)) rfl rfl (by omega)) rfl rfl rfl ?_
        refine me1 (pc' := 126) (L' := [(3, ii 1), (2, ii ((nu : Nat) : Int)), (0, .ref o), (1, .ref p)]) (S' := [ii ((nu : Nat) : Int), .ref ra, ii 2]) dm_X5_makeFlat_125 rfl rfl rfl rfl ?_
        refine me1 (pc' := 127) (L' := [(3, ii 1), (2, ii ((nu : Nat) : Int)), (0, .ref o), (1, .ref p)]) (S' := [.ref p, ii ((nu : Nat) : Int), .ref ra, ii 2]) dm_X5_makeFlat_126 rfl rfl rfl rfl ?_
        refine me3 (pc' := 130) (S' := [ii (vm v : Int), ii ((nu : Nat) : Int), .ref ra, ii 2]) dm_X5_makeFlat_127 (g_get (v := ii (vm v : Int)) (hl_ne (by omega) hp) rfl rfl (by omega)) rfl rfl rfl ?_
        refine x_cv (pc' := 133) (rest := []) dm_X5_makeFlat_130 rfl (g_invs (As := [ii 2, .ref ra, ii ((nu : Nat) : Int), ii (vm v : Int)]) (S := []) rfl rfl rfl) rfl rfl rfl (c_rowAt (q := h.length) (by omega) (by simp; omega) (by simp) (by omega) (by omega) (by omega)) ?_
        rintro _ _ ⟨rfl, rfl⟩
        refine me2 (pc' := 148) (S' := [.ref h.length]) dm_X5_makeFlat_133 rfl rfl rfl ?_
        refine y_ret (r := some (.ref h.length)) dm_X5_makeFlat_148 rfl rfl rfl ?_
        refine ⟨_, rfl, rfl, ?_⟩
        unfold mfC
        rw [if_neg (by omega), if_neg (by omega), if_pos (by omega)]
      · refine me1 (pc' := 84) (L' := [(2, ii ((nu : Nat) : Int)), (0, .ref o), (1, .ref p)]) (S' := [.ref o]) dm_X5_makeFlat_83 rfl rfl rfl rfl ?_
        refine me3 (pc' := 87) (S' := [ii vb]) dm_X5_makeFlat_84 (g_get (v := ii vb) (hl_set (hl_lt ho)) rfl rfl (by omega)) rfl rfl rfl ?_
        refine me0 (pc' := 89) (S' := [ii 62, ii vb]) dm_X5_makeFlat_87 rfl rfl rfl rfl ?_
        refine y_2eq (a := vb) (b := 62) (t := 110) (pc' := 92) dm_X5_makeFlat_89 rfl rfl (by omega) (fun hb4 => ?_) (fun hb4 => ?_)
        · refine me0 (pc' := 111) (S' := [ii 1]) dm_X5_makeFlat_110 rfl rfl rfl rfl ?_
          refine me2 (pc' := 115) (S' := [ii 1]) dm_X5_makeFlat_111 rfl rfl rfl ?_
          refine me1 (pc' := 116) (L' := [(3, ii 1), (2, ii ((nu : Nat) : Int)), (0, .ref o), (1, .ref p)]) (S' := []) dm_X5_makeFlat_115 rfl rfl rfl rfl ?_
          refine me1 (pc' := 117) (L' := [(3, ii 1), (2, ii ((nu : Nat) : Int)), (0, .ref o), (1, .ref p)]) (S' := [ii 1]) dm_X5_makeFlat_116 rfl rfl rfl rfl ?_
          refine me_1f (pc' := 120) dm_X5_makeFlat_117 rfl (by decide) rfl ?_
          refine me0 (pc' := 121) (S' := [ii 2]) dm_X5_makeFlat_120 rfl rfl rfl rfl ?_
          refine me1 (pc' := 122) (L' := [(3, ii 1), (2, ii ((nu : Nat) : Int)), (0, .ref o), (1, .ref p)]) (S' := [.ref o, ii 2]) dm_X5_makeFlat_121 rfl rfl rfl rfl ?_
          refine me3 (pc' := 125) (S' := [.ref ra, ii 2]) dm_X5_makeFlat_122 (g_get (v := .ref ra) (hl_set (hl_lt ho)) rfl rfl (by omega)) rfl rfl rfl ?_
          refine me1 (pc' := 126) (L' := [(3, ii 1), (2, ii ((nu : Nat) : Int)), (0, .ref o), (1, .ref p)]) (S' := [ii ((nu : Nat) : Int), .ref ra, ii 2]) dm_X5_makeFlat_125 rfl rfl rfl rfl ?_
          refine me1 (pc' := 127) (L' := [(3, ii 1), (2, ii ((nu : Nat) : Int)), (0, .ref o), (1, .ref p)]) (S' := [.ref p, ii ((nu : Nat) : Int), .ref ra, ii 2]) dm_X5_makeFlat_126 rfl rfl rfl rfl ?_
          refine me3 (pc' := 130) (S' := [ii (vm v : Int), ii ((nu : Nat) : Int), .ref ra, ii 2]) dm_X5_makeFlat_127 (g_get (v := ii (vm v : Int)) (hl_ne (by omega) hp) rfl rfl (by omega)) rfl rfl rfl ?_
          refine x_cv (pc' := 133) (rest := []) dm_X5_makeFlat_130 rfl (g_invs (As := [ii 2, .ref ra, ii ((nu : Nat) : Int), ii (vm v : Int)]) (S := []) rfl rfl rfl) rfl rfl rfl (c_rowAt (q := h.length) (by omega) (by simp; omega) (by simp) (by omega) (by omega) (by omega)) ?_
          rintro _ _ ⟨rfl, rfl⟩
          refine me2 (pc' := 148) (S' := [.ref h.length]) dm_X5_makeFlat_133 rfl rfl rfl ?_
          refine y_ret (r := some (.ref h.length)) dm_X5_makeFlat_148 rfl rfl rfl ?_
          refine ⟨_, rfl, rfl, ?_⟩
          unfold mfC
          rw [if_neg (by omega), if_neg (by omega), if_pos (by omega)]
        · refine me1 (pc' := 93) (L' := [(2, ii ((nu : Nat) : Int)), (0, .ref o), (1, .ref p)]) (S' := [.ref o]) dm_X5_makeFlat_92 rfl rfl rfl rfl ?_
          refine me3 (pc' := 96) (S' := [ii vb]) dm_X5_makeFlat_93 (g_get (v := ii vb) (hl_set (hl_lt ho)) rfl rfl (by omega)) rfl rfl rfl ?_
          refine me0 (pc' := 98) (S' := [ii 61, ii vb]) dm_X5_makeFlat_96 rfl rfl rfl rfl ?_
          refine y_2eq (a := vb) (b := 61) (t := 110) (pc' := 101) dm_X5_makeFlat_98 rfl rfl (by omega) (fun hb5 => ?_) (fun hb5 => ?_)
          · refine me0 (pc' := 111) (S' := [ii 1]) dm_X5_makeFlat_110 rfl rfl rfl rfl ?_
            refine me2 (pc' := 115) (S' := [ii 1]) dm_X5_makeFlat_111 rfl rfl rfl ?_
            refine me1 (pc' := 116) (L' := [(3, ii 1), (2, ii ((nu : Nat) : Int)), (0, .ref o), (1, .ref p)]) (S' := []) dm_X5_makeFlat_115 rfl rfl rfl rfl ?_
            refine me1 (pc' := 117) (L' := [(3, ii 1), (2, ii ((nu : Nat) : Int)), (0, .ref o), (1, .ref p)]) (S' := [ii 1]) dm_X5_makeFlat_116 rfl rfl rfl rfl ?_
            refine me_1f (pc' := 120) dm_X5_makeFlat_117 rfl (by decide) rfl ?_
            refine me0 (pc' := 121) (S' := [ii 2]) dm_X5_makeFlat_120 rfl rfl rfl rfl ?_
            refine me1 (pc' := 122) (L' := [(3, ii 1), (2, ii ((nu : Nat) : Int)), (0, .ref o), (1, .ref p)]) (S' := [.ref o, ii 2]) dm_X5_makeFlat_121 rfl rfl rfl rfl ?_
            refine me3 (pc' := 125) (S' := [.ref ra, ii 2]) dm_X5_makeFlat_122 (g_get (v := .ref ra) (hl_set (hl_lt ho)) rfl rfl (by omega)) rfl rfl rfl ?_
            refine me1 (pc' := 126) (L' := [(3, ii 1), (2, ii ((nu : Nat) : Int)), (0, .ref o), (1, .ref p)]) (S' := [ii ((nu : Nat) : Int), .ref ra, ii 2]) dm_X5_makeFlat_125 rfl rfl rfl rfl ?_
            refine me1 (pc' := 127) (L' := [(3, ii 1), (2, ii ((nu : Nat) : Int)), (0, .ref o), (1, .ref p)]) (S' := [.ref p, ii ((nu : Nat) : Int), .ref ra, ii 2]) dm_X5_makeFlat_126 rfl rfl rfl rfl ?_
            refine me3 (pc' := 130) (S' := [ii (vm v : Int), ii ((nu : Nat) : Int), .ref ra, ii 2]) dm_X5_makeFlat_127 (g_get (v := ii (vm v : Int)) (hl_ne (by omega) hp) rfl rfl (by omega)) rfl rfl rfl ?_
            refine x_cv (pc' := 133) (rest := []) dm_X5_makeFlat_130 rfl (g_invs (As := [ii 2, .ref ra, ii ((nu : Nat) : Int), ii (vm v : Int)]) (S := []) rfl rfl rfl) rfl rfl rfl (c_rowAt (q := h.length) (by omega) (by simp; omega) (by simp) (by omega) (by omega) (by omega)) ?_
            rintro _ _ ⟨rfl, rfl⟩
            refine me2 (pc' := 148) (S' := [.ref h.length]) dm_X5_makeFlat_133 rfl rfl rfl ?_
            refine y_ret (r := some (.ref h.length)) dm_X5_makeFlat_148 rfl rfl rfl ?_
            refine ⟨_, rfl, rfl, ?_⟩
            unfold mfC
            rw [if_neg (by omega), if_neg (by omega), if_pos (by omega)]
          · refine me1 (pc' := 102) (L' := [(2, ii ((nu : Nat) : Int)), (0, .ref o), (1, .ref p)]) (S' := [.ref o]) dm_X5_makeFlat_101 rfl rfl rfl rfl ?_
            refine me3 (pc' := 105) (S' := [ii vb]) dm_X5_makeFlat_102 (g_get (v := ii vb) (hl_set (hl_lt ho)) rfl rfl (by omega)) rfl rfl rfl ?_
            refine me0 (pc' := 107) (S' := [ii 126, ii vb]) dm_X5_makeFlat_105 rfl rfl rfl rfl ?_
            refine y_2ne (a := vb) (b := 126) (t := 114) (pc' := 110) dm_X5_makeFlat_107 rfl rfl (by omega) (fun hb6 => ?_) (fun hb6 => ?_)
            · refine me0 (pc' := 115) (S' := [ii 0]) dm_X5_makeFlat_114 rfl rfl rfl rfl ?_
              refine me1 (pc' := 116) (L' := [(3, ii 0), (2, ii ((nu : Nat) : Int)), (0, .ref o), (1, .ref p)]) (S' := []) dm_X5_makeFlat_115 rfl rfl rfl rfl ?_
              refine me1 (pc' := 117) (L' := [(3, ii 0), (2, ii ((nu : Nat) : Int)), (0, .ref o), (1, .ref p)]) (S' := [ii 0]) dm_X5_makeFlat_116 rfl rfl rfl rfl ?_
              refine me_1t (pc' := 136) dm_X5_makeFlat_117 rfl (by decide) ?_
              refine me1 (pc' := 137) (L' := [(3, ii 0), (2, ii ((nu : Nat) : Int)), (0, .ref o), (1, .ref p)]) (S' := [.ref o]) dm_X5_makeFlat_136 rfl rfl rfl rfl ?_
              refine me3 (pc' := 140) (S' := [.ref ra]) dm_X5_makeFlat_137 (g_get (v := .ref ra) (hl_set (hl_lt ho)) rfl rfl (by omega)) rfl rfl rfl ?_
              refine me1 (pc' := 141) (L' := [(3, ii 0), (2, ii ((nu : Nat) : Int)), (0, .ref o), (1, .ref p)]) (S' := [ii ((nu : Nat) : Int), .ref ra]) dm_X5_makeFlat_140 rfl rfl rfl rfl ?_
              refine me1 (pc' := 142) (L' := [(3, ii 0), (2, ii ((nu : Nat) : Int)), (0, .ref o), (1, .ref p)]) (S' := [.ref p, ii ((nu : Nat) : Int), .ref ra]) dm_X5_makeFlat_141 rfl rfl rfl rfl ?_
              refine me3 (pc' := 145) (S' := [ii (vm v : Int), ii ((nu : Nat) : Int), .ref ra]) dm_X5_makeFlat_142 (g_get (v := ii (vm v : Int)) (hl_ne (by omega) hp) rfl rfl (by omega)) rfl rfl rfl ?_
              refine x_cv (pc' := 148) (rest := []) dm_X5_makeFlat_145 rfl (g_invs (As := [.ref ra, ii ((nu : Nat) : Int), ii (vm v : Int)]) (S := []) rfl rfl rfl) rfl rfl rfl (c_numberRowAt (q := h.length) (fr := nu) (m := vm v) hx1 (by omega) (by simp; omega) (by simp) (rw_set (nA hA (Or.inl (by omega))) hrow) (by omega) (by omega) (by omega) (by omega)) ?_
              rintro _ _ ⟨rfl, rfl⟩
              refine y_ret (r := some (.ref h.length)) dm_X5_makeFlat_148 rfl rfl rfl ?_
              refine ⟨_, rfl, rfl, ?_⟩
              unfold mfC
              rw [if_neg (by omega), if_neg (by omega), if_neg (by omega)]
            · refine me0 (pc' := 111) (S' := [ii 1]) dm_X5_makeFlat_110 rfl rfl rfl rfl ?_
              refine me2 (pc' := 115) (S' := [ii 1]) dm_X5_makeFlat_111 rfl rfl rfl ?_
              refine me1 (pc' := 116) (L' := [(3, ii 1), (2, ii ((nu : Nat) : Int)), (0, .ref o), (1, .ref p)]) (S' := []) dm_X5_makeFlat_115 rfl rfl rfl rfl ?_
              refine me1 (pc' := 117) (L' := [(3, ii 1), (2, ii ((nu : Nat) : Int)), (0, .ref o), (1, .ref p)]) (S' := [ii 1]) dm_X5_makeFlat_116 rfl rfl rfl rfl ?_
              refine me_1f (pc' := 120) dm_X5_makeFlat_117 rfl (by decide) rfl ?_
              refine me0 (pc' := 121) (S' := [ii 2]) dm_X5_makeFlat_120 rfl rfl rfl rfl ?_
              refine me1 (pc' := 122) (L' := [(3, ii 1), (2, ii ((nu : Nat) : Int)), (0, .ref o), (1, .ref p)]) (S' := [.ref o, ii 2]) dm_X5_makeFlat_121 rfl rfl rfl rfl ?_
              refine me3 (pc' := 125) (S' := [.ref ra, ii 2]) dm_X5_makeFlat_122 (g_get (v := .ref ra) (hl_set (hl_lt ho)) rfl rfl (by omega)) rfl rfl rfl ?_
              refine me1 (pc' := 126) (L' := [(3, ii 1), (2, ii ((nu : Nat) : Int)), (0, .ref o), (1, .ref p)]) (S' := [ii ((nu : Nat) : Int), .ref ra, ii 2]) dm_X5_makeFlat_125 rfl rfl rfl rfl ?_
              refine me1 (pc' := 127) (L' := [(3, ii 1), (2, ii ((nu : Nat) : Int)), (0, .ref o), (1, .ref p)]) (S' := [.ref p, ii ((nu : Nat) : Int), .ref ra, ii 2]) dm_X5_makeFlat_126 rfl rfl rfl rfl ?_
              refine me3 (pc' := 130) (S' := [ii (vm v : Int), ii ((nu : Nat) : Int), .ref ra, ii 2]) dm_X5_makeFlat_127 (g_get (v := ii (vm v : Int)) (hl_ne (by omega) hp) rfl rfl (by omega)) rfl rfl rfl ?_
              refine x_cv (pc' := 133) (rest := []) dm_X5_makeFlat_130 rfl (g_invs (As := [ii 2, .ref ra, ii ((nu : Nat) : Int), ii (vm v : Int)]) (S := []) rfl rfl rfl) rfl rfl rfl (c_rowAt (q := h.length) (by omega) (by simp; omega) (by simp) (by omega) (by omega) (by omega)) ?_
              rintro _ _ ⟨rfl, rfl⟩
              refine me2 (pc' := 148) (S' := [.ref h.length]) dm_X5_makeFlat_133 rfl rfl rfl ?_
              refine y_ret (r := some (.ref h.length)) dm_X5_makeFlat_148 rfl rfl rfl ?_
              refine ⟨_, rfl, rfl, ?_⟩
              unfold mfC
              rw [if_neg (by omega), if_neg (by omega), if_pos (by omega)]
    · refine me1 (pc' := 58) (L' := [(2, ii ((nu : Nat) : Int)), (0, .ref o), (1, .ref p)]) (S' := [.ref o]) dm_X5_makeFlat_57 rfl rfl rfl rfl ?_
      refine me3 (pc' := 61) (S' := [.ref ra]) dm_X5_makeFlat_58 (g_get (v := .ref ra) (hl_set (hl_lt ho)) rfl rfl (by omega)) rfl rfl rfl ?_
      refine me1 (pc' := 62) (L' := [(2, ii ((nu : Nat) : Int)), (0, .ref o), (1, .ref p)]) (S' := [ii ((nu : Nat) : Int), .ref ra]) dm_X5_makeFlat_61 rfl rfl rfl rfl ?_
      refine me1 (pc' := 63) (L' := [(2, ii ((nu : Nat) : Int)), (0, .ref o), (1, .ref p)]) (S' := [.ref p, ii ((nu : Nat) : Int), .ref ra]) dm_X5_makeFlat_62 rfl rfl rfl rfl ?_
      refine me3 (pc' := 66) (S' := [ii (vm v : Int), ii ((nu : Nat) : Int), .ref ra]) dm_X5_makeFlat_63 (g_get (v := ii (vm v : Int)) (hl_ne (by omega) hp) rfl rfl (by omega)) rfl rfl rfl ?_
      refine me1 (pc' := 67) (L' := [(2, ii ((nu : Nat) : Int)), (0, .ref o), (1, .ref p)]) (S' := [.ref p, ii (vm v : Int), ii ((nu : Nat) : Int), .ref ra]) dm_X5_makeFlat_66 rfl rfl rfl rfl ?_
      refine me3 (pc' := 70) (S' := [ii (vc v : Int), ii (vm v : Int), ii ((nu : Nat) : Int), .ref ra]) dm_X5_makeFlat_67 (g_get (v := ii (vc v : Int)) (hl_ne (by omega) hp) rfl rfl (by omega)) rfl rfl rfl ?_
      refine x_cv (pc' := 73) (rest := []) dm_X5_makeFlat_70 rfl (g_invs (As := [.ref ra, ii ((nu : Nat) : Int), ii (vm v : Int), ii (vc v : Int)]) (S := []) rfl rfl rfl) rfl rfl rfl (c_tableAt (q := h.length) (by omega) (by simp; omega) (by simp) (by omega) (by omega) (by omega)) ?_
      rintro _ _ ⟨rfl, rfl⟩
      refine y_ret (r := some (.ref h.length)) dm_X5_makeFlat_73 rfl rfl rfl ?_
      refine ⟨_, rfl, rfl, ?_⟩
      unfold mfC
      rw [if_neg (by omega), if_pos (by omega)]
  · replace hb1 := dT hb1
    refine me1 (pc' := 26) (L' := [(2, ii ((nu : Nat) : Int)), (0, .ref o), (1, .ref p)]) (S' := [ii ((nu : Nat) : Int)]) dm_X5_makeFlat_25 rfl rfl rfl rfl ?_
    refine me1 (pc' := 27) (L' := [(2, ii ((nu : Nat) : Int)), (0, .ref o), (1, .ref p)]) (S' := [.ref o, ii ((nu : Nat) : Int)]) dm_X5_makeFlat_26 rfl rfl rfl rfl ?_
    refine me3 (pc' := 30) (S' := [.ref nq, ii ((nu : Nat) : Int)]) dm_X5_makeFlat_27 (g_get (v := .ref nq) (hl_set (hl_lt ho)) rfl rfl (by omega)) rfl rfl rfl ?_
    refine me3 (pc' := 31) (S' := [ii 1000, ii ((nu : Nat) : Int)]) dm_X5_makeFlat_30 (yh_len (n := 1000) rfl (hl_ne (by omega) hnq) (by omega)) rfl rfl rfl ?_
    refine y_2ge (a := ((nu : Nat) : Int)) (b := 1000) (t := 43) (pc' := 34) dm_X5_makeFlat_31 rfl rfl (by omega) (fun hb7 => ?_) (fun hb7 => ?_)
    · exfalso; omega
    · refine me1 (pc' := 35) (L' := [(2, ii ((nu : Nat) : Int)), (0, .ref o), (1, .ref p)]) (S' := [.ref o]) dm_X5_makeFlat_34 rfl rfl rfl rfl ?_
      refine me3 (pc' := 38) (S' := [.ref nq]) dm_X5_makeFlat_35 (g_get (v := .ref nq) (hl_set (hl_lt ho)) rfl rfl (by omega)) rfl rfl rfl ?_
      refine me1 (pc' := 39) (L' := [(2, ii ((nu : Nat) : Int)), (0, .ref o), (1, .ref p)]) (S' := [ii ((nu : Nat) : Int), .ref nq]) dm_X5_makeFlat_38 rfl rfl rfl rfl ?_
      refine me3 (pc' := 40) (S' := [.long (N nu)]) dm_X5_makeFlat_39 (yh_lald (w := N nu) (hl_ne (by omega) hnq) (by omega) (by omega) (by omega) (by omega) rfl) rfl rfl rfl ?_
      refine me2 (pc' := 44) (S' := [.long (N nu)]) dm_X5_makeFlat_40 rfl rfl rfl ?_
      refine x_cv (pc' := 47) (rest := []) dm_X5_makeFlat_44 rfl (g_invs (As := [.long (N nu)]) (S := []) rfl rfl rfl) rfl rfl rfl (c_number (q := h.length) (by omega) (by simp; omega) (by simp) ) ?_
      rintro _ _ ⟨rfl, rfl⟩
      refine y_ret (r := some (.ref h.length)) dm_X5_makeFlat_47 rfl rfl rfl ?_
      refine ⟨_, rfl, rfl, ?_⟩
      unfold mfC
      rw [if_pos (by omega)]
set_option maxRecDepth 20000 in
theorem pm_X5_ends : mj_mmof pg_ms 100 = some ((⟨"ArrayCalculator$Paired", "ends", "()Z"⟩, prog_7_method_5_code, 1, (Option.some Jvm.ClassFile.FieldType.boolean)), 5, false, mj_dec prog_7_method_5_code) := rfl
theorem dm_X5_ends_0 : mj_dec prog_7_method_5_code 0 = some (.aload_n 0, 1) := by decide +kernel
theorem dm_X5_ends_1 : mj_dec prog_7_method_5_code 1 = some (.getfield 25, 3) := by decide +kernel
theorem dm_X5_ends_4 : mj_dec prog_7_method_5_code 4 = some (.ifCond .ne 27, 3) := by decide +kernel
theorem dm_X5_ends_7 : mj_dec prog_7_method_5_code 7 = some (.aload_n 0, 1) := by decide +kernel
theorem dm_X5_ends_8 : mj_dec prog_7_method_5_code 8 = some (.getfield 28, 3) := by decide +kernel
theorem dm_X5_ends_11 : mj_dec prog_7_method_5_code 11 = some (.sipush 1000, 3) := by decide +kernel
theorem dm_X5_ends_14 : mj_dec prog_7_method_5_code 14 = some (.if_icmp .gt 11, 3) := by decide +kernel
theorem dm_X5_ends_17 : mj_dec prog_7_method_5_code 17 = some (.aload_n 0, 1) := by decide +kernel
theorem dm_X5_ends_18 : mj_dec prog_7_method_5_code 18 = some (.getfield 31, 3) := by decide +kernel
theorem dm_X5_ends_21 : mj_dec prog_7_method_5_code 21 = some (.iconst 5, 1) := by decide +kernel
theorem dm_X5_ends_22 : mj_dec prog_7_method_5_code 22 = some (.if_icmp .le 9, 3) := by decide +kernel
theorem dm_X5_ends_25 : mj_dec prog_7_method_5_code 25 = some (.aload_n 0, 1) := by decide +kernel
theorem dm_X5_ends_26 : mj_dec prog_7_method_5_code 26 = some (.bipush 8, 2) := by decide +kernel
theorem dm_X5_ends_28 : mj_dec prog_7_method_5_code 28 = some (.putfield 25, 3) := by decide +kernel
theorem dm_X5_ends_31 : mj_dec prog_7_method_5_code 31 = some (.aload_n 0, 1) := by decide +kernel
theorem dm_X5_ends_32 : mj_dec prog_7_method_5_code 32 = some (.getfield 25, 3) := by decide +kernel
theorem dm_X5_ends_35 : mj_dec prog_7_method_5_code 35 = some (.ifCond .eq 5, 3) := by decide +kernel
theorem dm_X5_ends_38 : mj_dec prog_7_method_5_code 38 = some (.iconst 1, 1) := by decide +kernel
theorem dm_X5_ends_39 : mj_dec prog_7_method_5_code 39 = some (.ireturn, 1) := by decide +kernel
theorem p_endsT {xt : mj_X} {d o nq : Nat} {h : mj_H} {vb f s l nm vmI nu vu : Int} {rw_ : Bool} {ro va : Value} (hd : 1 ≤ d) (ho2 : 2 ≤ o) (ho : h[o]? = some (PO vb f nq s l nm vmI rw_ ro va nu vu)) (hfr : 0 ≤ f ∧ f ≤ 6) (hsr : f ≠ 0 ∨ (0 ≤ s ∧ s ≤ 2000000 ∧ 0 ≤ l ∧ l ≤ 1000)) (hfe : f ≠ 0 ∨ 1000 < s ∨ 5 < l) : pgV xt d 100 [.ref o] h (fun x h' => x = zz true ∧ h' = h.set o (PO vb (fE f s l) nq s l nm vmI rw_ ro va nu vu)) := by
  refine x_enter pm_X5_ends (L0 := [(0, .ref o)]) rfl (Nat.le_of_ble_eq_true rfl) (by omega) ?_
  refine me1 (pc' := 1) (L' := [(0, .ref o)]) (S' := [.ref o]) dm_X5_ends_0 rfl rfl rfl rfl ?_
  refine me3 (pc' := 4) (S' := [ii f]) dm_X5_ends_1 (g_get (v := ii f) ho rfl rfl (by omega)) rfl rfl rfl ?_
  refine y_1ne (a := f) (t := 31) (pc' := 7) dm_X5_ends_4 rfl rfl (by omega) (fun hb1 => ?_) (fun hb1 => ?_)
  · refine me1 (pc' := 32) (L' := [(0, .ref o)]) (S' := [.ref o]) dm_X5_ends_31 rfl rfl rfl rfl ?_
    refine me3 (pc' := 35) (S' := [ii f]) dm_X5_ends_32 (g_get (v := ii f) ho rfl rfl (by omega)) rfl rfl rfl ?_
    refine y_1eq (a := f) (t := 40) (pc' := 38) dm_X5_ends_35 rfl rfl (by omega) (fun hb2 => ?_) (fun hb2 => ?_)
    · exfalso; omega
    · refine me0 (pc' := 39) (S' := [ii 1]) dm_X5_ends_38 rfl rfl rfl rfl ?_
      refine y_ret (r := some (ii 1)) dm_X5_ends_39 rfl rfl rfl ?_
      refine ⟨_, rfl, zzT.symm, ?_⟩
      first | (exfalso; omega) | (rw [show fE f s l = f by unfold fE; rw [if_pos (by omega)]]; exact (hl_self ho).symm) | (rw [show fE f s l = 8 by unfold fE; rw [if_neg (by omega), if_pos (by omega)]])
  · refine me1 (pc' := 8) (L' := [(0, .ref o)]) (S' := [.ref o]) dm_X5_ends_7 rfl rfl rfl rfl ?_
    refine me3 (pc' := 11) (S' := [ii s]) dm_X5_ends_8 (g_get (v := ii s) ho rfl rfl (by omega)) rfl rfl rfl ?_
    refine me0 (pc' := 14) (S' := [ii 1000, ii s]) dm_X5_ends_11 rfl rfl rfl rfl ?_
    refine y_2gt (a := s) (b := 1000) (t := 25) (pc' := 17) dm_X5_ends_14 rfl rfl (by omega) (fun hb3 => ?_) (fun hb3 => ?_)
    · refine me1 (pc' := 26) (L' := [(0, .ref o)]) (S' := [.ref o]) dm_X5_ends_25 rfl rfl rfl rfl ?_
      refine me0 (pc' := 28) (S' := [ii 8, .ref o]) dm_X5_ends_26 rfl rfl rfl rfl ?_
      refine me3 (pc' := 31) (S' := []) (h1 := (h).set o (cO 5 [ii vb, ii 8, .ref nq, ii s, ii l, ii nm, ii vmI, zz rw_, ro, va, ii nu, ii vu])) dm_X5_ends_28 (g_put (fs' := [ii vb, ii 8, .ref nq, ii s, ii l, ii nm, ii vmI, zz rw_, ro, va, ii nu, ii vu]) ho rfl rfl rfl (by simp) rfl (by decide) (fun z => by cases z) (by omega)) rfl rfl rfl ?_
      refine me1 (pc' := 32) (L' := [(0, .ref o)]) (S' := [.ref o]) dm_X5_ends_31 rfl rfl rfl rfl ?_
      refine me3 (pc' := 35) (S' := [ii 8]) dm_X5_ends_32 (g_get (v := ii 8) (hl_set (hl_lt ho)) rfl rfl (by omega)) rfl rfl rfl ?_
      refine me_1f (pc' := 38) dm_X5_ends_35 rfl (by decide) rfl ?_
      refine me0 (pc' := 39) (S' := [ii 1]) dm_X5_ends_38 rfl rfl rfl rfl ?_
      refine y_ret (r := some (ii 1)) dm_X5_ends_39 rfl rfl rfl ?_
      refine ⟨_, rfl, zzT.symm, ?_⟩
      first | (exfalso; omega) | (rw [show fE f s l = f by unfold fE; rw [if_pos (by omega)]]; exact (hl_self ho).symm) | (rw [show fE f s l = 8 by unfold fE; rw [if_neg (by omega), if_pos (by omega)]])
    · refine me1 (pc' := 18) (L' := [(0, .ref o)]) (S' := [.ref o]) dm_X5_ends_17 rfl rfl rfl rfl ?_
      refine me3 (pc' := 21) (S' := [ii l]) dm_X5_ends_18 (g_get (v := ii l) ho rfl rfl (by omega)) rfl rfl rfl ?_
      refine me0 (pc' := 22) (S' := [ii 5, ii l]) dm_X5_ends_21 rfl rfl rfl rfl ?_
      refine y_2le (a := l) (b := 5) (t := 31) (pc' := 25) dm_X5_ends_22 rfl rfl (by omega) (fun hb4 => ?_) (fun hb4 => ?_)
      · refine me1 (pc' := 32) (L' := [(0, .ref o)]) (S' := [.ref o]) dm_X5_ends_31 rfl rfl rfl rfl ?_
        refine me3 (pc' := 35) (S' := [ii f]) dm_X5_ends_32 (g_get (v := ii f) ho rfl rfl (by omega)) rfl rfl rfl ?_
        refine y_1eq (a := f) (t := 40) (pc' := 38) dm_X5_ends_35 rfl rfl (by omega) (fun hb5 => ?_) (fun hb5 => ?_)
        · exfalso; omega
        · refine me0 (pc' := 39) (S' := [ii 1]) dm_X5_ends_38 rfl rfl rfl rfl ?_
          refine y_ret (r := some (ii 1)) dm_X5_ends_39 rfl rfl rfl ?_
          refine ⟨_, rfl, zzT.symm, ?_⟩
          first | (exfalso; omega) | (rw [show fE f s l = f by unfold fE; rw [if_pos (by omega)]]; exact (hl_self ho).symm) | (rw [show fE f s l = 8 by unfold fE; rw [if_neg (by omega), if_pos (by omega)]])
      · refine me1 (pc' := 26) (L' := [(0, .ref o)]) (S' := [.ref o]) dm_X5_ends_25 rfl rfl rfl rfl ?_
        refine me0 (pc' := 28) (S' := [ii 8, .ref o]) dm_X5_ends_26 rfl rfl rfl rfl ?_
        refine me3 (pc' := 31) (S' := []) (h1 := (h).set o (cO 5 [ii vb, ii 8, .ref nq, ii s, ii l, ii nm, ii vmI, zz rw_, ro, va, ii nu, ii vu])) dm_X5_ends_28 (g_put (fs' := [ii vb, ii 8, .ref nq, ii s, ii l, ii nm, ii vmI, zz rw_, ro, va, ii nu, ii vu]) ho rfl rfl rfl (by simp) rfl (by decide) (fun z => by cases z) (by omega)) rfl rfl rfl ?_
        refine me1 (pc' := 32) (L' := [(0, .ref o)]) (S' := [.ref o]) dm_X5_ends_31 rfl rfl rfl rfl ?_
        refine me3 (pc' := 35) (S' := [ii 8]) dm_X5_ends_32 (g_get (v := ii 8) (hl_set (hl_lt ho)) rfl rfl (by omega)) rfl rfl rfl ?_
        refine me_1f (pc' := 38) dm_X5_ends_35 rfl (by decide) rfl ?_
        refine me0 (pc' := 39) (S' := [ii 1]) dm_X5_ends_38 rfl rfl rfl rfl ?_
        refine y_ret (r := some (ii 1)) dm_X5_ends_39 rfl rfl rfl ?_
        refine ⟨_, rfl, zzT.symm, ?_⟩
        first | (exfalso; omega) | (rw [show fE f s l = f by unfold fE; rw [if_pos (by omega)]]; exact (hl_self ho).symm) | (rw [show fE f s l = 8 by unfold fE; rw [if_neg (by omega), if_pos (by omega)]])
theorem dm_X5_ends_40 : mj_dec prog_7_method_5_code 40 = some (.aload_n 0, 1) := by decide +kernel
theorem dm_X5_ends_41 : mj_dec prog_7_method_5_code 41 = some (.aload_n 0, 1) := by decide +kernel
theorem dm_X5_ends_42 : mj_dec prog_7_method_5_code 42 = some (.getfield 40, 3) := by decide +kernel
theorem dm_X5_ends_45 : mj_dec prog_7_method_5_code 45 = some (.ifCond .eq 17, 3) := by decide +kernel
theorem dm_X5_ends_48 : mj_dec prog_7_method_5_code 48 = some (.aload_n 0, 1) := by decide +kernel
theorem dm_X5_ends_49 : mj_dec prog_7_method_5_code 49 = some (.getfield 9, 3) := by decide +kernel
theorem dm_X5_ends_52 : mj_dec prog_7_method_5_code 52 = some (.aload_n 0, 1) := by decide +kernel
theorem dm_X5_ends_53 : mj_dec prog_7_method_5_code 53 = some (.getfield 34, 3) := by decide +kernel
theorem dm_X5_ends_56 : mj_dec prog_7_method_5_code 56 = some (.invokestatic 96, 3) := by decide +kernel
theorem dm_X5_ends_59 : mj_dec prog_7_method_5_code 59 = some (.goto 6, 3) := by decide +kernel
theorem dm_X5_ends_62 : mj_dec prog_7_method_5_code 62 = some (.getstatic 15, 3) := by decide +kernel
theorem dm_X5_ends_65 : mj_dec prog_7_method_5_code 65 = some (.putfield 18, 3) := by decide +kernel
theorem dm_X5_ends_68 : mj_dec prog_7_method_5_code 68 = some (.aload_n 0, 1) := by decide +kernel
theorem dm_X5_ends_69 : mj_dec prog_7_method_5_code 69 = some (.aload_n 0, 1) := by decide +kernel
theorem dm_X5_ends_70 : mj_dec prog_7_method_5_code 70 = some (.getfield 37, 3) := by decide +kernel
theorem dm_X5_ends_73 : mj_dec prog_7_method_5_code 73 = some (.ifCond .ne 7, 3) := by decide +kernel
theorem dm_X5_ends_76 : mj_dec prog_7_method_5_code 76 = some (.aconst_null, 1) := by decide +kernel
theorem dm_X5_ends_77 : mj_dec prog_7_method_5_code 77 = some (.goto 10, 3) := by decide +kernel
theorem dm_X5_ends_80 : mj_dec prog_7_method_5_code 80 = some (.aload_n 0, 1) := by decide +kernel
theorem dm_X5_ends_81 : mj_dec prog_7_method_5_code 81 = some (.getfield 37, 3) := by decide +kernel
theorem dm_X5_ends_84 : mj_dec prog_7_method_5_code 84 = some (.anewarray 51, 3) := by decide +kernel
theorem dm_X5_ends_87 : mj_dec prog_7_method_5_code 87 = some (.putfield 102, 3) := by decide +kernel
theorem dm_X5_ends_90 : mj_dec prog_7_method_5_code 90 = some (.iconst 0, 1) := by decide +kernel
theorem dm_X5_ends_91 : mj_dec prog_7_method_5_code 91 = some (.ireturn, 1) := by decide +kernel
theorem p_endsF {xt : mj_X} {d o nq m u : Nat} {h : mj_H} {vb s l nu vu : Int} {rw_ : Bool} {ro va : Value} {N : Nat → Int64} (hd : 3 ≤ d) (hl : 127 ≤ h.length) (hoq : (o = 23 ∧ nq = 24) ∨ (o = 27 ∧ nq = 28)) (ho : h[o]? = some (PO vb 0 nq s l ((m : Nat) : Int) ((u : Nat) : Int) rw_ ro va nu vu)) (hnq : h[nq]? = some (cJ 1000 N)) (hs : 0 ≤ s ∧ s ≤ 1000) (hl5 : 0 ≤ l ∧ l ≤ 5) (hm : m ≤ 999) (hu : u ≤ 1000) : pgV xt d 100 [.ref o] h (fun x h' => x = zz false ∧ ∃ (ra : Nat) (vals : Value) (X : mj_H), h' = (h.set o (PO vb 0 nq s l ((m : Nat) : Int) ((u : Nat) : Int) rw_ (.ref ra) vals nu vu)) ++ X ∧ X.length ≤ 2 ∧ mj_sl X ≤ m + u ∧ (rw_ = false ∧ ra = 1 ∨ rw_ = true ∧ ra = h.length ∧ h'[h.length]? = some (cJ m (va_cpy N (fun _ => 0) 0 0 m))) ∧ (u = 0 ∧ vals = .null ∨ 0 < u ∧ ∃ va, vals = .ref va ∧ h.length ≤ va ∧ va < h'.length ∧ va ≠ ra ∧ h'[va]? = some (cA 4 u (fun _ => none)))) := by
  refine x_enter pm_X5_ends (L0 := [(0, .ref o)]) rfl (Nat.le_of_ble_eq_true rfl) (by omega) ?_
  refine me1 (pc' := 1) (L' := [(0, .ref o)]) (S' := [.ref o]) dm_X5_ends_0 rfl rfl rfl rfl ?_
  refine me3 (pc' := 4) (S' := [ii 0]) dm_X5_ends_1 (g_get (v := ii 0) ho rfl rfl (by omega)) rfl rfl rfl ?_
  refine me_1f (pc' := 7) dm_X5_ends_4 rfl (by decide) rfl ?_
  refine me1 (pc' := 8) (L' := [(0, .ref o)]) (S' := [.ref o]) dm_X5_ends_7 rfl rfl rfl rfl ?_
  refine me3 (pc' := 11) (S' := [ii s]) dm_X5_ends_8 (g_get (v := ii s) ho rfl rfl (by omega)) rfl rfl rfl ?_
  refine me0 (pc' := 14) (S' := [ii 1000, ii s]) dm_X5_ends_11 rfl rfl rfl rfl ?_
  refine y_2gt (a := s) (b := 1000) (t := 25) (pc' := 17) dm_X5_ends_14 rfl rfl (by omega) (fun hb1 => ?_) (fun hb1 => ?_)
  · exfalso; omega
  · refine me1 (pc' := 18) (L' := [(0, .ref o)]) (S' := [.ref o]) dm_X5_ends_17 rfl rfl rfl rfl ?_
    refine me3 (pc' := 21) (S' := [ii l]) dm_X5_ends_18 (g_get (v := ii l) ho rfl rfl (by omega)) rfl rfl rfl ?_
    refine me0 (pc' := 22) (S' := [ii 5, ii l]) dm_X5_ends_21 rfl rfl rfl rfl ?_
    refine y_2le (a := l) (b := 5) (t := 31) (pc' := 25) dm_X5_ends_22 rfl rfl (by omega) (fun hb2 => ?_) (fun hb2 => ?_)
    · refine me1 (pc' := 32) (L' := [(0, .ref o)]) (S' := [.ref o]) dm_X5_ends_31 rfl rfl rfl rfl ?_
      refine me3 (pc' := 35) (S' := [ii 0]) dm_X5_ends_32 (g_get (v := ii 0) ho rfl rfl (by omega)) rfl rfl rfl ?_
      refine me_1t (pc' := 40) dm_X5_ends_35 rfl (by decide) ?_
      refine me1 (pc' := 41) (L' := [(0, .ref o)]) (S' := [.ref o]) dm_X5_ends_40 rfl rfl rfl rfl ?_
      refine me1 (pc' := 42) (L' := [(0, .ref o)]) (S' := [.ref o, .ref o]) dm_X5_ends_41 rfl rfl rfl rfl ?_
      refine me3 (pc' := 45) (S' := [zz rw_, .ref o]) dm_X5_ends_42 (g_get (v := zz rw_) ho rfl rfl (by omega)) rfl rfl rfl ?_
      refine y_zeq (c := rw_) (t := 62) (pc' := 48) dm_X5_ends_45 rfl rfl (fun hb3 => ?_) (fun hb3 => ?_)
      · refine me3 (pc' := 65) (S' := [.ref 1, .ref o]) dm_X5_ends_62 rfl rfl rfl rfl ?_
        refine me3 (pc' := 68) (S' := []) (h1 := (h).set o (cO 5 [ii vb, ii 0, .ref nq, ii s, ii l, ii ((m : Nat) : Int), ii ((u : Nat) : Int), zz rw_, .ref 1, va, ii nu, ii vu])) dm_X5_ends_65 (g_put (fs' := [ii vb, ii 0, .ref nq, ii s, ii l, ii ((m : Nat) : Int), ii ((u : Nat) : Int), zz rw_, .ref 1, va, ii nu, ii vu]) ho rfl rfl rfl (by simp) rfl (by decide) (fun z => by cases z) (by omega)) rfl rfl rfl ?_
        refine me1 (pc' := 69) (L' := [(0, .ref o)]) (S' := [.ref o]) dm_X5_ends_68 rfl rfl rfl rfl ?_
        refine me1 (pc' := 70) (L' := [(0, .ref o)]) (S' := [.ref o, .ref o]) dm_X5_ends_69 rfl rfl rfl rfl ?_
        refine me3 (pc' := 73) (S' := [ii ((u : Nat) : Int), .ref o]) dm_X5_ends_70 (g_get (v := ii ((u : Nat) : Int)) (hl_set (hl_lt ho)) rfl rfl (by omega)) rfl rfl rfl ?_
        refine y_1ne (a := ((u : Nat) : Int)) (t := 80) (pc' := 76) dm_X5_ends_73 rfl rfl (by omega) (fun hb4 => ?_) (fun hb4 => ?_)
        · refine me1 (pc' := 81) (L' := [(0, .ref o)]) (S' := [.ref o, .ref o]) dm_X5_ends_80 rfl rfl rfl rfl ?_
          refine me3 (pc' := 84) (S' := [ii ((u : Nat) : Int), .ref o]) dm_X5_ends_81 (g_get (v := ii ((u : Nat) : Int)) (hl_set (hl_lt ho)) rfl rfl (by omega)) rfl rfl rfl ?_
          refine me3 (pc' := 87) (S' := [.ref h.length, .ref o]) (h1 := ((h).set o (cO 5 [ii vb, ii 0, .ref nq, ii s, ii l, ii ((m : Nat) : Int), ii ((u : Nat) : Int), zz rw_, .ref 1, va, ii nu, ii vu])) ++ [cA 4 u (fun _ => none)]) dm_X5_ends_84 (yh_newA rfl (by omega) (by omega) (by omega) (by simp)) rfl rfl rfl ?_
          refine me3 (pc' := 90) (S' := []) (h1 := (((h).set o (cO 5 [ii vb, ii 0, .ref nq, ii s, ii l, ii ((m : Nat) : Int), ii ((u : Nat) : Int), zz rw_, .ref 1, va, ii nu, ii vu])) ++ [cA 4 u (fun _ => none)]).set o (cO 5 [ii vb, ii 0, .ref nq, ii s, ii l, ii ((m : Nat) : Int), ii ((u : Nat) : Int), zz rw_, .ref 1, .ref h.length, ii nu, ii vu])) dm_X5_ends_87 (g_put (fs' := [ii vb, ii 0, .ref nq, ii s, ii l, ii ((m : Nat) : Int), ii ((u : Nat) : Int), zz rw_, .ref 1, .ref h.length, ii nu, ii vu]) (hl_app (hl_set (hl_lt ho))) rfl rfl rfl (by simp) rfl (by decide) (fun z => by cases z) (by omega)) rfl rfl rfl ?_
          refine me0 (pc' := 91) (S' := [ii 0]) dm_X5_ends_90 rfl rfl rfl rfl ?_
          refine y_ret (r := some (ii 0)) dm_X5_ends_91 rfl rfl rfl ?_
          refine ⟨_, rfl, zzF.symm, 1, (.ref h.length), [cA 4 u (fun _ => none)], ?_, ?_, ?_, ?_, ?_⟩
          · exact ends1b (hl_lt ho)
          · show 1 ≤ 2; omega
          · show u + 0 ≤ m + u; omega
          · exact Or.inl ⟨by assumption, rfl⟩
          · exact Or.inr ⟨by omega, h.length, rfl, Nat.le_refl _, by rw [ends1b (hl_lt ho), List.length_append, List.length_set]; exact Nat.lt_add_of_pos_right (show 0 < 1 by decide), (show h.length ≠ 1 by omega), by rw [ends1b (hl_lt ho), List.getElem?_append_right (by rw [List.length_set]; exact Nat.le_refl _), List.length_set, Nat.sub_self]; rfl⟩
        · refine me0 (pc' := 77) (S' := [.null, .ref o]) dm_X5_ends_76 rfl rfl rfl rfl ?_
          refine me2 (pc' := 87) (S' := [.null, .ref o]) dm_X5_ends_77 rfl rfl rfl ?_
          refine me3 (pc' := 90) (S' := []) (h1 := (h).set o (cO 5 [ii vb, ii 0, .ref nq, ii s, ii l, ii ((m : Nat) : Int), ii ((u : Nat) : Int), zz rw_, .ref 1, .null, ii nu, ii vu])) dm_X5_ends_87 (g_put (fs' := [ii vb, ii 0, .ref nq, ii s, ii l, ii ((m : Nat) : Int), ii ((u : Nat) : Int), zz rw_, .ref 1, .null, ii nu, ii vu]) (hl_set (hl_lt ho)) rfl (by rw [List.set_set]) rfl (by simp) rfl (by decide) (fun z => by cases z) (by omega)) rfl rfl rfl ?_
          refine me0 (pc' := 91) (S' := [ii 0]) dm_X5_ends_90 rfl rfl rfl rfl ?_
          refine y_ret (r := some (ii 0)) dm_X5_ends_91 rfl rfl rfl ?_
          refine ⟨_, rfl, zzF.symm, 1, .null, [], ?_, ?_, ?_, ?_, ?_⟩
          · exact (List.append_nil _).symm
          · show 0 ≤ 2; omega
          · show 0 ≤ m + u; omega
          · exact Or.inl ⟨by assumption, rfl⟩
          · exact Or.inl ⟨by omega, rfl⟩
      · refine me1 (pc' := 49) (L' := [(0, .ref o)]) (S' := [.ref o, .ref o]) dm_X5_ends_48 rfl rfl rfl rfl ?_
        refine me3 (pc' := 52) (S' := [.ref nq, .ref o]) dm_X5_ends_49 (g_get (v := .ref nq) ho rfl rfl (by omega)) rfl rfl rfl ?_
        refine me1 (pc' := 53) (L' := [(0, .ref o)]) (S' := [.ref o, .ref nq, .ref o]) dm_X5_ends_52 rfl rfl rfl rfl ?_
        refine me3 (pc' := 56) (S' := [ii ((m : Nat) : Int), .ref nq, .ref o]) dm_X5_ends_53 (g_get (v := ii ((m : Nat) : Int)) ho rfl rfl (by omega)) rfl rfl rfl ?_
        refine x_cv (pc' := 59) (rest := [.ref o]) dm_X5_ends_56 rfl (g_invs (As := [.ref nq, ii ((m : Nat) : Int)]) (S := [.ref o]) rfl rfl rfl) rfl rfl rfl (j_copyOf (n := m) (q := h.length) (by omega) (by omega) rfl hnq (by omega) (by omega) (by omega)) ?_
        rintro _ _ ⟨rfl, rfl⟩
        refine me2 (pc' := 65) (S' := [.ref h.length, .ref o]) dm_X5_ends_59 rfl rfl rfl ?_
        refine me3 (pc' := 68) (S' := []) (h1 := (h ++ [cJ m (va_cpy N (fun _ => 0) 0 0 m)]).set o (cO 5 [ii vb, ii 0, .ref nq, ii s, ii l, ii ((m : Nat) : Int), ii ((u : Nat) : Int), zz rw_, .ref h.length, va, ii nu, ii vu])) dm_X5_ends_65 (g_put (fs' := [ii vb, ii 0, .ref nq, ii s, ii l, ii ((m : Nat) : Int), ii ((u : Nat) : Int), zz rw_, .ref h.length, va, ii nu, ii vu]) (hl_app ho) rfl rfl rfl (by simp) rfl (by decide) (fun z => by cases z) (by omega)) rfl rfl rfl ?_
        refine me1 (pc' := 69) (L' := [(0, .ref o)]) (S' := [.ref o]) dm_X5_ends_68 rfl rfl rfl rfl ?_
        refine me1 (pc' := 70) (L' := [(0, .ref o)]) (S' := [.ref o, .ref o]) dm_X5_ends_69 rfl rfl rfl rfl ?_
        refine me3 (pc' := 73) (S' := [ii ((u : Nat) : Int), .ref o]) dm_X5_ends_70 (g_get (v := ii ((u : Nat) : Int)) (hl_set (hl_lt (hl_app ho))) rfl rfl (by omega)) rfl rfl rfl ?_
        refine y_1ne (a := ((u : Nat) : Int)) (t := 80) (pc' := 76) dm_X5_ends_73 rfl rfl (by omega) (fun hb5 => ?_) (fun hb5 => ?_)
        · refine me1 (pc' := 81) (L' := [(0, .ref o)]) (S' := [.ref o, .ref o]) dm_X5_ends_80 rfl rfl rfl rfl ?_
          refine me3 (pc' := 84) (S' := [ii ((u : Nat) : Int), .ref o]) dm_X5_ends_81 (g_get (v := ii ((u : Nat) : Int)) (hl_set (hl_lt (hl_app ho))) rfl rfl (by omega)) rfl rfl rfl ?_
          refine me3 (pc' := 87) (S' := [.ref (h.length + 1), .ref o]) (h1 := ((h ++ [cJ m (va_cpy N (fun _ => 0) 0 0 m)]).set o (cO 5 [ii vb, ii 0, .ref nq, ii s, ii l, ii ((m : Nat) : Int), ii ((u : Nat) : Int), zz rw_, .ref h.length, va, ii nu, ii vu])) ++ [cA 4 u (fun _ => none)]) dm_X5_ends_84 (yh_newA rfl (by omega) (by omega) (by omega) (by simp)) rfl rfl rfl ?_
          refine me3 (pc' := 90) (S' := []) (h1 := (((h ++ [cJ m (va_cpy N (fun _ => 0) 0 0 m)]).set o (cO 5 [ii vb, ii 0, .ref nq, ii s, ii l, ii ((m : Nat) : Int), ii ((u : Nat) : Int), zz rw_, .ref h.length, va, ii nu, ii vu])) ++ [cA 4 u (fun _ => none)]).set o (cO 5 [ii vb, ii 0, .ref nq, ii s, ii l, ii ((m : Nat) : Int), ii ((u : Nat) : Int), zz rw_, .ref h.length, .ref (h.length + 1), ii nu, ii vu])) dm_X5_ends_87 (g_put (fs' := [ii vb, ii 0, .ref nq, ii s, ii l, ii ((m : Nat) : Int), ii ((u : Nat) : Int), zz rw_, .ref h.length, .ref (h.length + 1), ii nu, ii vu]) (hl_app (hl_set (hl_lt (hl_app ho)))) rfl rfl rfl (by simp) rfl (by decide) (fun z => by cases z) (by omega)) rfl rfl rfl ?_
          refine me0 (pc' := 91) (S' := [ii 0]) dm_X5_ends_90 rfl rfl rfl rfl ?_
          refine y_ret (r := some (ii 0)) dm_X5_ends_91 rfl rfl rfl ?_
          refine ⟨_, rfl, zzF.symm, h.length, (.ref (h.length + 1)), [cJ m (va_cpy N (fun _ => 0) 0 0 m), cA 4 u (fun _ => none)], ?_, ?_, ?_, ?_, ?_⟩
          · exact ends2 (hl_lt ho)
          · show 2 ≤ 2; omega
          · show m + (u + 0) ≤ m + u; omega
          · exact Or.inr ⟨by assumption, rfl, by rw [ends2 (hl_lt ho)]; exact (by rw [List.getElem?_append_right (by rw [List.length_set]; exact Nat.le_refl _), List.length_set, Nat.sub_self]; rfl)⟩
          · exact Or.inr ⟨by omega, h.length + 1, rfl, by omega, by rw [ends2 (hl_lt ho), List.length_append, List.length_set]; exact Nat.add_lt_add_left (show 1 < 2 by decide) _, (show h.length + 1 ≠ h.length by omega), by rw [ends2 (hl_lt ho), List.getElem?_append_right (by rw [List.length_set]; omega), List.length_set, Nat.add_sub_cancel_left]; rfl⟩
        · refine me0 (pc' := 77) (S' := [.null, .ref o]) dm_X5_ends_76 rfl rfl rfl rfl ?_
          refine me2 (pc' := 87) (S' := [.null, .ref o]) dm_X5_ends_77 rfl rfl rfl ?_
          refine me3 (pc' := 90) (S' := []) (h1 := (h ++ [cJ m (va_cpy N (fun _ => 0) 0 0 m)]).set o (cO 5 [ii vb, ii 0, .ref nq, ii s, ii l, ii ((m : Nat) : Int), ii ((u : Nat) : Int), zz rw_, .ref h.length, .null, ii nu, ii vu])) dm_X5_ends_87 (g_put (fs' := [ii vb, ii 0, .ref nq, ii s, ii l, ii ((m : Nat) : Int), ii ((u : Nat) : Int), zz rw_, .ref h.length, .null, ii nu, ii vu]) (hl_set (hl_lt (hl_app ho))) rfl (by rw [List.set_set]) rfl (by simp) rfl (by decide) (fun z => by cases z) (by omega)) rfl rfl rfl ?_
          refine me0 (pc' := 91) (S' := [ii 0]) dm_X5_ends_90 rfl rfl rfl rfl ?_
          refine y_ret (r := some (ii 0)) dm_X5_ends_91 rfl rfl rfl ?_
          refine ⟨_, rfl, zzF.symm, h.length, .null, [cJ m (va_cpy N (fun _ => 0) 0 0 m)], ?_, ?_, ?_, ?_, ?_⟩
          · exact ends1 (hl_lt ho)
          · show 1 ≤ 2; omega
          · show m + 0 ≤ m + u; omega
          · exact Or.inr ⟨by assumption, rfl, by rw [ends1 (hl_lt ho)]; exact (by rw [List.getElem?_append_right (by rw [List.length_set]; exact Nat.le_refl _), List.length_set, Nat.sub_self]; rfl)⟩
          · exact Or.inl ⟨by omega, rfl⟩
    · exfalso; omega
