theorem orN_mem {n k : Nat} {f : Nat → Bool} (h : k < n) (hf : f k = true) : orN n f = true := by
  induction n with
  | zero => omega
  | succ n ih =>
    show (orN n f || f n) = true
    by_cases z : k = n
    · rw [← z, hf, Bool.or_true]
    · rw [ih (by omega), Bool.true_or]
theorem flV_sz {vb : Int} {d : Nat} {v w : VV} (h : pflat v w) : vsz (d + 1) (flV vb v w) = vsz (d + 1) (lkV v w) := by
  have h7 := lkV_7 h
  have e1 : vsz (d + 1) (lkV v w) = (if vk (lkV v w) ≤ 1 then 1 else if vk (lkV v w) = 6 then 1 + vm (lkV v w) * vc (lkV v w) else 1 + vm (lkV v w)) := by
    show (if vk (lkV v w) ≤ 1 then 1 else if vk (lkV v w) = 6 then 1 + vm (lkV v w) * vc (lkV v w) else if vk (lkV v w) = 7 then _ else 1 + vm (lkV v w)) = _
    rw [if_neg h7]
  rw [e1]
  have hr : ∀ (k m : Nat) (f : Nat → Int64), 2 ≤ k → k ≤ 5 → vsz (d + 1) (vrow k m f) = 1 + m := fun k m f h1 h2 => by rw [vq_sz (by show 2 ≤ k; omega) (by show k ≤ 6; omega), vq_row h2]
  unfold flV
  by_cases a : vk (lkV v w) ≤ 1
  · rw [if_pos a, if_pos a]; exact vsz_1 (by show 0 ≤ 1; omega)
  · rw [if_neg a, if_neg a]
    by_cases b : vk (lkV v w) = 6
    · rw [if_pos b, if_pos b, vq_sz (by show 2 ≤ 6; omega) (by show 6 ≤ 6; omega), vq_tab]
    · rw [if_neg b, if_neg b]
      by_cases c : bitV vb
      · rw [if_pos c]; exact hr _ _ _ (by omega) (by omega)
      · rw [if_neg c]
        have hvf := vform_le (m := vm (lkV v w)) (f := flG vb v w)
        exact hr _ _ _ (by omega) (by omega)
theorem paV_sz {vb : Int} {d : Nat} : ∀ {v w : VV}, vsz d (paV vb d v w) = paS d v w := by
  induction d with
  | zero => intro v w; rfl
  | succ d ih =>
    intro v w
    rw [paV_s, paS_s]
    by_cases z : pflat v w
    · rw [if_pos z, if_pos z]; exact flV_sz z
    · rw [if_neg z, if_neg z]
      show 1 + sumN (pnN v w) (fun k => vsz d (paV vb d (pat v k) (pat w k))) = _
      rw [sumN_congr (fun k _ => ih)]
theorem mfC_O (vb : Int) (lk : VV) (N f : Nat → Int64) (ra nu : Nat) : ∃ fs, mfC vb lk N f ra nu = cO 10 fs ∧ mj_sl1 (mfC vb lk N f ra nu) = 9 := by
  unfold mfC
  split
  · exact ⟨_, rfl, rfl⟩
  · split
    · exact ⟨_, rfl, rfl⟩
    · split
      · exact ⟨_, rfl, rfl⟩
      · exact ⟨_, rfl, rfl⟩
theorem mf_rcv {B : Nat → Prop} {h : mj_H} {arr : Prop} {va vmt lo hi e q ra nu mr : Nat} {V : Nat → Option Nat} {vb : Int} {v w : VV} {N F : Nat → Int64} (hv : vw1 v) (hw : vw1 w) (hp : pflat v w) (hg : h[q]? = some (mfC vb (lkV v w) N F ra nu)) (h2 : 2 ≤ q) (hB : B q) (hr : rowAt B h ra mr F) (hE : flE vb v w (lkV v w) (vq (lkV v w)) = 0) (hN : ∀ j, j < vq (lkV v w) → nu + j < 1000 → N (nu + j) = (outT vb v w (lkV v w) j).2) (hc : nu + vq (lkV v w) ≤ 999) (hR : decide (0 < vq (lkV v w) ∧ ¬ vk (lkV v w) ≤ 1) = true → nu + vq (lkV v w) ≤ mr ∧ ∀ j, j < mr → F j = N j) : rcv B h arr va vmt V lo hi (e + 1) q (flV vb v w) := by
  have hl := lkV_w hv hw
  have h7 := lkV_7 hp
  have hm := vw1_m hl
  unfold mfC at hg
  unfold flV
  by_cases a : vk (lkV v w) ≤ 1
  · rw [if_pos a] at hg ⊢
    have hq1 := vq_1 hl a
    have hn0 : N nu = flG vb v w 0 := by have := hN 0 (by omega) (by omega); exact this
    rw [hn0] at hg
    exact rcv_one (k := 0) hg (by omega) h2 hB
  · rw [if_neg a] at hg ⊢
    have hF : ∀ k, k < vq (lkV v w) → F (nu + k) = flG vb v w k := by
      intro k hk
      obtain ⟨z1, z2⟩ := hR (decide_eq_true ⟨by omega, a⟩)
      rw [z2 (nu + k) (by omega)]
      exact hN k hk (by omega)
    have hb : 0 < vq (lkV v w) → nu + vq (lkV v w) ≤ mr := fun z => (hR (decide_eq_true ⟨z, a⟩)).1
    by_cases b : vk (lkV v w) = 6
    · rw [if_pos b] at hg ⊢
      have h6 := hl.2.2.2.1 b
      have hq6 := vq_tb b
      refine rcv_flat (w := vtab (vm (lkV v w)) (vc (lkV v w)) (flG vb v w)) (row := ra) (fr := nu) (n := mr) (f := F) hg (vw1_tab (by omega) (by omega) (by omega) (by omega) (fun k hk => outT_fit (flE_all hE k (by omega)) b)) (by show 2 ≤ 6; omega) (by show 6 ≤ 6; omega) h2 hB hr (by omega) (fun z => ?_) (fun k hk => ?_)
      · rw [vq_tab] at z ⊢; rw [← hq6] at z ⊢; exact hb z
      · rw [vq_tab, ← hq6] at hk; exact hF k hk
    · rw [if_neg b] at hg ⊢
      have hq5 := vq_m (v := lkV v w) (by omega)
      by_cases c : bitV vb
      · rw [if_pos c] at hg ⊢
        refine rcv_flat (w := vrow 2 (vm (lkV v w)) (flG vb v w)) (row := ra) (fr := nu) (n := mr) (f := F) hg (vw1_bits (by omega) (fun k _ => by unfold flG; rw [outT_2]; exact outF_bits c)) (by show 2 ≤ 2; omega) (by show 2 ≤ 6; omega) h2 hB hr (by omega) (fun z => ?_) (fun k hk => ?_)
        · rw [vq_row (by omega)] at z ⊢; rw [← hq5] at z ⊢; exact hb z
        · rw [vq_row (by omega), ← hq5] at hk; exact hF k hk
      · rw [if_neg c] at hg ⊢
        have hvf := vform_le (m := vm (lkV v w)) (f := flG vb v w)
        rw [vform_congr (g := flG vb v w) (fun k hk => hF k (by omega))] at hg
        refine rcv_flat (w := vrow (vform (vm (lkV v w)) (flG vb v w)) (vm (lkV v w)) (flG vb v w)) (row := ra) (fr := nu) (n := mr) (f := F) hg (vw1_row (by omega) (by omega) (by omega)) (by show 2 ≤ vform _ _; omega) (by show vform _ _ ≤ 6; omega) h2 hB hr (by omega) (fun z => ?_) (fun k hk => ?_)
        · rw [vq_row (by omega)] at z ⊢; rw [← hq5] at z ⊢; exact hb z
        · rw [vq_row (by omega), ← hq5] at hk; exact hF k hk
/-- what make has come to -/
def mkR (A : Nat → Prop) (h : mj_H) (o nq va vmt : Nat) (arr : Prop) (vals : Value) (vb sz lv nm vmI : Int) (rw_ : Bool) (ra nu vu : Nat) (V : Nat → Option Nat) (e : Nat) (v w : VV) (x : Value) (h' : mj_H) : Prop := ∃ q V' fs, x = .ref q ∧ mkS o va h h' (paK e v w) (9 * paK e v w) ∧ h'[o]? = some (PO vb 0 nq sz lv nm vmI rw_ (.ref ra) vals ((nu + paC e v w : Nat) : Int) ((vu + paM e v w : Nat) : Int)) ∧ (arr → h'[va]? = some (cA 4 vmt V')) ∧ (∀ j, j < vu ∨ vu + paM e v w ≤ j → V' j = V j) ∧ h'[q]? = some (cO 10 fs) ∧ h.length ≤ q ∧ rcv (newA A h h') h' arr va vmt V' vu (vu + paM e v w) e q (paV vb e v w)
theorem mkR_flat {A : Nat → Prop} {h : mj_H} {o nq va vmt ra nu vu mr e : Nat} {arr : Prop} {vals : Value} {vb sz lv nm vmI : Int} {rw_ : Bool} {V : Nat → Option Nat} {v w : VV} {N F : Nat → Int64} (hA : okA A h) (hl : 127 ≤ h.length) (ho27 : o < 127 ∧ o ≠ 25 ∧ o ≠ 101) (hov : arr → o ≠ va ∧ va < h.length) (ho : h[o]? = some (PO vb 0 nq sz lv nm vmI rw_ (.ref ra) vals ((nu : Nat) : Int) ((vu : Nat) : Int))) (harr : arr → h[va]? = some (cA 4 vmt V)) (hv : vw1 v) (hw : vw1 w) (hp : pflat v w) (hr : rowAt A h ra mr F) (hE : paF vb (e + 1) v w = 0) (hN : paN vb N (e + 1) v w nu) (hc : nu + paC (e + 1) v w ≤ 999) (hR : paR (e + 1) v w = true → nu + paC (e + 1) v w ≤ mr ∧ ∀ j, j < mr → F j = N j) : mkR A h o nq va vmt arr vals vb sz lv nm vmI rw_ ra nu vu V (e + 1) v w (.ref h.length) ((h.set o (PO vb 0 nq sz lv nm vmI rw_ (.ref ra) vals (((nu : Nat) : Int) + (vq (lkV v w) : Int)) ((vu : Nat) : Int))) ++ [mfC vb (lkV v w) N F ra nu]) := by
  obtain ⟨fs, hfs, hsl⟩ := mfC_O vb (lkV v w) N F ra nu
  have hlo := hl_lt ho
  have hnew : ((h.set o (PO vb 0 nq sz lv nm vmI rw_ (.ref ra) vals (((nu : Nat) : Int) + (vq (lkV v w) : Int)) ((vu : Nat) : Int))) ++ [mfC vb (lkV v w) N F ra nu])[h.length]? = some (mfC vb (lkV v w) N F ra nu) := hl_newa (by rw [List.length_set])
  have hlen : ((h.set o (PO vb 0 nq sz lv nm vmI rw_ (.ref ra) vals (((nu : Nat) : Int) + (vq (lkV v w) : Int)) ((vu : Nat) : Int))) ++ [mfC vb (lkV v w) N F ra nu]).length = h.length + 1 := by rw [List.length_append, List.length_set]; rfl
  refine ⟨h.length, V, fs, rfl, ?_, ?_, fun z => hl_app (hl_ne (Ne.symm (hov z).1) (harr z)), fun j _ => rfl, by rw [hnew, hfs], Nat.le_refl _, ?_⟩
  · rw [paK_s, if_pos hp]
    refine mkS_up (mkS_app (e := mfC vb (lkV v w) N F ra nu) (mkS_set (mkS_rf o va h) (Or.inl rfl) hlo ho rfl)) (by omega) (by rw [hsl]; omega)
  · rw [paC_s, paM_s, if_pos hp, if_pos hp]
    have e1 : ((nu + vq (lkV v w) : Nat) : Int) = ((nu : Nat) : Int) + (vq (lkV v w) : Int) := by push_cast; rfl
    rw [e1]
    exact hl_app (hl_set hlo)
  · rw [paV_s, if_pos hp]
    rw [paF_s, if_pos hp] at hE
    rw [paN_s, if_pos hp] at hN
    rw [paC_s, if_pos hp] at hc hR
    rw [paR_s, if_pos hp] at hR
    refine mf_rcv hv hw hp hnew (by omega) (Or.inr ⟨Nat.le_refl _, by omega⟩) ?_ hE hN hc hR
    rcases hr with z | ⟨z1, z2, z3, z4⟩
    · exact Or.inl z
    · exact Or.inr ⟨z1, hl_app (hl_ne (fun y => nA hA (Or.inl ho27) (y ▸ z4)) z2), z3, Or.inl z4⟩
/-- of a nest, behind k values -/
def mkL (A : Nat → Prop) (h : mj_H) (o nq va vmt : Nat) (vals : Value) (vb sz lv nm vmI : Int) (rw_ : Bool) (ra nu vu : Nat) (V : Nat → Option Nat) (e : Nat) (v w : VV) (k : Nat) (hh : mj_H) (W : Nat → Option Nat) : Prop := mkS o va h hh (sumN k (fun i => paK e (pat v i) (pat w i))) (9 * sumN k (fun i => paK e (pat v i) (pat w i))) ∧ hh[o]? = some (PO vb 0 nq sz lv nm vmI rw_ (.ref ra) vals ((nu + sumN k (fun i => paC e (pat v i) (pat w i)) : Nat) : Int) ((vu + pnN v w + sumN k (fun i => paM e (pat v i) (pat w i)) : Nat) : Int)) ∧ hh[va]? = some (cA 4 vmt W) ∧ (∀ j, j < vu ∨ vu + pnN v w + sumN k (fun i => paM e (pat v i) (pat w i)) ≤ j → W j = V j) ∧ ∀ j, j < k → ∃ q, W (vu + j) = some q ∧ rcv (newA A h hh) hh True va vmt W (vu + pnN v w + sumN j (fun i => paM e (pat v i) (pat w i))) (vu + pnN v w + sumN (j + 1) (fun i => paM e (pat v i) (pat w i))) e q (paV vb e (pat v j) (pat w j))
section MKL
variable {A : Nat → Prop} {h hh h3 : mj_H} {o nq va vmt ra nu vu e k : Nat} {vals : Value} {vb sz lv nm vmI : Int} {rw_ : Bool} {V W : Nat → Option Nat} {v w : VV}
theorem mkL_0 (hov : o ≠ va) (ho : h[o]? = some (PO vb 0 nq sz lv nm vmI rw_ (.ref ra) vals ((nu : Nat) : Int) ((vu : Nat) : Int))) (harr : h[va]? = some (cA 4 vmt V)) : mkL A h o nq va vmt vals vb sz lv nm vmI rw_ ra nu vu V e v w 0 (h.set o (PO vb 0 nq sz lv nm vmI rw_ (.ref ra) vals ((nu : Nat) : Int) (((vu : Nat) : Int) + ((pnN v w : Nat) : Int)))) V := by
  refine ⟨mkS_set (mkS_rf o va h) (Or.inl rfl) (hl_lt ho) ho rfl, ?_, hl_ne (Ne.symm hov) harr, fun _ _ => rfl, fun j hj => absurd hj (Nat.not_lt_zero j)⟩
  have e1 : ((vu + pnN v w + sumN 0 (fun i => paM e (pat v i) (pat w i)) : Nat) : Int) = ((vu : Nat) : Int) + ((pnN v w : Nat) : Int) := by show ((vu + pnN v w + 0 : Nat) : Int) = _; push_cast; rfl
  rw [e1]
  exact hl_set (hl_lt ho)
theorem mkL_s (hov : o ≠ va) (hol : o < h.length) (hva : va < h.length) (hAo : ¬ A o) (hAv : ¬ A va) (hL : mkL A h o nq va vmt vals vb sz lv nm vmI rw_ ra nu vu V e v w k hh W) (hk : k < pnN v w) {q3 : Nat} {V3 : Nat → Option Nat} (hS : mkS o va hh h3 (paK e (pat v k) (pat w k)) (9 * paK e (pat v k) (pat w k))) (hO : h3[o]? = some (PO vb 0 nq sz lv nm vmI rw_ (.ref ra) vals ((nu + sumN k (fun i => paC e (pat v i) (pat w i)) + paC e (pat v k) (pat w k) : Nat) : Int) ((vu + pnN v w + sumN k (fun i => paM e (pat v i) (pat w i)) + paM e (pat v k) (pat w k) : Nat) : Int))) (hV3 : h3[va]? = some (cA 4 vmt V3)) (hVk : ∀ j, j < vu + pnN v w + sumN k (fun i => paM e (pat v i) (pat w i)) ∨ vu + pnN v w + sumN k (fun i => paM e (pat v i) (pat w i)) + paM e (pat v k) (pat w k) ≤ j → V3 j = W j) (hr : rcv (newA A hh h3) h3 True va vmt V3 (vu + pnN v w + sumN k (fun i => paM e (pat v i) (pat w i))) (vu + pnN v w + sumN k (fun i => paM e (pat v i) (pat w i)) + paM e (pat v k) (pat w k)) e q3 (paV vb e (pat v k) (pat w k))) : mkL A h o nq va vmt vals vb sz lv nm vmI rw_ ra nu vu V e v w (k + 1) (h3.set va (cA 4 vmt (va_up V3 (vu + k) (some q3)))) (va_up V3 (vu + k) (some q3)) := by
  obtain ⟨l1, l2, l3, l4, l5⟩ := hL
  have hlh := mkS_len l1
  have hl3 := mkS_len hS
  have hcells : ∀ x c, newA A h hh x → x ≠ va → hh[x]? = some c → newA A h (h3.set va (cA 4 vmt (va_up V3 (vu + k) (some q3)))) x ∧ (h3.set va (cA 4 vmt (va_up V3 (vu + k) (some q3))))[x]? = some c := by
    intro x c hx hxv hg
    have hxo : x ≠ o := by
      rintro rfl
      rcases hx with hx | hx
      · exact hAo hx
      · omega
    refine ⟨?_, hl_ne hxv (mkS_get hS hxo hxv hg)⟩
    rcases hx with hx | hx
    · exact Or.inl hx
    · exact Or.inr ⟨hx.1, by rw [List.length_set]; omega⟩
  have hnva : ∀ x, newA A h hh x → x ≠ va := by
    rintro x hx rfl
    rcases hx with hx | hx
    · exact hAv hx
    · omega
  have hS9 : mkS o va h (h3.set va (cA 4 vmt (va_up V3 (vu + k) (some q3)))) _ _ := mkS_set (e' := cA 4 vmt (va_up V3 (vu + k) (some q3))) (mkS_tr l1 hS hol hva) (Or.inr rfl) hva hV3 rfl
  refine ⟨mkS_up hS9 (Nat.le_refl _) (Nat.le_of_eq (Nat.mul_add 9 _ _).symm), ?_, hl_set (by omega), fun j hj => ?_, fun j hj => ?_⟩
  · have e1 : nu + sumN k (fun i => paC e (pat v i) (pat w i)) + paC e (pat v k) (pat w k) = nu + sumN (k + 1) (fun i => paC e (pat v i) (pat w i)) := Nat.add_assoc _ _ _
    have e2 : vu + pnN v w + sumN k (fun i => paM e (pat v i) (pat w i)) + paM e (pat v k) (pat w k) = vu + pnN v w + sumN (k + 1) (fun i => paM e (pat v i) (pat w i)) := Nat.add_assoc _ _ _
    rw [e1, e2] at hO
    exact hl_ne hov hO
  · have hj2 : j < vu ∨ vu + pnN v w + (sumN k (fun i => paM e (pat v i) (pat w i)) + paM e (pat v k) (pat w k)) ≤ j := hj
    rw [up_ne _ _ (by omega), hVk j (by omega)]
    exact l4 j (by omega)
  · by_cases z : j = k
    · subst z
      refine ⟨q3, up_eq _ _ _, rcv_mono hr (fun x c hx hg => ?_) (fun i i1 i2 => up_ne _ _ (by omega)) (Nat.le_refl _) (Nat.le_of_eq ?_)⟩
      · have hxv : x ≠ va := by
          rintro rfl
          rcases hx with hx | hx
          · exact hAv hx
          · omega
        refine ⟨?_, hl_ne hxv hg⟩
        rcases hx with hx | hx
        · exact Or.inl hx
        · exact Or.inr ⟨by omega, by rw [List.length_set]; omega⟩
      · show _ = vu + pnN v w + (sumN j _ + paM e (pat v j) (pat w j)); omega
    · obtain ⟨q, g1, g2⟩ := l5 j (by omega)
      have h5 : sumN (j + 1) (fun i => paM e (pat v i) (pat w i)) ≤ sumN k (fun i => paM e (pat v i) (pat w i)) := sumN_nm (by omega)
      refine ⟨q, ?_, rcv_mono g2 (fun x c hx hg => hcells x c hx (hnva x hx) hg) (fun i i1 i2 => ?_) (Nat.le_refl _) (Nat.le_refl _)⟩
      · rw [up_ne _ _ (by omega), hVk _ (by omega)]; exact g1
      · rw [up_ne _ _ (by omega)]; exact hVk i (by omega)
/-- the nest of all of them -/
theorem mkL_end (hov : o ≠ va) (hva : va < h.length) (hl : 127 ≤ h.length) (hv2 : 2 ≤ va) (hAv : ¬ A va) (hL : mkL A h o nq va vmt vals vb sz lv nm vmI rw_ ra nu vu V e v w (pnN v w) hh W) (hp : ¬ pflat v w) (hn : pnN v w ≤ 24) (he : e ≤ 20) (hS : paS (e + 1) v w ≤ 1000) (hM : vu + paM (e + 1) v w ≤ vmt) (hvt : vmt ≤ 1000) : mkR A h o nq va vmt True vals vb sz lv nm vmI rw_ ra nu vu V (e + 1) v w (.ref hh.length) (hh ++ [cNest (.ref va) ((vu : Nat) : Int) ((pnN v w : Nat) : Int) ((1 + sumN (pnN v w) (fun k => vsz e (paV vb e (pat v k) (pat w k))) : Nat) : Int) ((1 + maxN (pnN v w) (fun k => vlv e (paV vb e (pat v k) (pat w k))) : Nat) : Int)]) := by
  obtain ⟨l1, l2, l3, l4, l5⟩ := hL
  have hlh := mkS_len l1
  rw [paS_s, if_neg hp] at hS
  rw [paM_s, if_neg hp] at hM
  refine ⟨hh.length, W, _, rfl, ?_, ?_, fun _ => hl_app l3, fun j hj => ?_, hl_new, hlh, ?_⟩
  · rw [paK_s, if_neg hp]
    refine mkS_up (mkS_app l1) (by omega) ?_
    show _ + 9 ≤ _
    omega
  · rw [paC_s, paM_s, if_neg hp, if_neg hp]
    rw [show vu + (pnN v w + sumN (pnN v w) (fun k => paM e (pat v k) (pat w k))) = vu + pnN v w + sumN (pnN v w) (fun k => paM e (pat v k) (pat w k)) by omega]
    exact hl_app l2
  · rw [paM_s, if_neg hp] at hj
    exact l4 j (by omega)
  · rw [paV_s, paM_s, if_neg hp, if_neg hp]
    intro A' hf VF k1 k2 k3
    obtain ⟨f1, f2⟩ := k2 trivial
    obtain ⟨z1, z2⟩ := k1 hh.length _ (Or.inr ⟨hlh, by rw [List.length_append]; exact Nat.lt_succ_self _⟩) hl_new
    refine cv_nest (fr := vu) (a := va) (n := vmt) (g := VF) hn (by omega) z1 he ?_ z2 (by omega) f1 hv2 f2 hvt (by omega) (fun k hk => ?_)
    · rw [sumN_congr (g := fun k => paS e (pat v k) (pat w k)) (fun k _ => paV_sz)]
      omega
    · obtain ⟨q, g1, g2⟩ := l5 k hk
      refine ⟨q, by rw [k3 (vu + k) (by omega) (by omega)]; exact g1, g2 A' hf VF (fun x c hx hg => k1 x c ?_ (hl_app hg)) (fun _ => ⟨f1, f2⟩) (fun j j1 j2 => k3 j (by omega) ?_)⟩
      · rcases hx with hx | hx
        · exact Or.inl hx
        · exact Or.inr ⟨hx.1, by rw [List.length_append]; omega⟩
      · have h5 : sumN (k + 1) (fun i => paM e (pat v i) (pat w i)) ≤ sumN (pnN v w) (fun i => paM e (pat v i) (pat w i)) := sumN_nm hk
        omega
end MKL
set_option maxRecDepth 20000 in
theorem pm_X5_make : mj_mmof pg_ms 104 = some ((⟨"ArrayCalculator$Paired", "make", "(LArrayCalculator$Value;LArrayCalculator$Value;)LArrayCalculator$Value;"⟩, prog_7_method_7_code, 7, (Option.some (Jvm.ClassFile.FieldType.object "ArrayCalculator$Value"))), 5, false, mj_dec prog_7_method_7_code) := rfl
theorem dm_X5_make_0 : mj_dec prog_7_method_7_code 0 = some (.aload_n 1, 1) := by decide +kernel
theorem dm_X5_make_1 : mj_dec prog_7_method_7_code 1 = some (.getfield 50, 3) := by decide +kernel
theorem dm_X5_make_4 : mj_dec prog_7_method_7_code 4 = some (.bipush 7, 2) := by decide +kernel
theorem dm_X5_make_6 : mj_dec prog_7_method_7_code 6 = some (.if_icmp .eq 29, 3) := by decide +kernel
theorem dm_X5_make_9 : mj_dec prog_7_method_7_code 9 = some (.aload_n 2, 1) := by decide +kernel
theorem dm_X5_make_10 : mj_dec prog_7_method_7_code 10 = some (.getfield 50, 3) := by decide +kernel
theorem dm_X5_make_13 : mj_dec prog_7_method_7_code 13 = some (.bipush 7, 2) := by decide +kernel
theorem dm_X5_make_15 : mj_dec prog_7_method_7_code 15 = some (.if_icmp .eq 20, 3) := by decide +kernel
theorem dm_X5_make_18 : mj_dec prog_7_method_7_code 18 = some (.aload_n 0, 1) := by decide +kernel
theorem dm_X5_make_19 : mj_dec prog_7_method_7_code 19 = some (.aload_n 1, 1) := by decide +kernel
theorem dm_X5_make_20 : mj_dec prog_7_method_7_code 20 = some (.invokevirtual 79, 3) := by decide +kernel
theorem dm_X5_make_23 : mj_dec prog_7_method_7_code 23 = some (.ifCond .eq 7, 3) := by decide +kernel
theorem dm_X5_make_26 : mj_dec prog_7_method_7_code 26 = some (.aload_n 2, 1) := by decide +kernel
theorem dm_X5_make_27 : mj_dec prog_7_method_7_code 27 = some (.goto 4, 3) := by decide +kernel
theorem dm_X5_make_30 : mj_dec prog_7_method_7_code 30 = some (.aload_n 1, 1) := by decide +kernel
theorem dm_X5_make_31 : mj_dec prog_7_method_7_code 31 = some (.invokevirtual 106, 3) := by decide +kernel
theorem dm_X5_make_34 : mj_dec prog_7_method_7_code 34 = some (.areturn, 1) := by decide +kernel
theorem dm_X5_make_35 : mj_dec prog_7_method_7_code 35 = some (.aload_n 1, 1) := by decide +kernel
theorem dm_X5_make_36 : mj_dec prog_7_method_7_code 36 = some (.getfield 50, 3) := by decide +kernel
theorem dm_X5_make_39 : mj_dec prog_7_method_7_code 39 = some (.bipush 7, 2) := by decide +kernel
theorem dm_X5_make_41 : mj_dec prog_7_method_7_code 41 = some (.if_icmp .ne 10, 3) := by decide +kernel
theorem dm_X5_make_44 : mj_dec prog_7_method_7_code 44 = some (.aload_n 1, 1) := by decide +kernel
theorem dm_X5_make_45 : mj_dec prog_7_method_7_code 45 = some (.getfield 59, 3) := by decide +kernel
theorem dm_X5_make_48 : mj_dec prog_7_method_7_code 48 = some (.goto 7, 3) := by decide +kernel
theorem dm_X5_make_51 : mj_dec prog_7_method_7_code 51 = some (.aload_n 2, 1) := by decide +kernel
theorem dm_X5_make_52 : mj_dec prog_7_method_7_code 52 = some (.getfield 59, 3) := by decide +kernel
theorem dm_X5_make_55 : mj_dec prog_7_method_7_code 55 = some (.istore_n 3, 1) := by decide +kernel
theorem dm_X5_make_56 : mj_dec prog_7_method_7_code 56 = some (.aload_n 0, 1) := by decide +kernel
theorem dm_X5_make_57 : mj_dec prog_7_method_7_code 57 = some (.getfield 47, 3) := by decide +kernel
theorem dm_X5_make_60 : mj_dec prog_7_method_7_code 60 = some (.istore 4, 2) := by decide +kernel
theorem dm_X5_make_62 : mj_dec prog_7_method_7_code 62 = some (.aload_n 0, 1) := by decide +kernel
theorem dm_X5_make_63 : mj_dec prog_7_method_7_code 63 = some (.dup, 1) := by decide +kernel
theorem dm_X5_make_64 : mj_dec prog_7_method_7_code 64 = some (.getfield 47, 3) := by decide +kernel
theorem dm_X5_make_67 : mj_dec prog_7_method_7_code 67 = some (.iload_n 3, 1) := by decide +kernel
theorem dm_X5_make_68 : mj_dec prog_7_method_7_code 68 = some (.iadd, 1) := by decide +kernel
theorem dm_X5_make_69 : mj_dec prog_7_method_7_code 69 = some (.putfield 47, 3) := by decide +kernel
theorem dm_X5_make_72 : mj_dec prog_7_method_7_code 72 = some (.iconst 0, 1) := by decide +kernel
theorem dm_X5_make_73 : mj_dec prog_7_method_7_code 73 = some (.istore 5, 2) := by decide +kernel
theorem dm_X5_make_75 : mj_dec prog_7_method_7_code 75 = some (.iload 5, 2) := by decide +kernel
theorem dm_X5_make_77 : mj_dec prog_7_method_7_code 77 = some (.iload_n 3, 1) := by decide +kernel
theorem dm_X5_make_78 : mj_dec prog_7_method_7_code 78 = some (.if_icmp .ge 59, 3) := by decide +kernel
theorem dm_X5_make_137 : mj_dec prog_7_method_7_code 137 = some (.aload_n 0, 1) := by decide +kernel
theorem dm_X5_make_138 : mj_dec prog_7_method_7_code 138 = some (.getfield 102, 3) := by decide +kernel
theorem dm_X5_make_141 : mj_dec prog_7_method_7_code 141 = some (.iload 4, 2) := by decide +kernel
theorem dm_X5_make_143 : mj_dec prog_7_method_7_code 143 = some (.iload_n 3, 1) := by decide +kernel
theorem dm_X5_make_144 : mj_dec prog_7_method_7_code 144 = some (.invokestatic 114, 3) := by decide +kernel
theorem dm_X5_make_147 : mj_dec prog_7_method_7_code 147 = some (.areturn, 1) := by decide +kernel
theorem p_makeN {xt : mj_X} {A : Nat → Prop} {o nq va vmt ra mr : Nat} {vb sz lv nm vmI : Int} {rw_ : Bool} {N F : Nat → Int64} {f1 : Nat → Value} (hx1 : xt 1 = some (.long, 0, f1)) (hoq : (o = 23 ∧ nq = 24) ∨ (o = 27 ∧ nq = 28)) (hvb : -2147483648 ≤ vb ∧ vb ≤ 2147483647) {d e p q nu vu : Nat} {h : mj_H} {v w : VV} {V : Nat → Option Nat} (hd : 8 ≤ d) (hvt : vmt = 0) :  127 ≤ h.length → okA A h → cv A h (e + 1) p v → cv A h (e + 1) q w → e ≤ 19 → h[o]? = some (PO vb 0 nq sz lv nm vmI rw_ (.ref ra) .null ((nu : Nat) : Int) ((vu : Nat) : Int)) → h[nq]? = some (cJ 1000 N) → rowAt A h ra mr F → paF vb (e + 1) v w = 0 → paN vb N (e + 1) v w nu → nu + paC (e + 1) v w ≤ 999 → (paR (e + 1) v w = true → nu + paC (e + 1) v w ≤ mr ∧ ∀ j, j < mr → F j = N j) → vu + paM (e + 1) v w ≤ vmt → paS (e + 1) v w ≤ 1000 → pgV xt d 104 [.ref o, .ref p, .ref q] h (mkR A h o nq o vmt False .null vb sz lv nm vmI rw_ ra nu vu V (e + 1) v w) := by
  intro hl hA hv hw he ho hnq hrow hF hN hc hR hM hS
  obtain ⟨row, fr, vals_, hp, hp2, hpA, hvk, hvm, hvc, hvs, hvl⟩ := cv_val hv
  obtain ⟨row2, fr2, vals2, hq, hq2, hqA, hwk, hwm, hwc, hws, hwl⟩ := cv_val hw
  have hpb := hA p hpA
  have hqb := hA q hqA
  have hnA : ¬ A o := nA hA (Or.inl (by omega))
  refine x_enter pm_X5_make (L0 := [(0, .ref o), (1, .ref p), (2, .ref q)]) rfl (Nat.le_of_ble_eq_true rfl) (by omega) ?_
  have cut35 : (¬ pflat v w) → pgE xt (d - 1) 5 7 false (Option.some (Jvm.ClassFile.FieldType.object "ArrayCalculator$Value")) (mj_dec prog_7_method_7_code) 35 [(0, .ref o), (1, .ref p), (2, .ref q)] [] h (fun r h' => ∃ x, r = some x ∧ mkR A h o nq o vmt False .null vb sz lv nm vmI rw_ ra nu vu V (e + 1) v w x h') := by
    intro hnf
    have hn7 : vk v = 7 ∨ vk w = 7 := by by_cases z : vk v = 7; exact Or.inl z; by_cases y : vk w = 7; exact Or.inr y; exact absurd ⟨z, y⟩ hnf
    rw [paF_s, if_neg hnf] at hF
    have hmm : ¬ (vk v = 7 ∧ vk w = 7 ∧ vm v ≠ vm w) := fun z => by rw [if_pos z] at hF; omega
    rw [if_neg hmm] at hF
    have hpn : (vk v = 7 → vm v = pnN v w) ∧ (vk w = 7 → vm w = pnN v w) := by rw [pnN_e hmm]; by_cases z : vk v = 7; (rw [if_pos z]; exact ⟨fun _ => rfl, fun _ => by omega⟩); (rw [if_neg z]; exact ⟨fun y => absurd y z, fun _ => rfl⟩)
    have hpn2 : pnN v w ≤ 24 := by have h9 := hv.1.2.2.2.2.1; have h8 := hw.1.2.2.2.2.1; by_cases z : vk v = 7; (have := h9 z; have := hpn.1 z; omega); (have y : vk w = 7 := (by omega); have := h8 y; have := hpn.2 y; omega)
    have hM9 := hM
    rw [paM_s, if_neg hnf] at hM9
    refine me1 (pc' := 36) (L' := [(0, .ref o), (1, .ref p), (2, .ref q)]) (S' := [.ref p]) dm_X5_make_35 rfl rfl rfl rfl ?_
    refine me3 (pc' := 39) (S' := [ii (vk v : Int)]) dm_X5_make_36 (g_get (v := ii (vk v : Int)) hp rfl rfl (by omega)) rfl rfl rfl ?_
    refine me0 (pc' := 41) (S' := [ii 7, ii (vk v : Int)]) dm_X5_make_39 rfl rfl rfl rfl ?_
    refine y_2ne (a := (vk v : Int)) (b := 7) (t := 51) (pc' := 44) dm_X5_make_41 rfl rfl (by omega) (fun hb1 => ?_) (fun hb1 => ?_)
    · refine me1 (pc' := 52) (L' := [(0, .ref o), (1, .ref p), (2, .ref q)]) (S' := [.ref q]) dm_X5_make_51 rfl rfl rfl rfl ?_
      refine me3 (pc' := 55) (S' := [ii (vm w : Int)]) dm_X5_make_52 (g_get (v := ii (vm w : Int)) hq rfl rfl (by omega)) rfl rfl rfl ?_
      refine pg_st0 (S' := [ii ((pnN v w : Nat) : Int)]) (congrArg (fun z => ii z :: []) (by rw [pnN_e (by omega)]; first | rw [if_pos (by omega)] | rw [if_neg (by omega)])) ?_
      refine me1 (pc' := 56) (L' := [(3, ii ((pnN v w : Nat) : Int)), (0, .ref o), (1, .ref p), (2, .ref q)]) (S' := []) dm_X5_make_55 rfl rfl rfl rfl ?_
      refine me1 (pc' := 57) (L' := [(3, ii ((pnN v w : Nat) : Int)), (0, .ref o), (1, .ref p), (2, .ref q)]) (S' := [.ref o]) dm_X5_make_56 rfl rfl rfl rfl ?_
      refine me3 (pc' := 60) (S' := [ii ((vu : Nat) : Int)]) dm_X5_make_57 (g_get (v := ii ((vu : Nat) : Int)) ho rfl rfl (by omega)) rfl rfl rfl ?_
      refine me1 (pc' := 62) (L' := [(4, ii ((vu : Nat) : Int)), (3, ii ((pnN v w : Nat) : Int)), (0, .ref o), (1, .ref p), (2, .ref q)]) (S' := []) dm_X5_make_60 rfl rfl rfl rfl ?_
      refine me1 (pc' := 63) (L' := [(4, ii ((vu : Nat) : Int)), (3, ii ((pnN v w : Nat) : Int)), (0, .ref o), (1, .ref p), (2, .ref q)]) (S' := [.ref o]) dm_X5_make_62 rfl rfl rfl rfl ?_
      refine me0 (pc' := 64) (S' := [.ref o, .ref o]) dm_X5_make_63 rfl rfl rfl rfl ?_
      refine me3 (pc' := 67) (S' := [ii ((vu : Nat) : Int), .ref o]) dm_X5_make_64 (g_get (v := ii ((vu : Nat) : Int)) ho rfl rfl (by omega)) rfl rfl rfl ?_
      refine me1 (pc' := 68) (L' := [(4, ii ((vu : Nat) : Int)), (3, ii ((pnN v w : Nat) : Int)), (0, .ref o), (1, .ref p), (2, .ref q)]) (S' := [ii ((pnN v w : Nat) : Int), ii ((vu : Nat) : Int), .ref o]) dm_X5_make_67 rfl rfl rfl rfl ?_
      refine y_iadd (a := ((vu : Nat) : Int)) (b := ((pnN v w : Nat) : Int)) dm_X5_make_68 (pc' := 69) rfl ?_
      refine me3 (pc' := 72) (S' := []) (h1 := (h).set o (cO 5 [ii vb, ii 0, .ref nq, ii sz, ii lv, ii nm, ii vmI, zz rw_, .ref ra, .null, ii ((nu : Nat) : Int), ii (((vu : Nat) : Int) + ((pnN v w : Nat) : Int))])) dm_X5_make_69 (g_put (fs' := [ii vb, ii 0, .ref nq, ii sz, ii lv, ii nm, ii vmI, zz rw_, .ref ra, .null, ii ((nu : Nat) : Int), ii (((vu : Nat) : Int) + ((pnN v w : Nat) : Int))]) ho rfl rfl rfl (by simp) rfl (by decide) (fun z => by cases z) (by omega)) rfl rfl rfl ?_
      refine me0 (pc' := 73) (S' := [ii 0]) dm_X5_make_72 rfl rfl rfl rfl ?_
      refine me1 (pc' := 75) (L' := [(5, ii 0), (4, ii ((vu : Nat) : Int)), (3, ii ((pnN v w : Nat) : Int)), (0, .ref o), (1, .ref p), (2, .ref q)]) (S' := []) dm_X5_make_73 rfl rfl rfl rfl ?_
      have lp75 : ∀ (n75 : Nat) (k : Nat), pnN v w - k = n75 → (k ≤ pnN v w) → pgE xt (d - 1) 5 7 false (Option.some (Jvm.ClassFile.FieldType.object "ArrayCalculator$Value")) (mj_dec prog_7_method_7_code) 75 [(0, .ref o), (1, .ref p), (2, .ref q), (3, ii ((pnN v w : Nat) : Int)), (4, ii ((vu : Nat) : Int)), (5, ii ((k : Nat) : Int))] [] ((h).set o (cO 5 [ii vb, ii 0, .ref nq, ii sz, ii lv, ii nm, ii vmI, zz rw_, .ref ra, .null, ii ((nu : Nat) : Int), ii (((vu : Nat) : Int) + ((pnN v w : Nat) : Int))])) (fun r h' => ∃ x, r = some x ∧ mkR A h o nq o vmt False .null vb sz lv nm vmI rw_ ra nu vu V (e + 1) v w x h') := by
        intro n75
        induction n75 using Nat.strongRecOn with
        | ind n75 ih75 =>
          intro k hm75 hk
          refine me1 (pc' := 77) (L' := [(0, .ref o), (1, .ref p), (2, .ref q), (3, ii ((pnN v w : Nat) : Int)), (4, ii ((vu : Nat) : Int)), (5, ii ((k : Nat) : Int))]) (S' := [ii ((k : Nat) : Int)]) dm_X5_make_75 rfl rfl rfl rfl ?_
          refine me1 (pc' := 78) (L' := [(0, .ref o), (1, .ref p), (2, .ref q), (3, ii ((pnN v w : Nat) : Int)), (4, ii ((vu : Nat) : Int)), (5, ii ((k : Nat) : Int))]) (S' := [ii ((pnN v w : Nat) : Int), ii ((k : Nat) : Int)]) dm_X5_make_77 rfl rfl rfl rfl ?_
          refine y_2ge (a := ((k : Nat) : Int)) (b := ((pnN v w : Nat) : Int)) (t := 137) (pc' := 81) dm_X5_make_78 rfl rfl (by omega) (fun hb2 => ?_) (fun hb2 => ?_)
          · refine me1 (pc' := 138) (L' := [(0, .ref o), (1, .ref p), (2, .ref q), (3, ii ((pnN v w : Nat) : Int)), (4, ii ((vu : Nat) : Int)), (5, ii ((k : Nat) : Int))]) (S' := [.ref o]) dm_X5_make_137 rfl rfl rfl rfl ?_
            refine me3 (pc' := 141) (S' := [.null]) dm_X5_make_138 (g_get (v := .null) (hl_set (hl_lt ho)) rfl rfl (by omega)) rfl rfl rfl ?_
            refine me1 (pc' := 143) (L' := [(0, .ref o), (1, .ref p), (2, .ref q), (3, ii ((pnN v w : Nat) : Int)), (4, ii ((vu : Nat) : Int)), (5, ii ((k : Nat) : Int))]) (S' := [ii ((vu : Nat) : Int), .null]) dm_X5_make_141 rfl rfl rfl rfl ?_
            refine me1 (pc' := 144) (L' := [(0, .ref o), (1, .ref p), (2, .ref q), (3, ii ((pnN v w : Nat) : Int)), (4, ii ((vu : Nat) : Int)), (5, ii ((k : Nat) : Int))]) (S' := [ii ((pnN v w : Nat) : Int), ii ((vu : Nat) : Int), .null]) dm_X5_make_143 rfl rfl rfl rfl ?_
            have hpn0 : pnN v w = 0 := by omega
            refine x_cv (pc' := 147) (rest := []) dm_X5_make_144 rfl (g_invs (As := [.null, ii ((vu : Nat) : Int), ii ((pnN v w : Nat) : Int)]) (S := []) rfl rfl rfl) rfl rfl rfl ((show pgV xt (d - 1) _ [.null, ii ((vu : Nat) : Int), ii ((pnN v w : Nat) : Int)] _ (fun x h' => x = .ref h.length ∧ h' = ((h).set o (cO 5 [ii vb, ii 0, .ref nq, ii sz, ii lv, ii nm, ii vmI, zz rw_, .ref ra, .null, ii ((nu : Nat) : Int), ii (((vu : Nat) : Int) + ((pnN v w : Nat) : Int))])) ++ [cNest .null ((vu : Nat) : Int) 0 1 1]) by rw [show ((pnN v w : Nat) : Int) = 0 by omega]; exact c_nestAt0 (fr := vu) (by omega) (by rw [List.length_set]; omega) (by rw [List.length_set]) (by omega))) ?_
            rintro _ _ ⟨rfl, rfl⟩
            refine y_ret (r := some (.ref h.length)) dm_X5_make_147 rfl rfl rfl ?_
            have hpn0 : pnN v w = 0 := by omega
            refine ⟨_, rfl, h.length, V, _, rfl, ?_, ?_, fun z => z.elim, fun _ _ => rfl, hl_newa (by rw [List.length_set]), Nat.le_refl _, ?_⟩
            · rw [paK_s, if_neg hnf]
              exact mkS_up (mkS_app (mkS_set (e' := PO vb 0 nq sz lv nm vmI rw_ (.ref ra) .null ((nu : Nat) : Int) (((vu : Nat) : Int) + ((pnN v w : Nat) : Int))) (mkS_rf o o h) (Or.inl rfl) (hl_lt ho) ho rfl)) (by omega) (by show 0 + 9 ≤ _; omega)
            · rw [paC_s, paM_s, if_neg hnf, if_neg hnf]
              have e0 : ∀ f : Nat → Nat, sumN (pnN v w) f = 0 := fun f => by rw [hpn0]; rfl
              have e1 : ((vu + (pnN v w + sumN (pnN v w) (fun k => paM e (pat v k) (pat w k))) : Nat) : Int) = ((vu : Nat) : Int) + ((pnN v w : Nat) : Int) := by rw [e0]; push_cast; omega
              have e2 : ((nu + sumN (pnN v w) (fun k => paC e (pat v k) (pat w k)) : Nat) : Int) = ((nu : Nat) : Int) := by rw [e0]; push_cast; omega
              rw [e1, e2]
              exact hl_app (hl_set (hl_lt ho))
            · have hvn : vnest (pnN v w) (fun k => paV vb e (pat v k) (pat w k)) = vnest 0 (fun k => paV vb e (pat v k) (pat w k)) := by rw [hpn0]
              rw [paV_s, if_neg hnf, hvn]
              intro A9 hf VF k1 _ _
              obtain ⟨z1, z2⟩ := k1 h.length _ (Or.inr ⟨Nat.le_refl _, by rw [List.length_append, List.length_set]; exact Nat.lt_succ_self _⟩) (hl_newa (by rw [List.length_set]))
              exact cv_nest0 (fr := vu) (by omega) z1 z2 (by omega)
          · exfalso; omega
      exact pg_sub (L := [(0, .ref o), (1, .ref p), (2, .ref q), (3, ii ((pnN v w : Nat) : Int)), (4, ii ((vu : Nat) : Int)), (5, ii ((0 : Nat) : Int))]) rfl rfl rfl (lp75 _ 0 rfl (Nat.zero_le _))
    · refine me1 (pc' := 45) (L' := [(0, .ref o), (1, .ref p), (2, .ref q)]) (S' := [.ref p]) dm_X5_make_44 rfl rfl rfl rfl ?_
      refine me3 (pc' := 48) (S' := [ii (vm v : Int)]) dm_X5_make_45 (g_get (v := ii (vm v : Int)) hp rfl rfl (by omega)) rfl rfl rfl ?_
      refine me2 (pc' := 55) (S' := [ii (vm v : Int)]) dm_X5_make_48 rfl rfl rfl ?_
      refine pg_st0 (S' := [ii ((pnN v w : Nat) : Int)]) (congrArg (fun z => ii z :: []) (by rw [pnN_e (by omega)]; first | rw [if_pos (by omega)] | rw [if_neg (by omega)])) ?_
      refine me1 (pc' := 56) (L' := [(3, ii ((pnN v w : Nat) : Int)), (0, .ref o), (1, .ref p), (2, .ref q)]) (S' := []) dm_X5_make_55 rfl rfl rfl rfl ?_
      refine me1 (pc' := 57) (L' := [(3, ii ((pnN v w : Nat) : Int)), (0, .ref o), (1, .ref p), (2, .ref q)]) (S' := [.ref o]) dm_X5_make_56 rfl rfl rfl rfl ?_
      refine me3 (pc' := 60) (S' := [ii ((vu : Nat) : Int)]) dm_X5_make_57 (g_get (v := ii ((vu : Nat) : Int)) ho rfl rfl (by omega)) rfl rfl rfl ?_
      refine me1 (pc' := 62) (L' := [(4, ii ((vu : Nat) : Int)), (3, ii ((pnN v w : Nat) : Int)), (0, .ref o), (1, .ref p), (2, .ref q)]) (S' := []) dm_X5_make_60 rfl rfl rfl rfl ?_
      refine me1 (pc' := 63) (L' := [(4, ii ((vu : Nat) : Int)), (3, ii ((pnN v w : Nat) : Int)), (0, .ref o), (1, .ref p), (2, .ref q)]) (S' := [.ref o]) dm_X5_make_62 rfl rfl rfl rfl ?_
      refine me0 (pc' := 64) (S' := [.ref o, .ref o]) dm_X5_make_63 rfl rfl rfl rfl ?_
      refine me3 (pc' := 67) (S' := [ii ((vu : Nat) : Int), .ref o]) dm_X5_make_64 (g_get (v := ii ((vu : Nat) : Int)) ho rfl rfl (by omega)) rfl rfl rfl ?_
      refine me1 (pc' := 68) (L' := [(4, ii ((vu : Nat) : Int)), (3, ii ((pnN v w : Nat) : Int)), (0, .ref o), (1, .ref p), (2, .ref q)]) (S' := [ii ((pnN v w : Nat) : Int), ii ((vu : Nat) : Int), .ref o]) dm_X5_make_67 rfl rfl rfl rfl ?_
      refine y_iadd (a := ((vu : Nat) : Int)) (b := ((pnN v w : Nat) : Int)) dm_X5_make_68 (pc' := 69) rfl ?_
      refine me3 (pc' := 72) (S' := []) (h1 := (h).set o (cO 5 [ii vb, ii 0, .ref nq, ii sz, ii lv, ii nm, ii vmI, zz rw_, .ref ra, .null, ii ((nu : Nat) : Int), ii (((vu : Nat) : Int) + ((pnN v w : Nat) : Int))])) dm_X5_make_69 (g_put (fs' := [ii vb, ii 0, .ref nq, ii sz, ii lv, ii nm, ii vmI, zz rw_, .ref ra, .null, ii ((nu : Nat) : Int), ii (((vu : Nat) : Int) + ((pnN v w : Nat) : Int))]) ho rfl rfl rfl (by simp) rfl (by decide) (fun z => by cases z) (by omega)) rfl rfl rfl ?_
      refine me0 (pc' := 73) (S' := [ii 0]) dm_X5_make_72 rfl rfl rfl rfl ?_
      refine me1 (pc' := 75) (L' := [(5, ii 0), (4, ii ((vu : Nat) : Int)), (3, ii ((pnN v w : Nat) : Int)), (0, .ref o), (1, .ref p), (2, .ref q)]) (S' := []) dm_X5_make_73 rfl rfl rfl rfl ?_
      have lp75 : ∀ (n75 : Nat) (k : Nat), pnN v w - k = n75 → (k ≤ pnN v w) → pgE xt (d - 1) 5 7 false (Option.some (Jvm.ClassFile.FieldType.object "ArrayCalculator$Value")) (mj_dec prog_7_method_7_code) 75 [(0, .ref o), (1, .ref p), (2, .ref q), (3, ii ((pnN v w : Nat) : Int)), (4, ii ((vu : Nat) : Int)), (5, ii ((k : Nat) : Int))] [] ((h).set o (cO 5 [ii vb, ii 0, .ref nq, ii sz, ii lv, ii nm, ii vmI, zz rw_, .ref ra, .null, ii ((nu : Nat) : Int), ii (((vu : Nat) : Int) + ((pnN v w : Nat) : Int))])) (fun r h' => ∃ x, r = some x ∧ mkR A h o nq o vmt False .null vb sz lv nm vmI rw_ ra nu vu V (e + 1) v w x h') := by
        intro n75
        induction n75 using Nat.strongRecOn with
        | ind n75 ih75 =>
          intro k hm75 hk
          refine me1 (pc' := 77) (L' := [(0, .ref o), (1, .ref p), (2, .ref q), (3, ii ((pnN v w : Nat) : Int)), (4, ii ((vu : Nat) : Int)), (5, ii ((k : Nat) : Int))]) (S' := [ii ((k : Nat) : Int)]) dm_X5_make_75 rfl rfl rfl rfl ?_
          refine me1 (pc' := 78) (L' := [(0, .ref o), (1, .ref p), (2, .ref q), (3, ii ((pnN v w : Nat) : Int)), (4, ii ((vu : Nat) : Int)), (5, ii ((k : Nat) : Int))]) (S' := [ii ((pnN v w : Nat) : Int), ii ((k : Nat) : Int)]) dm_X5_make_77 rfl rfl rfl rfl ?_
          refine y_2ge (a := ((k : Nat) : Int)) (b := ((pnN v w : Nat) : Int)) (t := 137) (pc' := 81) dm_X5_make_78 rfl rfl (by omega) (fun hb3 => ?_) (fun hb3 => ?_)
          · refine me1 (pc' := 138) (L' := [(0, .ref o), (1, .ref p), (2, .ref q), (3, ii ((pnN v w : Nat) : Int)), (4, ii ((vu : Nat) : Int)), (5, ii ((k : Nat) : Int))]) (S' := [.ref o]) dm_X5_make_137 rfl rfl rfl rfl ?_
            refine me3 (pc' := 141) (S' := [.null]) dm_X5_make_138 (g_get (v := .null) (hl_set (hl_lt ho)) rfl rfl (by omega)) rfl rfl rfl ?_
            refine me1 (pc' := 143) (L' := [(0, .ref o), (1, .ref p), (2, .ref q), (3, ii ((pnN v w : Nat) : Int)), (4, ii ((vu : Nat) : Int)), (5, ii ((k : Nat) : Int))]) (S' := [ii ((vu : Nat) : Int), .null]) dm_X5_make_141 rfl rfl rfl rfl ?_
            refine me1 (pc' := 144) (L' := [(0, .ref o), (1, .ref p), (2, .ref q), (3, ii ((pnN v w : Nat) : Int)), (4, ii ((vu : Nat) : Int)), (5, ii ((k : Nat) : Int))]) (S' := [ii ((pnN v w : Nat) : Int), ii ((vu : Nat) : Int), .null]) dm_X5_make_143 rfl rfl rfl rfl ?_
            have hpn0 : pnN v w = 0 := by omega
            refine x_cv (pc' := 147) (rest := []) dm_X5_make_144 rfl (g_invs (As := [.null, ii ((vu : Nat) : Int), ii ((pnN v w : Nat) : Int)]) (S := []) rfl rfl rfl) rfl rfl rfl ((show pgV xt (d - 1) _ [.null, ii ((vu : Nat) : Int), ii ((pnN v w : Nat) : Int)] _ (fun x h' => x = .ref h.length ∧ h' = ((h).set o (cO 5 [ii vb, ii 0, .ref nq, ii sz, ii lv, ii nm, ii vmI, zz rw_, .ref ra, .null, ii ((nu : Nat) : Int), ii (((vu : Nat) : Int) + ((pnN v w : Nat) : Int))])) ++ [cNest .null ((vu : Nat) : Int) 0 1 1]) by rw [show ((pnN v w : Nat) : Int) = 0 by omega]; exact c_nestAt0 (fr := vu) (by omega) (by rw [List.length_set]; omega) (by rw [List.length_set]) (by omega))) ?_
            rintro _ _ ⟨rfl, rfl⟩
            refine y_ret (r := some (.ref h.length)) dm_X5_make_147 rfl rfl rfl ?_
            have hpn0 : pnN v w = 0 := by omega
            refine ⟨_, rfl, h.length, V, _, rfl, ?_, ?_, fun z => z.elim, fun _ _ => rfl, hl_newa (by rw [List.length_set]), Nat.le_refl _, ?_⟩
            · rw [paK_s, if_neg hnf]
              exact mkS_up (mkS_app (mkS_set (e' := PO vb 0 nq sz lv nm vmI rw_ (.ref ra) .null ((nu : Nat) : Int) (((vu : Nat) : Int) + ((pnN v w : Nat) : Int))) (mkS_rf o o h) (Or.inl rfl) (hl_lt ho) ho rfl)) (by omega) (by show 0 + 9 ≤ _; omega)
            · rw [paC_s, paM_s, if_neg hnf, if_neg hnf]
              have e0 : ∀ f : Nat → Nat, sumN (pnN v w) f = 0 := fun f => by rw [hpn0]; rfl
              have e1 : ((vu + (pnN v w + sumN (pnN v w) (fun k => paM e (pat v k) (pat w k))) : Nat) : Int) = ((vu : Nat) : Int) + ((pnN v w : Nat) : Int) := by rw [e0]; push_cast; omega
              have e2 : ((nu + sumN (pnN v w) (fun k => paC e (pat v k) (pat w k)) : Nat) : Int) = ((nu : Nat) : Int) := by rw [e0]; push_cast; omega
              rw [e1, e2]
              exact hl_app (hl_set (hl_lt ho))
            · have hvn : vnest (pnN v w) (fun k => paV vb e (pat v k) (pat w k)) = vnest 0 (fun k => paV vb e (pat v k) (pat w k)) := by rw [hpn0]
              rw [paV_s, if_neg hnf, hvn]
              intro A9 hf VF k1 _ _
              obtain ⟨z1, z2⟩ := k1 h.length _ (Or.inr ⟨Nat.le_refl _, by rw [List.length_append, List.length_set]; exact Nat.lt_succ_self _⟩) (hl_newa (by rw [List.length_set]))
              exact cv_nest0 (fr := vu) (by omega) z1 z2 (by omega)
          · exfalso; omega
      exact pg_sub (L := [(0, .ref o), (1, .ref p), (2, .ref q), (3, ii ((pnN v w : Nat) : Int)), (4, ii ((vu : Nat) : Int)), (5, ii ((0 : Nat) : Int))]) rfl rfl rfl (lp75 _ 0 rfl (Nat.zero_le _))
  refine me1 (pc' := 1) (L' := [(0, .ref o), (1, .ref p), (2, .ref q)]) (S' := [.ref p]) dm_X5_make_0 rfl rfl rfl rfl ?_
  refine me3 (pc' := 4) (S' := [ii (vk v : Int)]) dm_X5_make_1 (g_get (v := ii (vk v : Int)) hp rfl rfl (by omega)) rfl rfl rfl ?_
  refine me0 (pc' := 6) (S' := [ii 7, ii (vk v : Int)]) dm_X5_make_4 rfl rfl rfl rfl ?_
  refine y_2eq (a := (vk v : Int)) (b := 7) (t := 35) (pc' := 9) dm_X5_make_6 rfl rfl (by omega) (fun hb4 => ?_) (fun hb4 => ?_)
  · exact pg_sub (L := [(0, .ref o), (1, .ref p), (2, .ref q)]) rfl rfl rfl (cut35 (fun z => by have z1 := z.1; have z2 := z.2; omega))
  · refine me1 (pc' := 10) (L' := [(0, .ref o), (1, .ref p), (2, .ref q)]) (S' := [.ref q]) dm_X5_make_9 rfl rfl rfl rfl ?_
    refine me3 (pc' := 13) (S' := [ii (vk w : Int)]) dm_X5_make_10 (g_get (v := ii (vk w : Int)) hq rfl rfl (by omega)) rfl rfl rfl ?_
    refine me0 (pc' := 15) (S' := [ii 7, ii (vk w : Int)]) dm_X5_make_13 rfl rfl rfl rfl ?_
    refine y_2eq (a := (vk w : Int)) (b := 7) (t := 35) (pc' := 18) dm_X5_make_15 rfl rfl (by omega) (fun hb5 => ?_) (fun hb5 => ?_)
    · exact pg_sub (L := [(0, .ref o), (1, .ref p), (2, .ref q)]) rfl rfl rfl (cut35 (fun z => by have z1 := z.1; have z2 := z.2; omega))
    · refine me1 (pc' := 19) (L' := [(0, .ref o), (1, .ref p), (2, .ref q)]) (S' := [.ref o]) dm_X5_make_18 rfl rfl rfl rfl ?_
      refine me1 (pc' := 20) (L' := [(0, .ref o), (1, .ref p), (2, .ref q)]) (S' := [.ref p, .ref o]) dm_X5_make_19 rfl rfl rfl rfl ?_
      refine x_cp (pc' := 23) (v := zz (decide (vk v ≤ 1))) (rest := [.ref o]) dm_X5_make_20 rfl (g_inv (As := []) (S := [.ref o]) hp rfl rfl rfl (by omega)) rfl rfl rfl (c_isOne (by omega) hv) ?_
      refine y_zeq (c := decide (vk v ≤ 1)) (t := 30) (pc' := 26) dm_X5_make_23 rfl rfl (fun hb6 => ?_) (fun hb6 => ?_)
      · replace hb6 := dF hb6
        refine me1 (pc' := 31) (L' := [(0, .ref o), (1, .ref p), (2, .ref q)]) (S' := [.ref p, .ref o]) dm_X5_make_30 rfl rfl rfl rfl ?_
        have hpf : pflat v w := ⟨by omega, by omega⟩
        have hlk : lkV v w = v := if_neg (by omega)
        have hc9 := hc
        rw [paC_s, if_pos hpf, hlk] at hc9
        have hR9 := hR
        rw [paC_s, paR_s, if_pos hpf, if_pos hpf, hlk] at hR9
        refine x_cv (pc' := 34) (rest := []) dm_X5_make_31 rfl (g_inv (As := [.ref p]) (S := []) ho rfl rfl rfl (by omega)) rfl rfl rfl (p_makeFlat (v := v) hx1 (by omega) hl hA hoq hvb hv (by omega) ho hnq hrow hc9 (fun z1 z2 => (hR9 (decide_eq_true ⟨z2, by omega⟩)).1)) ?_
        rintro _ _ ⟨rfl, rfl⟩
        refine y_ret (r := some (.ref h.length)) dm_X5_make_34 rfl rfl rfl ?_
        have hz9 := mkR_flat (va := o) (vmt := vmt) (arr := False) (V := V) hA hl (by omega) (fun z => z.elim) ho (fun z => z.elim) hv.1 hw.1 hpf hrow hF hN hc hR
        rw [hlk] at hz9
        exact ⟨_, rfl, hz9⟩
      · replace hb6 := dT hb6
        refine me1 (pc' := 27) (L' := [(0, .ref o), (1, .ref p), (2, .ref q)]) (S' := [.ref q, .ref o]) dm_X5_make_26 rfl rfl rfl rfl ?_
        refine me2 (pc' := 31) (S' := [.ref q, .ref o]) dm_X5_make_27 rfl rfl rfl ?_
        have hpf : pflat v w := ⟨by omega, by omega⟩
        have hlk : lkV v w = w := if_pos (by omega)
        have hc9 := hc
        rw [paC_s, if_pos hpf, hlk] at hc9
        have hR9 := hR
        rw [paC_s, paR_s, if_pos hpf, if_pos hpf, hlk] at hR9
        refine x_cv (pc' := 34) (rest := []) dm_X5_make_31 rfl (g_inv (As := [.ref q]) (S := []) ho rfl rfl rfl (by omega)) rfl rfl rfl (p_makeFlat (v := w) hx1 (by omega) hl hA hoq hvb hw (by omega) ho hnq hrow hc9 (fun z1 z2 => (hR9 (decide_eq_true ⟨z2, by omega⟩)).1)) ?_
        rintro _ _ ⟨rfl, rfl⟩
        refine y_ret (r := some (.ref h.length)) dm_X5_make_34 rfl rfl rfl ?_
        have hz9 := mkR_flat (va := o) (vmt := vmt) (arr := False) (V := V) hA hl (by omega) (fun z => z.elim) ho (fun z => z.elim) hv.1 hw.1 hpf hrow hF hN hc hR
        rw [hlk] at hz9
        exact ⟨_, rfl, hz9⟩
theorem dm_X5_make_81 : mj_dec prog_7_method_7_code 81 = some (.aload_n 0, 1) := by decide +kernel
theorem dm_X5_make_82 : mj_dec prog_7_method_7_code 82 = some (.aload_n 1, 1) := by decide +kernel
theorem dm_X5_make_83 : mj_dec prog_7_method_7_code 83 = some (.iload 5, 2) := by decide +kernel
theorem dm_X5_make_85 : mj_dec prog_7_method_7_code 85 = some (.invokevirtual 68, 3) := by decide +kernel
theorem dm_X5_make_88 : mj_dec prog_7_method_7_code 88 = some (.aload_n 2, 1) := by decide +kernel
theorem dm_X5_make_89 : mj_dec prog_7_method_7_code 89 = some (.iload 5, 2) := by decide +kernel
theorem dm_X5_make_91 : mj_dec prog_7_method_7_code 91 = some (.invokevirtual 68, 3) := by decide +kernel
theorem dm_X5_make_94 : mj_dec prog_7_method_7_code 94 = some (.invokevirtual 110, 3) := by decide +kernel
theorem dm_X5_make_97 : mj_dec prog_7_method_7_code 97 = some (.astore 6, 2) := by decide +kernel
theorem dm_X5_make_99 : mj_dec prog_7_method_7_code 99 = some (.aload_n 0, 1) := by decide +kernel
theorem dm_X5_make_100 : mj_dec prog_7_method_7_code 100 = some (.getfield 102, 3) := by decide +kernel
theorem dm_X5_make_103 : mj_dec prog_7_method_7_code 103 = some (.ifnull 28, 3) := by decide +kernel
theorem dm_X5_make_106 : mj_dec prog_7_method_7_code 106 = some (.iload 4, 2) := by decide +kernel
theorem dm_X5_make_108 : mj_dec prog_7_method_7_code 108 = some (.iload 5, 2) := by decide +kernel
theorem dm_X5_make_110 : mj_dec prog_7_method_7_code 110 = some (.iadd, 1) := by decide +kernel
theorem dm_X5_make_111 : mj_dec prog_7_method_7_code 111 = some (.aload_n 0, 1) := by decide +kernel
theorem dm_X5_make_112 : mj_dec prog_7_method_7_code 112 = some (.getfield 102, 3) := by decide +kernel
theorem dm_X5_make_115 : mj_dec prog_7_method_7_code 115 = some (.arraylength, 1) := by decide +kernel
theorem dm_X5_make_116 : mj_dec prog_7_method_7_code 116 = some (.if_icmp .ge 15, 3) := by decide +kernel
theorem dm_X5_make_119 : mj_dec prog_7_method_7_code 119 = some (.aload_n 0, 1) := by decide +kernel
theorem dm_X5_make_120 : mj_dec prog_7_method_7_code 120 = some (.getfield 102, 3) := by decide +kernel
theorem dm_X5_make_123 : mj_dec prog_7_method_7_code 123 = some (.iload 4, 2) := by decide +kernel
theorem dm_X5_make_125 : mj_dec prog_7_method_7_code 125 = some (.iload 5, 2) := by decide +kernel
theorem dm_X5_make_127 : mj_dec prog_7_method_7_code 127 = some (.iadd, 1) := by decide +kernel
theorem dm_X5_make_128 : mj_dec prog_7_method_7_code 128 = some (.aload 6, 2) := by decide +kernel
theorem dm_X5_make_130 : mj_dec prog_7_method_7_code 130 = some (.aastore, 1) := by decide +kernel
theorem dm_X5_make_131 : mj_dec prog_7_method_7_code 131 = some (.iinc 5 1, 3) := by decide +kernel
theorem dm_X5_make_134 : mj_dec prog_7_method_7_code 134 = some (.goto (-59), 3) := by decide +kernel
theorem p_makeA {xt : mj_X} {A : Nat → Prop} {o nq va vmt ra mr : Nat} {vb sz lv nm vmI : Int} {rw_ : Bool} {N F : Nat → Int64} {f1 : Nat → Value} (hx1 : xt 1 = some (.long, 0, f1)) (hoq : (o = 23 ∧ nq = 24) ∨ (o = 27 ∧ nq = 28)) (hvb : -2147483648 ≤ vb ∧ vb ≤ 2147483647) (hvt : vmt ≤ 1000) (hva127 : 127 ≤ va) (hAv : ¬ A va) : ∀ (e : Nat) {d p q nu vu : Nat} {h : mj_H} {v w : VV} {V : Nat → Option Nat}, 8 * e + 8 ≤ d →  127 ≤ h.length → okA A h → cv A h e p v → cv A h e q w → e ≤ 19 → h[o]? = some (PO vb 0 nq sz lv nm vmI rw_ (.ref ra) (.ref va) ((nu : Nat) : Int) ((vu : Nat) : Int)) → h[nq]? = some (cJ 1000 N) → rowAt A h ra mr F → paF vb e v w = 0 → paN vb N e v w nu → nu + paC e v w ≤ 999 → (paR e v w = true → nu + paC e v w ≤ mr ∧ ∀ j, j < mr → F j = N j) → vu + paM e v w ≤ vmt → paS e v w ≤ 1000 → h[va]? = some (cA 4 vmt V) → True → pgV xt d 104 [.ref o, .ref p, .ref q] h (mkR A h o nq va vmt True (.ref va) vb sz lv nm vmI rw_ ra nu vu V e v w) := by
  intro e
  induction e with
  | zero => intro d p q nu vu h v w V _ _ _ hv; exact hv.elim
  | succ e ih =>
    intro d p q nu vu h v w V hd hl hA hv hw he ho hnq hrow hF hN hc hR hM hS hva _
    obtain ⟨row, fr, vals_, hp, hp2, hpA, hvk, hvm, hvc, hvs, hvl⟩ := cv_val hv
    obtain ⟨row2, fr2, vals2, hq, hq2, hqA, hwk, hwm, hwc, hws, hwl⟩ := cv_val hw
    have hpb := hA p hpA
    have hqb := hA q hqA
    have hnA : ¬ A o := nA hA (Or.inl (by omega))
    have hval := hl_lt hva
    have hov : o ≠ va := by omega
    have hpva : p ≠ va := fun z => hAv (z ▸ hpA)
    have hqva : q ≠ va := fun z => hAv (z ▸ hqA)
    refine x_enter pm_X5_make (L0 := [(0, .ref o), (1, .ref p), (2, .ref q)]) rfl (Nat.le_of_ble_eq_true rfl) (by omega) ?_
    have cut35 : (¬ pflat v w) → pgE xt (d - 1) 5 7 false (Option.some (Jvm.ClassFile.FieldType.object "ArrayCalculator$Value")) (mj_dec prog_7_method_7_code) 35 [(0, .ref o), (1, .ref p), (2, .ref q)] [] h (fun r h' => ∃ x, r = some x ∧ mkR A h o nq va vmt True (.ref va) vb sz lv nm vmI rw_ ra nu vu V (e + 1) v w x h') := by
      intro hnf
      have hn7 : vk v = 7 ∨ vk w = 7 := by by_cases z : vk v = 7; exact Or.inl z; by_cases y : vk w = 7; exact Or.inr y; exact absurd ⟨z, y⟩ hnf
      rw [paF_s, if_neg hnf] at hF
      have hmm : ¬ (vk v = 7 ∧ vk w = 7 ∧ vm v ≠ vm w) := fun z => by rw [if_pos z] at hF; omega
      rw [if_neg hmm] at hF
      have hpn : (vk v = 7 → vm v = pnN v w) ∧ (vk w = 7 → vm w = pnN v w) := by rw [pnN_e hmm]; by_cases z : vk v = 7; (rw [if_pos z]; exact ⟨fun _ => rfl, fun _ => by omega⟩); (rw [if_neg z]; exact ⟨fun y => absurd y z, fun _ => rfl⟩)
      have hpn2 : pnN v w ≤ 24 := by have h9 := hv.1.2.2.2.2.1; have h8 := hw.1.2.2.2.2.1; by_cases z : vk v = 7; (have := h9 z; have := hpn.1 z; omega); (have y : vk w = 7 := (by omega); have := h8 y; have := hpn.2 y; omega)
      have hM9 := hM
      rw [paM_s, if_neg hnf] at hM9
      have hN9 := hN
      rw [paN_s, if_neg hnf] at hN9
      have hc9 := hc
      rw [paC_s, if_neg hnf] at hc9
      have hR9 := hR
      rw [paC_s, paR_s, if_neg hnf, if_neg hnf] at hR9
      have hS9 := hS
      rw [paS_s, if_neg hnf] at hS9
      refine me1 (pc' := 36) (L' := [(0, .ref o), (1, .ref p), (2, .ref q)]) (S' := [.ref p]) dm_X5_make_35 rfl rfl rfl rfl ?_
      refine me3 (pc' := 39) (S' := [ii (vk v : Int)]) dm_X5_make_36 (g_get (v := ii (vk v : Int)) hp rfl rfl (by omega)) rfl rfl rfl ?_
      refine me0 (pc' := 41) (S' := [ii 7, ii (vk v : Int)]) dm_X5_make_39 rfl rfl rfl rfl ?_
      refine y_2ne (a := (vk v : Int)) (b := 7) (t := 51) (pc' := 44) dm_X5_make_41 rfl rfl (by omega) (fun hb1 => ?_) (fun hb1 => ?_)
      · refine me1 (pc' := 52) (L' := [(0, .ref o), (1, .ref p), (2, .ref q)]) (S' := [.ref q]) dm_X5_make_51 rfl rfl rfl rfl ?_
        refine me3 (pc' := 55) (S' := [ii (vm w : Int)]) dm_X5_make_52 (g_get (v := ii (vm w : Int)) hq rfl rfl (by omega)) rfl rfl rfl ?_
        refine pg_st0 (S' := [ii ((pnN v w : Nat) : Int)]) (congrArg (fun z => ii z :: []) (by rw [pnN_e (by omega)]; first | rw [if_pos (by omega)] | rw [if_neg (by omega)])) ?_
        refine me1 (pc' := 56) (L' := [(3, ii ((pnN v w : Nat) : Int)), (0, .ref o), (1, .ref p), (2, .ref q)]) (S' := []) dm_X5_make_55 rfl rfl rfl rfl ?_
        refine me1 (pc' := 57) (L' := [(3, ii ((pnN v w : Nat) : Int)), (0, .ref o), (1, .ref p), (2, .ref q)]) (S' := [.ref o]) dm_X5_make_56 rfl rfl rfl rfl ?_
        refine me3 (pc' := 60) (S' := [ii ((vu : Nat) : Int)]) dm_X5_make_57 (g_get (v := ii ((vu : Nat) : Int)) ho rfl rfl (by omega)) rfl rfl rfl ?_
        refine me1 (pc' := 62) (L' := [(4, ii ((vu : Nat) : Int)), (3, ii ((pnN v w : Nat) : Int)), (0, .ref o), (1, .ref p), (2, .ref q)]) (S' := []) dm_X5_make_60 rfl rfl rfl rfl ?_
        refine me1 (pc' := 63) (L' := [(4, ii ((vu : Nat) : Int)), (3, ii ((pnN v w : Nat) : Int)), (0, .ref o), (1, .ref p), (2, .ref q)]) (S' := [.ref o]) dm_X5_make_62 rfl rfl rfl rfl ?_
        refine me0 (pc' := 64) (S' := [.ref o, .ref o]) dm_X5_make_63 rfl rfl rfl rfl ?_
        refine me3 (pc' := 67) (S' := [ii ((vu : Nat) : Int), .ref o]) dm_X5_make_64 (g_get (v := ii ((vu : Nat) : Int)) ho rfl rfl (by omega)) rfl rfl rfl ?_
        refine me1 (pc' := 68) (L' := [(4, ii ((vu : Nat) : Int)), (3, ii ((pnN v w : Nat) : Int)), (0, .ref o), (1, .ref p), (2, .ref q)]) (S' := [ii ((pnN v w : Nat) : Int), ii ((vu : Nat) : Int), .ref o]) dm_X5_make_67 rfl rfl rfl rfl ?_
        refine y_iadd (a := ((vu : Nat) : Int)) (b := ((pnN v w : Nat) : Int)) dm_X5_make_68 (pc' := 69) rfl ?_
        refine me3 (pc' := 72) (S' := []) (h1 := (h).set o (cO 5 [ii vb, ii 0, .ref nq, ii sz, ii lv, ii nm, ii vmI, zz rw_, .ref ra, .ref va, ii ((nu : Nat) : Int), ii (((vu : Nat) : Int) + ((pnN v w : Nat) : Int))])) dm_X5_make_69 (g_put (fs' := [ii vb, ii 0, .ref nq, ii sz, ii lv, ii nm, ii vmI, zz rw_, .ref ra, .ref va, ii ((nu : Nat) : Int), ii (((vu : Nat) : Int) + ((pnN v w : Nat) : Int))]) ho rfl rfl rfl (by simp) rfl (by decide) (fun z => by cases z) (by omega)) rfl rfl rfl ?_
        refine me0 (pc' := 73) (S' := [ii 0]) dm_X5_make_72 rfl rfl rfl rfl ?_
        refine me1 (pc' := 75) (L' := [(5, ii 0), (4, ii ((vu : Nat) : Int)), (3, ii ((pnN v w : Nat) : Int)), (0, .ref o), (1, .ref p), (2, .ref q)]) (S' := []) dm_X5_make_73 rfl rfl rfl rfl ?_
        have lp75 : ∀ (n75 : Nat) (k : Nat) (hh : mj_H) (W : Nat → Option Nat), pnN v w - k = n75 → (k ≤ pnN v w) → (mkL A h o nq va vmt (.ref va) vb sz lv nm vmI rw_ ra nu vu V e v w k hh W) → pgE xt (d - 1) 5 7 false (Option.some (Jvm.ClassFile.FieldType.object "ArrayCalculator$Value")) (mj_dec prog_7_method_7_code) 75 [(0, .ref o), (1, .ref p), (2, .ref q), (3, ii ((pnN v w : Nat) : Int)), (4, ii ((vu : Nat) : Int)), (5, ii ((k : Nat) : Int))] [] hh (fun r h' => ∃ x, r = some x ∧ mkR A h o nq va vmt True (.ref va) vb sz lv nm vmI rw_ ra nu vu V (e + 1) v w x h') := by
          intro n75
          induction n75 using Nat.strongRecOn with
          | ind n75 ih75 =>
            intro k hh W hm75 hk hL
            have hlh := mkS_len hL.1
            have hkeep : ∀ x c, A x → h[x]? = some c → A x ∧ hh[x]? = some c := fun x c hx hg => ⟨hx, mkS_get hL.1 (fun z => hnA (z ▸ hx)) (fun z => hAv (z ▸ hx)) hg⟩
            have hAh : okA A hh := fun x hx => by have := hA x hx; omega
            refine me1 (pc' := 77) (L' := [(0, .ref o), (1, .ref p), (2, .ref q), (3, ii ((pnN v w : Nat) : Int)), (4, ii ((vu : Nat) : Int)), (5, ii ((k : Nat) : Int))]) (S' := [ii ((k : Nat) : Int)]) dm_X5_make_75 rfl rfl rfl rfl ?_
            refine me1 (pc' := 78) (L' := [(0, .ref o), (1, .ref p), (2, .ref q), (3, ii ((pnN v w : Nat) : Int)), (4, ii ((vu : Nat) : Int)), (5, ii ((k : Nat) : Int))]) (S' := [ii ((pnN v w : Nat) : Int), ii ((k : Nat) : Int)]) dm_X5_make_77 rfl rfl rfl rfl ?_
            refine y_2ge (a := ((k : Nat) : Int)) (b := ((pnN v w : Nat) : Int)) (t := 137) (pc' := 81) dm_X5_make_78 rfl rfl (by omega) (fun hb2 => ?_) (fun hb2 => ?_)
            · refine me1 (pc' := 138) (L' := [(0, .ref o), (1, .ref p), (2, .ref q), (3, ii ((pnN v w : Nat) : Int)), (4, ii ((vu : Nat) : Int)), (5, ii ((k : Nat) : Int))]) (S' := [.ref o]) dm_X5_make_137 rfl rfl rfl rfl ?_
              refine me3 (pc' := 141) (S' := [.ref va]) dm_X5_make_138 (g_get (v := .ref va) hL.2.1 rfl rfl (by omega)) rfl rfl rfl ?_
              refine me1 (pc' := 143) (L' := [(0, .ref o), (1, .ref p), (2, .ref q), (3, ii ((pnN v w : Nat) : Int)), (4, ii ((vu : Nat) : Int)), (5, ii ((k : Nat) : Int))]) (S' := [ii ((vu : Nat) : Int), .ref va]) dm_X5_make_141 rfl rfl rfl rfl ?_
              refine me1 (pc' := 144) (L' := [(0, .ref o), (1, .ref p), (2, .ref q), (3, ii ((pnN v w : Nat) : Int)), (4, ii ((vu : Nat) : Int)), (5, ii ((k : Nat) : Int))]) (S' := [ii ((pnN v w : Nat) : Int), ii ((vu : Nat) : Int), .ref va]) dm_X5_make_143 rfl rfl rfl rfl ?_
              have hkn : k = pnN v w := by omega
              rw [hkn] at hL
              have hkid : ∀ k, k < pnN v w → ∃ q, W (vu + k) = some q ∧ cv (fun x => newA A h hh x ∨ x = va) hh e q ((fun k => paV vb e (pat v k) (pat w k)) k) := fun j hj => by obtain ⟨q9, g1, g2⟩ := hL.2.2.2.2 j hj; exact ⟨q9, g1, g2 _ _ W (fun x c hx hg => ⟨Or.inl hx, hg⟩) (fun _ => ⟨hL.2.2.1, Or.inr rfl⟩) (fun _ _ _ => rfl)⟩
              have hSS : sumN (pnN v w) (fun k => vsz e ((fun k => paV vb e (pat v k) (pat w k)) k)) ≤ 29999 := by rw [sumN_congr (g := fun k => paS e (pat v k) (pat w k)) (fun k _ => paV_sz)]; omega
              refine x_cv (pc' := 147) (rest := []) dm_X5_make_144 rfl (g_invs (As := [.ref va, ii ((vu : Nat) : Int), ii ((pnN v w : Nat) : Int)]) (S := []) rfl rfl rfl) rfl rfl rfl (c_nestAt (A := fun x => newA A h hh x ∨ x = va) (e := e) (n := pnN v w) (n0 := vmt) (fr := vu) (g := W) (ch := (fun k => paV vb e (pat v k) (pat w k))) (q := hh.length) (by omega) (by omega) rfl (fun z => by rcases z with (z | z) | z; (have := hAh _ z; omega); omega; omega) hL.2.2.1 (by omega) hvt (by omega) (by omega) hSS hkid) ?_
              rintro _ _ ⟨rfl, rfl⟩
              refine y_ret (r := some (.ref hh.length)) dm_X5_make_147 rfl rfl rfl ?_
              exact ⟨_, rfl, mkL_end hov hval hl (by omega) hAv hL hnf hpn2 (by omega) hS hM hvt⟩
            · have he1 : 1 ≤ e := by by_cases z : vk v = 7; exact cv_kid_pos (k := k) hv z (by omega); exact cv_kid_pos (k := k) hw (by omega) (by omega)
              have hsC : sumN (k + 1) (fun i => paC e (pat v i) (pat w i)) ≤ sumN (pnN v w) (fun i => paC e (pat v i) (pat w i)) := sumN_nm (by omega)
              have hsC2 : sumN (k + 1) (fun i => paC e (pat v i) (pat w i)) = sumN k (fun i => paC e (pat v i) (pat w i)) + paC e (pat v k) (pat w k) := rfl
              have hsM : sumN (k + 1) (fun i => paM e (pat v i) (pat w i)) ≤ sumN (pnN v w) (fun i => paM e (pat v i) (pat w i)) := sumN_nm (by omega)
              have hsM2 : sumN (k + 1) (fun i => paM e (pat v i) (pat w i)) = sumN k (fun i => paM e (pat v i) (pat w i)) + paM e (pat v k) (pat w k) := rfl
              have hsS := sumN_mem (n := pnN v w) (k := k) (f := fun i => paS e (pat v i) (pat w i)) (by omega)
              refine me1 (pc' := 82) (L' := [(0, .ref o), (1, .ref p), (2, .ref q), (3, ii ((pnN v w : Nat) : Int)), (4, ii ((vu : Nat) : Int)), (5, ii ((k : Nat) : Int))]) (S' := [.ref o]) dm_X5_make_81 rfl rfl rfl rfl ?_
              refine me1 (pc' := 83) (L' := [(0, .ref o), (1, .ref p), (2, .ref q), (3, ii ((pnN v w : Nat) : Int)), (4, ii ((vu : Nat) : Int)), (5, ii ((k : Nat) : Int))]) (S' := [.ref p, .ref o]) dm_X5_make_82 rfl rfl rfl rfl ?_
              refine me1 (pc' := 85) (L' := [(0, .ref o), (1, .ref p), (2, .ref q), (3, ii ((pnN v w : Nat) : Int)), (4, ii ((vu : Nat) : Int)), (5, ii ((k : Nat) : Int))]) (S' := [ii ((k : Nat) : Int), .ref p, .ref o]) dm_X5_make_83 rfl rfl rfl rfl ?_
              obtain ⟨q1, hq1, hpq1⟩ := c_valueAtP (xt := xt) (d := d - 1) (h := hh) (k := k) (by omega) (cv_keep hkeep hv) (fun z => by omega) he1
              refine x_cp (pc' := 88) (v := .ref q1) (rest := [.ref o]) dm_X5_make_85 rfl (g_inv (As := [ii ((k : Nat) : Int)]) (S := [.ref o]) (mkS_get hL.1 (by omega) (by omega) hp) rfl rfl rfl (by omega)) rfl rfl rfl (hpq1) ?_
              refine me1 (pc' := 89) (L' := [(0, .ref o), (1, .ref p), (2, .ref q), (3, ii ((pnN v w : Nat) : Int)), (4, ii ((vu : Nat) : Int)), (5, ii ((k : Nat) : Int))]) (S' := [.ref q, .ref q1, .ref o]) dm_X5_make_88 rfl rfl rfl rfl ?_
              refine me1 (pc' := 91) (L' := [(0, .ref o), (1, .ref p), (2, .ref q), (3, ii ((pnN v w : Nat) : Int)), (4, ii ((vu : Nat) : Int)), (5, ii ((k : Nat) : Int))]) (S' := [ii ((k : Nat) : Int), .ref q, .ref q1, .ref o]) dm_X5_make_89 rfl rfl rfl rfl ?_
              obtain ⟨q2, hq2, hpq2⟩ := c_valueAtP (xt := xt) (d := d - 1) (h := hh) (k := k) (by omega) (cv_keep hkeep hw) (fun z => by omega) he1
              refine x_cp (pc' := 94) (v := .ref q2) (rest := [.ref q1, .ref o]) dm_X5_make_91 rfl (g_inv (As := [ii ((k : Nat) : Int)]) (S := [.ref q1, .ref o]) (mkS_get hL.1 (by omega) (by omega) hq) rfl rfl rfl (by omega)) rfl rfl rfl (hpq2) ?_
              refine x_cv (pc' := 97) (rest := []) dm_X5_make_94 rfl (g_inv (As := [.ref q1, .ref q2]) (S := []) hL.2.1 rfl rfl rfl (by omega)) rfl rfl rfl (ih (by omega) (by omega) hAh hq1 hq2 (by omega) hL.2.1 (mkS_get hL.1 (by omega) (by omega) hnq) (rw_keep (fun x c hx hg => (hkeep x c hx hg).2) hrow) (errs_all hF k (by omega)) (hN9 k (by omega)) (by omega) (fun z => by obtain ⟨y1, y2⟩ := hR9 (orN_mem (by omega) z); exact ⟨by omega, y2⟩) (by omega) (by omega) hL.2.2.1 (by omega)) ?_
              rintro x h3 ⟨q3, V3, fs, rfl, hS3, hO3, hV3, hVk3, hq3, hq3l, hr3⟩
              have hl39 := mkS_len hS3
              refine me1 (pc' := 99) (L' := [(6, .ref q3), (0, .ref o), (1, .ref p), (2, .ref q), (3, ii ((pnN v w : Nat) : Int)), (4, ii ((vu : Nat) : Int)), (5, ii ((k : Nat) : Int))]) (S' := []) dm_X5_make_97 rfl rfl rfl rfl ?_
              refine me1 (pc' := 100) (L' := [(6, .ref q3), (0, .ref o), (1, .ref p), (2, .ref q), (3, ii ((pnN v w : Nat) : Int)), (4, ii ((vu : Nat) : Int)), (5, ii ((k : Nat) : Int))]) (S' := [.ref o]) dm_X5_make_99 rfl rfl rfl rfl ?_
              refine me3 (pc' := 103) (S' := [.ref va]) dm_X5_make_100 (g_get (v := .ref va) hO3 rfl rfl (by omega)) rfl rfl rfl ?_
              refine me2 (pc' := 106) (S' := []) dm_X5_make_103 rfl rfl rfl ?_
              refine me1 (pc' := 108) (L' := [(6, .ref q3), (0, .ref o), (1, .ref p), (2, .ref q), (3, ii ((pnN v w : Nat) : Int)), (4, ii ((vu : Nat) : Int)), (5, ii ((k : Nat) : Int))]) (S' := [ii ((vu : Nat) : Int)]) dm_X5_make_106 rfl rfl rfl rfl ?_
              refine me1 (pc' := 110) (L' := [(6, .ref q3), (0, .ref o), (1, .ref p), (2, .ref q), (3, ii ((pnN v w : Nat) : Int)), (4, ii ((vu : Nat) : Int)), (5, ii ((k : Nat) : Int))]) (S' := [ii ((k : Nat) : Int), ii ((vu : Nat) : Int)]) dm_X5_make_108 rfl rfl rfl rfl ?_
              refine y_iadd (a := ((vu : Nat) : Int)) (b := ((k : Nat) : Int)) dm_X5_make_110 (pc' := 111) rfl ?_
              refine me1 (pc' := 112) (L' := [(6, .ref q3), (0, .ref o), (1, .ref p), (2, .ref q), (3, ii ((pnN v w : Nat) : Int)), (4, ii ((vu : Nat) : Int)), (5, ii ((k : Nat) : Int))]) (S' := [.ref o, ii (((vu : Nat) : Int) + ((k : Nat) : Int))]) dm_X5_make_111 rfl rfl rfl rfl ?_
              refine me3 (pc' := 115) (S' := [.ref va, ii (((vu : Nat) : Int) + ((k : Nat) : Int))]) dm_X5_make_112 (g_get (v := .ref va) hO3 rfl rfl (by omega)) rfl rfl rfl ?_
              refine me3 (pc' := 116) (S' := [ii vmt, ii (((vu : Nat) : Int) + ((k : Nat) : Int))]) dm_X5_make_115 (yh_len (n := vmt) rfl (hV3 trivial) (by omega)) rfl rfl rfl ?_
              refine y_2ge (a := ((vu : Nat) : Int) + ((k : Nat) : Int)) (b := vmt) (t := 131) (pc' := 119) dm_X5_make_116 rfl rfl (by omega) (fun hb3 => ?_) (fun hb3 => ?_)
              · exfalso; omega
              · refine me1 (pc' := 120) (L' := [(6, .ref q3), (0, .ref o), (1, .ref p), (2, .ref q), (3, ii ((pnN v w : Nat) : Int)), (4, ii ((vu : Nat) : Int)), (5, ii ((k : Nat) : Int))]) (S' := [.ref o]) dm_X5_make_119 rfl rfl rfl rfl ?_
                refine me3 (pc' := 123) (S' := [.ref va]) dm_X5_make_120 (g_get (v := .ref va) hO3 rfl rfl (by omega)) rfl rfl rfl ?_
                refine me1 (pc' := 125) (L' := [(6, .ref q3), (0, .ref o), (1, .ref p), (2, .ref q), (3, ii ((pnN v w : Nat) : Int)), (4, ii ((vu : Nat) : Int)), (5, ii ((k : Nat) : Int))]) (S' := [ii ((vu : Nat) : Int), .ref va]) dm_X5_make_123 rfl rfl rfl rfl ?_
                refine me1 (pc' := 127) (L' := [(6, .ref q3), (0, .ref o), (1, .ref p), (2, .ref q), (3, ii ((pnN v w : Nat) : Int)), (4, ii ((vu : Nat) : Int)), (5, ii ((k : Nat) : Int))]) (S' := [ii ((k : Nat) : Int), ii ((vu : Nat) : Int), .ref va]) dm_X5_make_125 rfl rfl rfl rfl ?_
                refine y_iadd (a := ((vu : Nat) : Int)) (b := ((k : Nat) : Int)) dm_X5_make_127 (pc' := 128) rfl ?_
                refine me1 (pc' := 130) (L' := [(6, .ref q3), (0, .ref o), (1, .ref p), (2, .ref q), (3, ii ((pnN v w : Nat) : Int)), (4, ii ((vu : Nat) : Int)), (5, ii ((k : Nat) : Int))]) (S' := [.ref q3, ii (((vu : Nat) : Int) + ((k : Nat) : Int)), .ref va]) dm_X5_make_128 rfl rfl rfl rfl ?_
                refine me3 (pc' := 131) (S' := []) (h1 := (h3).set va (cA 4 vmt (va_up V3 (vu + k) (some q3)))) dm_X5_make_130 (yh_aasr (j := ((vu : Nat) : Int) + ((k : Nat) : Int)) rfl (hV3 trivial) hq3 (by omega) (by omega) (by omega) (by omega) (by omega)) rfl rfl rfl ?_
                refine y_iinc (pc' := 134) (L' := [(5, ii (((k : Nat) : Int) + 1)), (6, .ref q3), (0, .ref o), (1, .ref p), (2, .ref q), (3, ii ((pnN v w : Nat) : Int)), (4, ii ((vu : Nat) : Int))]) dm_X5_make_131 (y_incp (a := ((k : Nat) : Int)) (c := 1) rfl rfl (by decide)) rfl ?_
                refine me2 (pc' := 75) (S' := []) dm_X5_make_134 rfl rfl rfl ?_
                exact pg_sub (L := [(0, .ref o), (1, .ref p), (2, .ref q), (3, ii ((pnN v w : Nat) : Int)), (4, ii ((vu : Nat) : Int)), (5, ii (((k + 1) : Nat) : Int))]) rfl rfl rfl (ih75 (pnN v w - (k + 1)) (by omega) (k + 1) ((h3).set va (cA 4 vmt (va_up V3 (vu + k) (some q3)))) (va_up V3 (vu + k) (some q3)) rfl (by omega) (mkL_s hov (hl_lt ho) hval hnA hAv hL (by omega) hS3 hO3 (hV3 trivial) hVk3 hr3))
        exact pg_sub (L := [(0, .ref o), (1, .ref p), (2, .ref q), (3, ii ((pnN v w : Nat) : Int)), (4, ii ((vu : Nat) : Int)), (5, ii ((0 : Nat) : Int))]) rfl rfl rfl (lp75 _ 0 ((h).set o (cO 5 [ii vb, ii 0, .ref nq, ii sz, ii lv, ii nm, ii vmI, zz rw_, .ref ra, .ref va, ii ((nu : Nat) : Int), ii (((vu : Nat) : Int) + ((pnN v w : Nat) : Int))])) V rfl (Nat.zero_le _) (mkL_0 hov ho hva))
      · refine me1 (pc' := 45) (L' := [(0, .ref o), (1, .ref p), (2, .ref q)]) (S' := [.ref p]) dm_X5_make_44 rfl rfl rfl rfl ?_
        refine me3 (pc' := 48) (S' := [ii (vm v : Int)]) dm_X5_make_45 (g_get (v := ii (vm v : Int)) hp rfl rfl (by omega)) rfl rfl rfl ?_
        refine me2 (pc' := 55) (S' := [ii (vm v : Int)]) dm_X5_make_48 rfl rfl rfl ?_
        refine pg_st0 (S' := [ii ((pnN v w : Nat) : Int)]) (congrArg (fun z => ii z :: []) (by rw [pnN_e (by omega)]; first | rw [if_pos (by omega)] | rw [if_neg (by omega)])) ?_
        refine me1 (pc' := 56) (L' := [(3, ii ((pnN v w : Nat) : Int)), (0, .ref o), (1, .ref p), (2, .ref q)]) (S' := []) dm_X5_make_55 rfl rfl rfl rfl ?_
        refine me1 (pc' := 57) (L' := [(3, ii ((pnN v w : Nat) : Int)), (0, .ref o), (1, .ref p), (2, .ref q)]) (S' := [.ref o]) dm_X5_make_56 rfl rfl rfl rfl ?_
        refine me3 (pc' := 60) (S' := [ii ((vu : Nat) : Int)]) dm_X5_make_57 (g_get (v := ii ((vu : Nat) : Int)) ho rfl rfl (by omega)) rfl rfl rfl ?_
        refine me1 (pc' := 62) (L' := [(4, ii ((vu : Nat) : Int)), (3, ii ((pnN v w : Nat) : Int)), (0, .ref o), (1, .ref p), (2, .ref q)]) (S' := []) dm_X5_make_60 rfl rfl rfl rfl ?_
        refine me1 (pc' := 63) (L' := [(4, ii ((vu : Nat) : Int)), (3, ii ((pnN v w : Nat) : Int)), (0, .ref o), (1, .ref p), (2, .ref q)]) (S' := [.ref o]) dm_X5_make_62 rfl rfl rfl rfl ?_
        refine me0 (pc' := 64) (S' := [.ref o, .ref o]) dm_X5_make_63 rfl rfl rfl rfl ?_
        refine me3 (pc' := 67) (S' := [ii ((vu : Nat) : Int), .ref o]) dm_X5_make_64 (g_get (v := ii ((vu : Nat) : Int)) ho rfl rfl (by omega)) rfl rfl rfl ?_
        refine me1 (pc' := 68) (L' := [(4, ii ((vu : Nat) : Int)), (3, ii ((pnN v w : Nat) : Int)), (0, .ref o), (1, .ref p), (2, .ref q)]) (S' := [ii ((pnN v w : Nat) : Int), ii ((vu : Nat) : Int), .ref o]) dm_X5_make_67 rfl rfl rfl rfl ?_
        refine y_iadd (a := ((vu : Nat) : Int)) (b := ((pnN v w : Nat) : Int)) dm_X5_make_68 (pc' := 69) rfl ?_
        refine me3 (pc' := 72) (S' := []) (h1 := (h).set o (cO 5 [ii vb, ii 0, .ref nq, ii sz, ii lv, ii nm, ii vmI, zz rw_, .ref ra, .ref va, ii ((nu : Nat) : Int), ii (((vu : Nat) : Int) + ((pnN v w : Nat) : Int))])) dm_X5_make_69 (g_put (fs' := [ii vb, ii 0, .ref nq, ii sz, ii lv, ii nm, ii vmI, zz rw_, .ref ra, .ref va, ii ((nu : Nat) : Int), ii (((vu : Nat) : Int) + ((pnN v w : Nat) : Int))]) ho rfl rfl rfl (by simp) rfl (by decide) (fun z => by cases z) (by omega)) rfl rfl rfl ?_
        refine me0 (pc' := 73) (S' := [ii 0]) dm_X5_make_72 rfl rfl rfl rfl ?_
        refine me1 (pc' := 75) (L' := [(5, ii 0), (4, ii ((vu : Nat) : Int)), (3, ii ((pnN v w : Nat) : Int)), (0, .ref o), (1, .ref p), (2, .ref q)]) (S' := []) dm_X5_make_73 rfl rfl rfl rfl ?_
        have lp75 : ∀ (n75 : Nat) (k : Nat) (hh : mj_H) (W : Nat → Option Nat), pnN v w - k = n75 → (k ≤ pnN v w) → (mkL A h o nq va vmt (.ref va) vb sz lv nm vmI rw_ ra nu vu V e v w k hh W) → pgE xt (d - 1) 5 7 false (Option.some (Jvm.ClassFile.FieldType.object "ArrayCalculator$Value")) (mj_dec prog_7_method_7_code) 75 [(0, .ref o), (1, .ref p), (2, .ref q), (3, ii ((pnN v w : Nat) : Int)), (4, ii ((vu : Nat) : Int)), (5, ii ((k : Nat) : Int))] [] hh (fun r h' => ∃ x, r = some x ∧ mkR A h o nq va vmt True (.ref va) vb sz lv nm vmI rw_ ra nu vu V (e + 1) v w x h') := by
          intro n75
          induction n75 using Nat.strongRecOn with
          | ind n75 ih75 =>
            intro k hh W hm75 hk hL
            have hlh := mkS_len hL.1
            have hkeep : ∀ x c, A x → h[x]? = some c → A x ∧ hh[x]? = some c := fun x c hx hg => ⟨hx, mkS_get hL.1 (fun z => hnA (z ▸ hx)) (fun z => hAv (z ▸ hx)) hg⟩
            have hAh : okA A hh := fun x hx => by have := hA x hx; omega
            refine me1 (pc' := 77) (L' := [(0, .ref o), (1, .ref p), (2, .ref q), (3, ii ((pnN v w : Nat) : Int)), (4, ii ((vu : Nat) : Int)), (5, ii ((k : Nat) : Int))]) (S' := [ii ((k : Nat) : Int)]) dm_X5_make_75 rfl rfl rfl rfl ?_
            refine me1 (pc' := 78) (L' := [(0, .ref o), (1, .ref p), (2, .ref q), (3, ii ((pnN v w : Nat) : Int)), (4, ii ((vu : Nat) : Int)), (5, ii ((k : Nat) : Int))]) (S' := [ii ((pnN v w : Nat) : Int), ii ((k : Nat) : Int)]) dm_X5_make_77 rfl rfl rfl rfl ?_
            refine y_2ge (a := ((k : Nat) : Int)) (b := ((pnN v w : Nat) : Int)) (t := 137) (pc' := 81) dm_X5_make_78 rfl rfl (by omega) (fun hb4 => ?_) (fun hb4 => ?_)
            · refine me1 (pc' := 138) (L' := [(0, .ref o), (1, .ref p), (2, .ref q), (3, ii ((pnN v w : Nat) : Int)), (4, ii ((vu : Nat) : Int)), (5, ii ((k : Nat) : Int))]) (S' := [.ref o]) dm_X5_make_137 rfl rfl rfl rfl ?_
              refine me3 (pc' := 141) (S' := [.ref va]) dm_X5_make_138 (g_get (v := .ref va) hL.2.1 rfl rfl (by omega)) rfl rfl rfl ?_
              refine me1 (pc' := 143) (L' := [(0, .ref o), (1, .ref p), (2, .ref q), (3, ii ((pnN v w : Nat) : Int)), (4, ii ((vu : Nat) : Int)), (5, ii ((k : Nat) : Int))]) (S' := [ii ((vu : Nat) : Int), .ref va]) dm_X5_make_141 rfl rfl rfl rfl ?_
              refine me1 (pc' := 144) (L' := [(0, .ref o), (1, .ref p), (2, .ref q), (3, ii ((pnN v w : Nat) : Int)), (4, ii ((vu : Nat) : Int)), (5, ii ((k : Nat) : Int))]) (S' := [ii ((pnN v w : Nat) : Int), ii ((vu : Nat) : Int), .ref va]) dm_X5_make_143 rfl rfl rfl rfl ?_
              have hkn : k = pnN v w := by omega
              rw [hkn] at hL
              have hkid : ∀ k, k < pnN v w → ∃ q, W (vu + k) = some q ∧ cv (fun x => newA A h hh x ∨ x = va) hh e q ((fun k => paV vb e (pat v k) (pat w k)) k) := fun j hj => by obtain ⟨q9, g1, g2⟩ := hL.2.2.2.2 j hj; exact ⟨q9, g1, g2 _ _ W (fun x c hx hg => ⟨Or.inl hx, hg⟩) (fun _ => ⟨hL.2.2.1, Or.inr rfl⟩) (fun _ _ _ => rfl)⟩
              have hSS : sumN (pnN v w) (fun k => vsz e ((fun k => paV vb e (pat v k) (pat w k)) k)) ≤ 29999 := by rw [sumN_congr (g := fun k => paS e (pat v k) (pat w k)) (fun k _ => paV_sz)]; omega
              refine x_cv (pc' := 147) (rest := []) dm_X5_make_144 rfl (g_invs (As := [.ref va, ii ((vu : Nat) : Int), ii ((pnN v w : Nat) : Int)]) (S := []) rfl rfl rfl) rfl rfl rfl (c_nestAt (A := fun x => newA A h hh x ∨ x = va) (e := e) (n := pnN v w) (n0 := vmt) (fr := vu) (g := W) (ch := (fun k => paV vb e (pat v k) (pat w k))) (q := hh.length) (by omega) (by omega) rfl (fun z => by rcases z with (z | z) | z; (have := hAh _ z; omega); omega; omega) hL.2.2.1 (by omega) hvt (by omega) (by omega) hSS hkid) ?_
              rintro _ _ ⟨rfl, rfl⟩
              refine y_ret (r := some (.ref hh.length)) dm_X5_make_147 rfl rfl rfl ?_
              exact ⟨_, rfl, mkL_end hov hval hl (by omega) hAv hL hnf hpn2 (by omega) hS hM hvt⟩
            · have he1 : 1 ≤ e := by by_cases z : vk v = 7; exact cv_kid_pos (k := k) hv z (by omega); exact cv_kid_pos (k := k) hw (by omega) (by omega)
              have hsC : sumN (k + 1) (fun i => paC e (pat v i) (pat w i)) ≤ sumN (pnN v w) (fun i => paC e (pat v i) (pat w i)) := sumN_nm (by omega)
              have hsC2 : sumN (k + 1) (fun i => paC e (pat v i) (pat w i)) = sumN k (fun i => paC e (pat v i) (pat w i)) + paC e (pat v k) (pat w k) := rfl
              have hsM : sumN (k + 1) (fun i => paM e (pat v i) (pat w i)) ≤ sumN (pnN v w) (fun i => paM e (pat v i) (pat w i)) := sumN_nm (by omega)
              have hsM2 : sumN (k + 1) (fun i => paM e (pat v i) (pat w i)) = sumN k (fun i => paM e (pat v i) (pat w i)) + paM e (pat v k) (pat w k) := rfl
              have hsS := sumN_mem (n := pnN v w) (k := k) (f := fun i => paS e (pat v i) (pat w i)) (by omega)
              refine me1 (pc' := 82) (L' := [(0, .ref o), (1, .ref p), (2, .ref q), (3, ii ((pnN v w : Nat) : Int)), (4, ii ((vu : Nat) : Int)), (5, ii ((k : Nat) : Int))]) (S' := [.ref o]) dm_X5_make_81 rfl rfl rfl rfl ?_
              refine me1 (pc' := 83) (L' := [(0, .ref o), (1, .ref p), (2, .ref q), (3, ii ((pnN v w : Nat) : Int)), (4, ii ((vu : Nat) : Int)), (5, ii ((k : Nat) : Int))]) (S' := [.ref p, .ref o]) dm_X5_make_82 rfl rfl rfl rfl ?_
              refine me1 (pc' := 85) (L' := [(0, .ref o), (1, .ref p), (2, .ref q), (3, ii ((pnN v w : Nat) : Int)), (4, ii ((vu : Nat) : Int)), (5, ii ((k : Nat) : Int))]) (S' := [ii ((k : Nat) : Int), .ref p, .ref o]) dm_X5_make_83 rfl rfl rfl rfl ?_
              obtain ⟨q1, hq1, hpq1⟩ := c_valueAtP (xt := xt) (d := d - 1) (h := hh) (k := k) (by omega) (cv_keep hkeep hv) (fun z => by omega) he1
              refine x_cp (pc' := 88) (v := .ref q1) (rest := [.ref o]) dm_X5_make_85 rfl (g_inv (As := [ii ((k : Nat) : Int)]) (S := [.ref o]) (mkS_get hL.1 (by omega) (by omega) hp) rfl rfl rfl (by omega)) rfl rfl rfl (hpq1) ?_
              refine me1 (pc' := 89) (L' := [(0, .ref o), (1, .ref p), (2, .ref q), (3, ii ((pnN v w : Nat) : Int)), (4, ii ((vu : Nat) : Int)), (5, ii ((k : Nat) : Int))]) (S' := [.ref q, .ref q1, .ref o]) dm_X5_make_88 rfl rfl rfl rfl ?_
              refine me1 (pc' := 91) (L' := [(0, .ref o), (1, .ref p), (2, .ref q), (3, ii ((pnN v w : Nat) : Int)), (4, ii ((vu : Nat) : Int)), (5, ii ((k : Nat) : Int))]) (S' := [ii ((k : Nat) : Int), .ref q, .ref q1, .ref o]) dm_X5_make_89 rfl rfl rfl rfl ?_
              obtain ⟨q2, hq2, hpq2⟩ := c_valueAtP (xt := xt) (d := d - 1) (h := hh) (k := k) (by omega) (cv_keep hkeep hw) (fun z => by omega) he1
              refine x_cp (pc' := 94) (v := .ref q2) (rest := [.ref q1, .ref o]) dm_X5_make_91 rfl (g_inv (As := [ii ((k : Nat) : Int)]) (S := [.ref q1, .ref o]) (mkS_get hL.1 (by omega) (by omega) hq) rfl rfl rfl (by omega)) rfl rfl rfl (hpq2) ?_
              refine x_cv (pc' := 97) (rest := []) dm_X5_make_94 rfl (g_inv (As := [.ref q1, .ref q2]) (S := []) hL.2.1 rfl rfl rfl (by omega)) rfl rfl rfl (ih (by omega) (by omega) hAh hq1 hq2 (by omega) hL.2.1 (mkS_get hL.1 (by omega) (by omega) hnq) (rw_keep (fun x c hx hg => (hkeep x c hx hg).2) hrow) (errs_all hF k (by omega)) (hN9 k (by omega)) (by omega) (fun z => by obtain ⟨y1, y2⟩ := hR9 (orN_mem (by omega) z); exact ⟨by omega, y2⟩) (by omega) (by omega) hL.2.2.1 (by omega)) ?_
              rintro x h3 ⟨q3, V3, fs, rfl, hS3, hO3, hV3, hVk3, hq3, hq3l, hr3⟩
              have hl39 := mkS_len hS3
              refine me1 (pc' := 99) (L' := [(6, .ref q3), (0, .ref o), (1, .ref p), (2, .ref q), (3, ii ((pnN v w : Nat) : Int)), (4, ii ((vu : Nat) : Int)), (5, ii ((k : Nat) : Int))]) (S' := []) dm_X5_make_97 rfl rfl rfl rfl ?_
              refine me1 (pc' := 100) (L' := [(6, .ref q3), (0, .ref o), (1, .ref p), (2, .ref q), (3, ii ((pnN v w : Nat) : Int)), (4, ii ((vu : Nat) : Int)), (5, ii ((k : Nat) : Int))]) (S' := [.ref o]) dm_X5_make_99 rfl rfl rfl rfl ?_
              refine me3 (pc' := 103) (S' := [.ref va]) dm_X5_make_100 (g_get (v := .ref va) hO3 rfl rfl (by omega)) rfl rfl rfl ?_
              refine me2 (pc' := 106) (S' := []) dm_X5_make_103 rfl rfl rfl ?_
              refine me1 (pc' := 108) (L' := [(6, .ref q3), (0, .ref o), (1, .ref p), (2, .ref q), (3, ii ((pnN v w : Nat) : Int)), (4, ii ((vu : Nat) : Int)), (5, ii ((k : Nat) : Int))]) (S' := [ii ((vu : Nat) : Int)]) dm_X5_make_106 rfl rfl rfl rfl ?_
              refine me1 (pc' := 110) (L' := [(6, .ref q3), (0, .ref o), (1, .ref p), (2, .ref q), (3, ii ((pnN v w : Nat) : Int)), (4, ii ((vu : Nat) : Int)), (5, ii ((k : Nat) : Int))]) (S' := [ii ((k : Nat) : Int), ii ((vu : Nat) : Int)]) dm_X5_make_108 rfl rfl rfl rfl ?_
              refine y_iadd (a := ((vu : Nat) : Int)) (b := ((k : Nat) : Int)) dm_X5_make_110 (pc' := 111) rfl ?_
              refine me1 (pc' := 112) (L' := [(6, .ref q3), (0, .ref o), (1, .ref p), (2, .ref q), (3, ii ((pnN v w : Nat) : Int)), (4, ii ((vu : Nat) : Int)), (5, ii ((k : Nat) : Int))]) (S' := [.ref o, ii (((vu : Nat) : Int) + ((k : Nat) : Int))]) dm_X5_make_111 rfl rfl rfl rfl ?_
              refine me3 (pc' := 115) (S' := [.ref va, ii (((vu : Nat) : Int) + ((k : Nat) : Int))]) dm_X5_make_112 (g_get (v := .ref va) hO3 rfl rfl (by omega)) rfl rfl rfl ?_
              refine me3 (pc' := 116) (S' := [ii vmt, ii (((vu : Nat) : Int) + ((k : Nat) : Int))]) dm_X5_make_115 (yh_len (n := vmt) rfl (hV3 trivial) (by omega)) rfl rfl rfl ?_
              refine y_2ge (a := ((vu : Nat) : Int) + ((k : Nat) : Int)) (b := vmt) (t := 131) (pc' := 119) dm_X5_make_116 rfl rfl (by omega) (fun hb5 => ?_) (fun hb5 => ?_)
              · exfalso; omega
              · refine me1 (pc' := 120) (L' := [(6, .ref q3), (0, .ref o), (1, .ref p), (2, .ref q), (3, ii ((pnN v w : Nat) : Int)), (4, ii ((vu : Nat) : Int)), (5, ii ((k : Nat) : Int))]) (S' := [.ref o]) dm_X5_make_119 rfl rfl rfl rfl ?_
                refine me3 (pc' := 123) (S' := [.ref va]) dm_X5_make_120 (g_get (v := .ref va) hO3 rfl rfl (by omega)) rfl rfl rfl ?_
                refine me1 (pc' := 125) (L' := [(6, .ref q3), (0, .ref o), (1, .ref p), (2, .ref q), (3, ii ((pnN v w : Nat) : Int)), (4, ii ((vu : Nat) : Int)), (5, ii ((k : Nat) : Int))]) (S' := [ii ((vu : Nat) : Int), .ref va]) dm_X5_make_123 rfl rfl rfl rfl ?_
                refine me1 (pc' := 127) (L' := [(6, .ref q3), (0, .ref o), (1, .ref p), (2, .ref q), (3, ii ((pnN v w : Nat) : Int)), (4, ii ((vu : Nat) : Int)), (5, ii ((k : Nat) : Int))]) (S' := [ii ((k : Nat) : Int), ii ((vu : Nat) : Int), .ref va]) dm_X5_make_125 rfl rfl rfl rfl ?_
                refine y_iadd (a := ((vu : Nat) : Int)) (b := ((k : Nat) : Int)) dm_X5_make_127 (pc' := 128) rfl ?_
                refine me1 (pc' := 130) (L' := [(6, .ref q3), (0, .ref o), (1, .ref p), (2, .ref q), (3, ii ((pnN v w : Nat) : Int)), (4, ii ((vu : Nat) : Int)), (5, ii ((k : Nat) : Int))]) (S' := [.ref q3, ii (((vu : Nat) : Int) + ((k : Nat) : Int)), .ref va]) dm_X5_make_128 rfl rfl rfl rfl ?_
                refine me3 (pc' := 131) (S' := []) (h1 := (h3).set va (cA 4 vmt (va_up V3 (vu + k) (some q3)))) dm_X5_make_130 (yh_aasr (j := ((vu : Nat) : Int) + ((k : Nat) : Int)) rfl (hV3 trivial) hq3 (by omega) (by omega) (by omega) (by omega) (by omega)) rfl rfl rfl ?_
                refine y_iinc (pc' := 134) (L' := [(5, ii (((k : Nat) : Int) + 1)), (6, .ref q3), (0, .ref o), (1, .ref p), (2, .ref q), (3, ii ((pnN v w : Nat) : Int)), (4, ii ((vu : Nat) : Int))]) dm_X5_make_131 (y_incp (a := ((k : Nat) : Int)) (c := 1) rfl rfl (by decide)) rfl ?_
                refine me2 (pc' := 75) (S' := []) dm_X5_make_134 rfl rfl rfl ?_
                exact pg_sub (L := [(0, .ref o), (1, .ref p), (2, .ref q), (3, ii ((pnN v w : Nat) : Int)), (4, ii ((vu : Nat) : Int)), (5, ii (((k + 1) : Nat) : Int))]) rfl rfl rfl (ih75 (pnN v w - (k + 1)) (by omega) (k + 1) ((h3).set va (cA 4 vmt (va_up V3 (vu + k) (some q3)))) (va_up V3 (vu + k) (some q3)) rfl (by omega) (mkL_s hov (hl_lt ho) hval hnA hAv hL (by omega) hS3 hO3 (hV3 trivial) hVk3 hr3))
        exact pg_sub (L := [(0, .ref o), (1, .ref p), (2, .ref q), (3, ii ((pnN v w : Nat) : Int)), (4, ii ((vu : Nat) : Int)), (5, ii ((0 : Nat) : Int))]) rfl rfl rfl (lp75 _ 0 ((h).set o (cO 5 [ii vb, ii 0, .ref nq, ii sz, ii lv, ii nm, ii vmI, zz rw_, .ref ra, .ref va, ii ((nu : Nat) : Int), ii (((vu : Nat) : Int) + ((pnN v w : Nat) : Int))])) V rfl (Nat.zero_le _) (mkL_0 hov ho hva))
    refine me1 (pc' := 1) (L' := [(0, .ref o), (1, .ref p), (2, .ref q)]) (S' := [.ref p]) dm_X5_make_0 rfl rfl rfl rfl ?_
    refine me3 (pc' := 4) (S' := [ii (vk v : Int)]) dm_X5_make_1 (g_get (v := ii (vk v : Int)) hp rfl rfl (by omega)) rfl rfl rfl ?_
    refine me0 (pc' := 6) (S' := [ii 7, ii (vk v : Int)]) dm_X5_make_4 rfl rfl rfl rfl ?_
    refine y_2eq (a := (vk v : Int)) (b := 7) (t := 35) (pc' := 9) dm_X5_make_6 rfl rfl (by omega) (fun hb6 => ?_) (fun hb6 => ?_)
    · exact pg_sub (L := [(0, .ref o), (1, .ref p), (2, .ref q)]) rfl rfl rfl (cut35 (fun z => by have z1 := z.1; have z2 := z.2; omega))
    · refine me1 (pc' := 10) (L' := [(0, .ref o), (1, .ref p), (2, .ref q)]) (S' := [.ref q]) dm_X5_make_9 rfl rfl rfl rfl ?_
      refine me3 (pc' := 13) (S' := [ii (vk w : Int)]) dm_X5_make_10 (g_get (v := ii (vk w : Int)) hq rfl rfl (by omega)) rfl rfl rfl ?_
      refine me0 (pc' := 15) (S' := [ii 7, ii (vk w : Int)]) dm_X5_make_13 rfl rfl rfl rfl ?_
      refine y_2eq (a := (vk w : Int)) (b := 7) (t := 35) (pc' := 18) dm_X5_make_15 rfl rfl (by omega) (fun hb7 => ?_) (fun hb7 => ?_)
      · exact pg_sub (L := [(0, .ref o), (1, .ref p), (2, .ref q)]) rfl rfl rfl (cut35 (fun z => by have z1 := z.1; have z2 := z.2; omega))
      · refine me1 (pc' := 19) (L' := [(0, .ref o), (1, .ref p), (2, .ref q)]) (S' := [.ref o]) dm_X5_make_18 rfl rfl rfl rfl ?_
        refine me1 (pc' := 20) (L' := [(0, .ref o), (1, .ref p), (2, .ref q)]) (S' := [.ref p, .ref o]) dm_X5_make_19 rfl rfl rfl rfl ?_
        refine x_cp (pc' := 23) (v := zz (decide (vk v ≤ 1))) (rest := [.ref o]) dm_X5_make_20 rfl (g_inv (As := []) (S := [.ref o]) hp rfl rfl rfl (by omega)) rfl rfl rfl (c_isOne (by omega) hv) ?_
        refine y_zeq (c := decide (vk v ≤ 1)) (t := 30) (pc' := 26) dm_X5_make_23 rfl rfl (fun hb8 => ?_) (fun hb8 => ?_)
        · replace hb8 := dF hb8
          refine me1 (pc' := 31) (L' := [(0, .ref o), (1, .ref p), (2, .ref q)]) (S' := [.ref p, .ref o]) dm_X5_make_30 rfl rfl rfl rfl ?_
          have hpf : pflat v w := ⟨by omega, by omega⟩
          have hlk : lkV v w = v := if_neg (by omega)
          have hc9 := hc
          rw [paC_s, if_pos hpf, hlk] at hc9
          have hR9 := hR
          rw [paC_s, paR_s, if_pos hpf, if_pos hpf, hlk] at hR9
          refine x_cv (pc' := 34) (rest := []) dm_X5_make_31 rfl (g_inv (As := [.ref p]) (S := []) ho rfl rfl rfl (by omega)) rfl rfl rfl (p_makeFlat (v := v) hx1 (by omega) hl hA hoq hvb hv (by omega) ho hnq hrow hc9 (fun z1 z2 => (hR9 (decide_eq_true ⟨z2, by omega⟩)).1)) ?_
          rintro _ _ ⟨rfl, rfl⟩
          refine y_ret (r := some (.ref h.length)) dm_X5_make_34 rfl rfl rfl ?_
          have hz9 := mkR_flat (va := va) (vmt := vmt) (arr := True) (V := V) hA hl (by omega) (fun _ => ⟨hov, hval⟩) ho (fun _ => hva) hv.1 hw.1 hpf hrow hF hN hc hR
          rw [hlk] at hz9
          exact ⟨_, rfl, hz9⟩
        · replace hb8 := dT hb8
          refine me1 (pc' := 27) (L' := [(0, .ref o), (1, .ref p), (2, .ref q)]) (S' := [.ref q, .ref o]) dm_X5_make_26 rfl rfl rfl rfl ?_
          refine me2 (pc' := 31) (S' := [.ref q, .ref o]) dm_X5_make_27 rfl rfl rfl ?_
          have hpf : pflat v w := ⟨by omega, by omega⟩
          have hlk : lkV v w = w := if_pos (by omega)
          have hc9 := hc
          rw [paC_s, if_pos hpf, hlk] at hc9
          have hR9 := hR
          rw [paC_s, paR_s, if_pos hpf, if_pos hpf, hlk] at hR9
          refine x_cv (pc' := 34) (rest := []) dm_X5_make_31 rfl (g_inv (As := [.ref q]) (S := []) ho rfl rfl rfl (by omega)) rfl rfl rfl (p_makeFlat (v := w) hx1 (by omega) hl hA hoq hvb hw (by omega) ho hnq hrow hc9 (fun z1 z2 => (hR9 (decide_eq_true ⟨z2, by omega⟩)).1)) ?_
          rintro _ _ ⟨rfl, rfl⟩
          refine y_ret (r := some (.ref h.length)) dm_X5_make_34 rfl rfl rfl ?_
          have hz9 := mkR_flat (va := va) (vmt := vmt) (arr := True) (V := V) hA hl (by omega) (fun _ => ⟨hov, hval⟩) ho (fun _ => hva) hv.1 hw.1 hpf hrow hF hN hc hR
          rw [hlk] at hz9
          exact ⟨_, rfl, hz9⟩
