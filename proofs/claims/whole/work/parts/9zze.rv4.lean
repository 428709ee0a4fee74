/-! the reference: gathered, of all sorts; what acts make -/
theorem r_gath_ {xt : mj_X} {d q b n base W : Nat} {pre post : mj_H} {s : RS} {place nd : Int} {ch : Nat → VV} (hm : pre.length = 102) (hd1 : 42 ≤ d) (hB : rB s) (hq : s.1 4 = (q : Int)) (hb : s.1 3 = (b : Int)) (hq3 : 3 ≤ q) (hV2 : q + 10 < 310000) (hca : 0 ≤ s.1 10 ∧ s.1 10 ≤ 100) (hC : b + 300 ≤ 820000) (hw13 : s.1 13 = ((base + n : Nat) : Int)) (hbn : base + n ≤ 8192) (he0 : s.1 5 = 0) (h8 : s.1 8 = (W : Int)) (hW : W ≤ 500000) (hnd : 0 ≤ nd) (hch : ∀ k, k < n → ∃ p : Nat, 3 ≤ p ∧ s.2.2.1 12 (base + k) = (p : Int) ∧ rv s 7 p (ch k)) (hS1 : ∀ k, k < n → vsz 7 (ch k) ≤ 1000) (hn : n ≤ 300) : pgV xt d 244 [.ref 102, ii ((base : Nat) : Int), ii place] (rS pre post s) (dres pre post (gaB s base) W (7 + 3 * (n : Int)) nd (dGa (cpS s) W n ch place)) := by
  by_cases hn0 : n = 0
  · exact r_gath0 hm hd1 hB hq hb hq3 hV2 hca hC hw13 hbn he0 h8 hW hnd hch hS1 hn hn0
  · have hnp : 0 < n := by omega
    cases hN : allN n (isNb ch) with
    | true =>
      have hk : ∀ k, k < n → vk (ch k) = 0 := fun k hk => of_decide_eq_true (allN_iff.mp hN k hk)
      exact r_gathN hm hd1 hB hq hb hq3 hV2 hca hC hw13 hbn he0 h8 hW hnd hch hS1 hn hnp hN (allN_f hnp (decide_eq_false (by rw [hk 0 hnp]; decide))) hk
    | false =>
      cases hS : allN n (isSg ch) with
      | true => exact r_gathS hm hd1 hB hq hb hq3 hV2 hca hC hw13 hbn he0 h8 hW hnd hch hS1 hn hnp hN hS (fun k hk => of_decide_eq_true (allN_iff.mp hS k hk))
      | false => exact r_gathV hm hd1 hB hq hb hq3 hV2 hca hC hw13 hbn he0 h8 hW hnd hch hS1 hn hnp hN hS
/-- spec's errors are told, its answers aren't too great to be counted -/
def RSO : Prop := ∀ (vb : Int) (v : VV), vwf 7 v → vsz 7 v ≤ 1000 → vlv 7 v ≤ 5 → (∀ n, s_one vb 6 v = .inl n → 1 ≤ n ∧ n ≤ 100) ∧ (∀ r, s_one vb 6 v = .inr r → vw1 r ∧ vsz 8 r ≤ 500000)
def RST2 : Prop := ∀ (vb : Int) (l w : VV), vwf 7 l → vwf 7 w → vsz 7 l ≤ 1000 → vsz 7 w ≤ 1000 → vlv 7 l ≤ 5 → vlv 7 w ≤ 5 → (∀ n, s_two vb 6 l w = .inl n → 1 ≤ n ∧ n ≤ 100) ∧ (∀ r, s_two vb 6 l w = .inr r → vw1 r ∧ vsz 8 r ≤ 500000)
/-- PAIRED -/
def RPA : Prop := ∀ (v w : VV), vwf 7 v → vwf 7 w → vsz 7 v ≤ 1000 → vsz 7 w ≤ 1000 → (paK 7 v w + 1 ≤ vsz 7 v + vsz 7 w ∧ paC 7 v w + paM 7 v w ≤ 290000 ∧ paC 7 v w ≤ paS 7 v w ∧ paM 7 v w + 1 ≤ paK 7 v w ∧ paK 7 v w ≤ paS 7 v w) ∧ ∀ vb : Int, vsz 8 (paV vb 7 v w) ≤ 500000 ∧ vsz 7 (paV vb 7 v w) = paS 7 v w ∧ vlv 7 (paV vb 7 v w) = paL 7 v w ∧ (paF vb 7 v w ≠ 0 → 1 ≤ (paF vb 7 v w).toNat ∧ (paF vb 7 v w).toNat ≤ 100)
theorem vcl_sz {d : Nat} {r : VV} (hw : vw1 r) : vcl r ≤ vsz (d + 1 + 1) r := by
  show (if vk r = 7 then vm r else vq r) ≤ (if vk r ≤ 1 then 1 else if vk r = 6 then 1 + vm r * vc r else if vk r = 7 then 1 + sumN (vm r) (fun k => vsz (d + 1) (vd r k)) else 1 + vm r)
  by_cases h7 : vk r = 7
  · rw [if_pos h7, if_neg (by omega), if_neg (by omega), if_pos h7]
    have := sumN_ge (n := vm r) (f := fun k => vsz (d + 1) (vd r k)) (fun k _ => vsz_ge1)
    omega
  · rw [if_neg h7, if_neg h7]
    unfold vq
    by_cases h1 : vk r ≤ 1
    · rw [if_pos h1, if_neg (by omega), if_neg (by omega)]
      have := (hw.2.1 h1).1
      omega
    · rw [if_neg h1]
      by_cases h6 : vk r = 6
      · rw [if_pos h6, if_pos h6]; omega
      · rw [if_neg h6, if_neg h6, if_neg h7]; omega
theorem dMo_pair {cp : Option Int} {W : Nat} {vb pl : Int} {v w : VV} (hs : vsz 7 (paV vb 7 v w) = paS 7 v w) (hl : vlv 7 (paV vb 7 v w) = paL 7 v w) : dMo cp W 0 (pno vb 7 v w) pl = dMo cp W 0 (d_pair vb 7 v w) pl := by
  unfold pno d_pair
  by_cases hf : paF vb 7 v w ≠ 0
  · rw [if_pos hf, if_pos hf]
  · rw [if_neg hf, if_neg hf]
    by_cases hb : 1000 < paS 7 v w ∨ 5 < paL 7 v w
    · rw [if_pos hb]
      show dMk cp W 0 (paV vb 7 v w) pl = dEr cp W 8 pl
      exact if_pos (by show 1000 < vsz 7 (paV vb 7 v w) ∨ 5 < vlv 7 (paV vb 7 v w); rw [hs, hl]; exact hb)
    · rw [if_neg hb]
/-- takes, then the price -/
theorem tk_tkd {s s2 : RS} {W cost : Nat} (h : s2 = (va_up (takeS s (cost : Int)).1 9 0, (takeS s (cost : Int)).2.1, (takeS s (cost : Int)).2.2.1, (takeS s (cost : Int)).2.2.2)) (he : s.1 5 = 0) (h8 : s.1 8 = (W : Int)) (hc : cost ≤ W) : tkd s s2 (W - cost) cost ((0 : Nat) : Int) := by
  have k : ∀ k, k ≠ 9 → s2.1 k = (takeS s (cost : Int)).1 k := fun k hk => by rw [h]; exact up_ne _ _ hk
  have k' : ∀ j, j ≠ 9 → j ≠ 7 → j ≠ 8 → s2.1 j = s.1 j := fun j h9 h7 h8 => (k j h9).trans (takeS_k h7 h8)
  have k5 := k' 5 (by decide) (by decide) (by decide)
  have k3 := k' 3 (by decide) (by decide) (by decide)
  have k4 := k' 4 (by decide) (by decide) (by decide)
  have k8 := (k 8 (by decide)).trans takeS_8
  have k7 := (k 7 (by decide)).trans takeS_7
  refine ⟨⟨by omega, by omega, fun _ _ _ => by rw [h]; exact ⟨rfl, rfl⟩, fun _ _ => by rw [h]; rfl⟩, ⟨fun j _ _ _ _ c7 c8 c9 _ _ _ => k' j c9 c7 c8, fun _ => k' 11 (by decide) (by decide) (by decide), by rw [h]; rfl, fun _ _ _ _ _ _ => by rw [h]; rfl, fun _ _ => by rw [h]; rfl, fun _ _ => by rw [h]; rfl⟩, k3, k4, by omega, k' 6 (by decide) (by decide) (by decide), k' 13 (by decide) (by decide) (by decide), by omega, k7, by rw [h]; show va_up (takeS s (cost : Int)).1 9 0 9 = ((0 : Nat) : Int); exact up_eq _ _ _⟩
/-- the WORK doesn't suffice -/
theorem tk_no {pre post : mj_H} {s : RS} {W : Nat} {n pl c nd : Int} (he : s.1 5 = 0) (h8 : s.1 8 = (W : Int)) (hnd : 0 ≤ nd) : dres pre post s W c nd (dEr (cpS s) W 10 pl) (ii (-1)) (rS pre post (failS s 10 pl)) := by
  have k3 := failS_k (t := s) (c := 10) (p := pl) (k := 3) (by decide) (by decide)
  have k4 := failS_k (t := s) (c := 10) (p := pl) (k := 4) (by decide) (by decide)
  have k7 := failS_k (t := s) (c := 10) (p := pl) (k := 7) (by decide) (by decide)
  have k8 := failS_k (t := s) (c := 10) (p := pl) (k := 8) (by decide) (by decide)
  have k13 := failS_k (t := s) (c := 10) (p := pl) (k := 13) (by decide) (by decide)
  exact dres_e (rext_fl (rext_rf s) _ _) (dfr_fl (dfr_rf s) _ _) (by omega) (by omega) ⟨-1, rfl, by omega, by omega⟩ failS_5 failS_6 (by omega) (by omega) (by omega) (by omega)
theorem r_unlikeT {base : Nat} {xt : mj_X} {d e hd q b : Nat} {pre post : mj_H} {s : RS} {v : VV} {place : Int} (hm : pre.length = 102) (hd1 : 3 * e + 14 ≤ d) (hB : rB s) (hv : rv s (e + 1) hd v) (hh3 : 3 ≤ hd) (hq : s.1 4 = (q : Int)) (hb : s.1 3 = (b : Int)) (hq3 : 3 ≤ q) (hV2 : q < 310000) (he0 : s.1 5 = 0) (hca : 0 ≤ s.1 10 ∧ s.1 10 ≤ 100) (hC : b + 300 ≤ 820000) (hV3 : q + 30 < 310000) (hw13 : s.1 13 = (base : Int)) (hbs : base ≤ 7900) : pgV xt d 289 [.ref 102, ii (hd : Int), ii place] (rS pre post s) (rres pre post s (e + 2) (m_unl (e + 1) v) place 144 ((unq (isame (e + 1) v) (vm v)).1 + 1)) := by
  have hB0 := hB
  obtain ⟨hB1, hB2, hB3, hB4⟩ := hB
  obtain ⟨fr, hfr, hsh, hlt, hcl, hvk, hvm, hvc, hvq, hvcl⟩ := rv_val hv
  have h6c : vk v = 6 → 1 ≤ vc v ∧ vm v ≤ 12 := fun z => ⟨(hv.1.2.2.2.1 z).2.2.1, (hv.1.2.2.2.1 z).2.1⟩
  have h7m : vk v = 7 → vm v ≤ 24 := fun z => (hv.1.2.2.2.2.1 z).1
  refine x_enter pm_X12_unlike (L0 := [(0, .ref 102), (1, ii (hd : Int)), (2, ii place)]) rfl (Nat.le_of_ble_eq_true rfl) (by omega) ?_
  refine me1 (pc' := 1) (L' := [(0, .ref 102), (1, ii (hd : Int)), (2, ii place)]) (S' := [.ref 102]) dm_X12_unlike_0 rfl rfl rfl rfl ?_
  refine me1 (pc' := 2) (L' := [(0, .ref 102), (1, ii (hd : Int)), (2, ii place)]) (S' := [ii (hd : Int), .ref 102]) dm_X12_unlike_1 rfl rfl rfl rfl ?_
  refine x_cp (pc' := 5) (v := zz (decide (vk v ≤ 1))) (rest := []) dm_X12_unlike_2 rfl (q_inv (As := [ii (hd : Int)]) (S := []) hm rfl rfl rfl) rfl rfl rfl (r_isOne_ hm (by omega) hB0 hv) ?_
  refine y_zeq (c := decide (vk v ≤ 1)) (t := 10) (pc' := 8) dm_X12_unlike_5 rfl rfl (fun hb1 => ?_) (fun hb1 => ?_)
  · replace hb1 := dF hb1
    refine me0 (pc' := 11) (S' := [ii 0]) dm_X12_unlike_10 rfl rfl rfl rfl ?_
    refine me1 (pc' := 12) (L' := [(3, ii 0), (0, .ref 102), (1, ii (hd : Int)), (2, ii place)]) (S' := []) dm_X12_unlike_11 rfl rfl rfl rfl ?_
    refine me0 (pc' := 13) (S' := [ii 0]) dm_X12_unlike_12 rfl rfl rfl rfl ?_
    refine me1 (pc' := 15) (L' := [(4, ii 0), (3, ii 0), (0, .ref 102), (1, ii (hd : Int)), (2, ii place)]) (S' := []) dm_X12_unlike_13 rfl rfl rfl rfl ?_
    have lp15 : ∀ (n15 : Nat) (k : Nat) (n : Nat) (o : Nat → Nat) (t : RS), vm v - k = n15 → (k ≤ vm v) → (unq (isame (e + 1) v) k = (n, o)) → (rpre s t) → (∀ j, j < n → t.2.2.1 14 j = ((o j : Nat) : Int)) → pgE xt (d - 1) 12 7 false (Option.some Jvm.ClassFile.FieldType.int) (mj_dec prog_14_method_39_code) 15 [(0, .ref 102), (1, ii (hd : Int)), (2, ii place), (3, ii ((n : Nat) : Int)), (4, ii ((k : Nat) : Int))] [] (rI pre post t.1 t.2.1 t.2.2.1 t.2.2.2) (fun r h' => ∃ x, r = some x ∧ rres pre post s (e + 2) (m_unl (e + 1) v) place 144 ((unq (isame (e + 1) v) (vm v)).1 + 1) x h') := by
      intro n15
      induction n15 using Nat.strongRecOn with
      | ind n15 ih15 =>
        intro k n o t hm15 hk hfe hpt hO
        have hfl : n ≤ k := by have := (unq_le (isame (e + 1) v) k).1; rw [hfe] at this; exact this
        have hfl2 : ∀ j, j < n → o j < k := by have := (unq_le (isame (e + 1) v) k).2; rw [hfe] at this; exact this
        have hvt := rv_ext hpt.1 hh3 hv
        have hBt := rB_pre hpt hB0
        refine me1 (pc' := 17) (L' := [(0, .ref 102), (1, ii (hd : Int)), (2, ii place), (3, ii ((n : Nat) : Int)), (4, ii ((k : Nat) : Int))]) (S' := [ii ((k : Nat) : Int)]) dm_X12_unlike_15 rfl rfl rfl rfl ?_
        refine me1 (pc' := 18) (L' := [(0, .ref 102), (1, ii (hd : Int)), (2, ii place), (3, ii ((n : Nat) : Int)), (4, ii ((k : Nat) : Int))]) (S' := [.ref 102, ii ((k : Nat) : Int)]) dm_X12_unlike_17 rfl rfl rfl rfl ?_
        refine me1 (pc' := 19) (L' := [(0, .ref 102), (1, ii (hd : Int)), (2, ii place), (3, ii ((n : Nat) : Int)), (4, ii ((k : Nat) : Int))]) (S' := [ii (hd : Int), .ref 102, ii ((k : Nat) : Int)]) dm_X12_unlike_18 rfl rfl rfl rfl ?_
        refine x_cp (pc' := 22) (v := ii (vm v : Int)) (rest := [ii ((k : Nat) : Int)]) dm_X12_unlike_19 rfl (q_inv (As := [ii (hd : Int)]) (S := [ii ((k : Nat) : Int)]) hm rfl rfl rfl) rfl rfl rfl (r_many_ hm (by omega) hBt hvt) ?_
        refine y_2ge (a := ((k : Nat) : Int)) (b := (vm v : Int)) (t := 100) (pc' := 25) dm_X12_unlike_22 rfl rfl (by omega) (fun hb2 => ?_) (fun hb2 => ?_)
        · have hkn : k = vm v := by omega
          rw [hkn] at hfe hfl hfl2
          refine me1 (pc' := 101) (L' := [(0, .ref 102), (1, ii (hd : Int)), (2, ii place), (3, ii ((n : Nat) : Int)), (4, ii ((k : Nat) : Int))]) (S' := [.ref 102]) dm_X12_unlike_100 rfl rfl rfl rfl ?_
          refine me1 (pc' := 102) (L' := [(0, .ref 102), (1, ii (hd : Int)), (2, ii place), (3, ii ((n : Nat) : Int)), (4, ii ((k : Nat) : Int))]) (S' := [ii (hd : Int), .ref 102]) dm_X12_unlike_101 rfl rfl rfl rfl ?_
          refine x_cp (pc' := 105) (v := ii (vk v : Int)) (rest := []) dm_X12_unlike_102 rfl (q_inv (As := [ii (hd : Int)]) (S := []) hm rfl rfl rfl) rfl rfl rfl (r_kindOf_ hm (by omega) hBt hvt) ?_
          refine me0 (pc' := 107) (S' := [ii 6, ii (vk v : Int)]) dm_X12_unlike_105 rfl rfl rfl rfl ?_
          refine y_2eq (a := (vk v : Int)) (b := 6) (t := 117) (pc' := 110) dm_X12_unlike_107 rfl rfl (by omega) (fun hb3 => ?_) (fun hb3 => ?_)
          · have ht13 : t.1 13 = (base : Int) := (hpt.2.1.1 13 (by decide) (by decide) (by decide) (by decide) (by decide)).trans hw13
            have ht3 : t.1 3 = (b : Int) := hpt.2.2.1.trans hb
            have ht4 : t.1 4 = (q : Int) := hpt.2.2.2.1.trans hq
            have h12 := h6c (by omega)
            refine me1 (pc' := 118) (L' := [(0, .ref 102), (1, ii (hd : Int)), (2, ii place), (3, ii ((n : Nat) : Int)), (4, ii ((k : Nat) : Int))]) (S' := [.ref 102]) dm_X12_unlike_117 rfl rfl rfl rfl ?_
            refine me3 (pc' := 121) (S' := [ii (t.1 13)]) dm_X12_unlike_118 (q_geti (v := t.1 13) hm rfl (fun m i l => rg_13 m i l) rfl) rfl rfl rfl ?_
            refine pg_st (S' := [ii ((base : Nat) : Int)]) (congrArg (fun z => ii z :: []) (ht13)) ?_
            refine me1 (pc' := 123) (L' := [(4, ii ((base : Nat) : Int)), (0, .ref 102), (1, ii (hd : Int)), (2, ii place), (3, ii ((n : Nat) : Int))]) (S' := []) dm_X12_unlike_121 rfl rfl rfl rfl ?_
            refine me0 (pc' := 124) (S' := [ii 0]) dm_X12_unlike_123 rfl rfl rfl rfl ?_
            refine me1 (pc' := 126) (L' := [(5, ii 0), (4, ii ((base : Nat) : Int)), (0, .ref 102), (1, ii (hd : Int)), (2, ii place), (3, ii ((n : Nat) : Int))]) (S' := []) dm_X12_unlike_124 rfl rfl rfl rfl ?_
            have lp126 : ∀ (n126 : Nat) (k2 : Nat) (y : RS), n - k2 = n126 → (k2 ≤ n) → (rpw t y base k2 (e + 1) (fun k => vit v (o k))) → (y.1 3 = (b : Int)) → ((q : Int) ≤ y.1 4 ∧ y.1 4 ≤ (q : Int) + ((k2 : Nat) : Int)) → (∀ j, j < n → y.2.2.1 14 j = ((o j : Nat) : Int)) → pgE xt (d - 1) 12 7 false (Option.some Jvm.ClassFile.FieldType.int) (mj_dec prog_14_method_39_code) 126 [(0, .ref 102), (1, ii (hd : Int)), (2, ii place), (3, ii ((n : Nat) : Int)), (4, ii ((base : Nat) : Int)), (5, ii ((k2 : Nat) : Int))] [] (rI pre post y.1 y.2.1 y.2.2.1 y.2.2.2) (fun r h' => ∃ x, r = some x ∧ rres pre post s (e + 2) (m_unl (e + 1) v) place 144 ((unq (isame (e + 1) v) (vm v)).1 + 1) x h') := by
              intro n126
              induction n126 using Nat.strongRecOn with
              | ind n126 ih126 =>
                intro k2 y hm126 hk2 hpw hy3 hy4 hyO
                obtain ⟨qt, hqt⟩ : ∃ qt : Nat, y.1 4 = (qt : Int) := ⟨(y.1 4).toNat, by omega⟩
                have hBy : rB y := ⟨by omega, by omega, by omega, by omega⟩
                have he0y : y.1 5 = 0 := hpw.2.2.2.2.2.2.2.1.trans (hpt.2.2.2.2.1.trans he0)
                have h10y : y.1 10 = s.1 10 := (hpw.2.1 10 (by decide) (by decide) (by decide) (by decide) (by decide) (by decide)).trans hpt.2.2.2.2.2.2.1
                have hvy := rv_ext hpw.1 hh3 hvt
                refine me1 (pc' := 128) (L' := [(0, .ref 102), (1, ii (hd : Int)), (2, ii place), (3, ii ((n : Nat) : Int)), (4, ii ((base : Nat) : Int)), (5, ii ((k2 : Nat) : Int))]) (S' := [ii ((k2 : Nat) : Int)]) dm_X12_unlike_126 rfl rfl rfl rfl ?_
                refine me1 (pc' := 129) (L' := [(0, .ref 102), (1, ii (hd : Int)), (2, ii place), (3, ii ((n : Nat) : Int)), (4, ii ((base : Nat) : Int)), (5, ii ((k2 : Nat) : Int))]) (S' := [ii ((n : Nat) : Int), ii ((k2 : Nat) : Int)]) dm_X12_unlike_128 rfl rfl rfl rfl ?_
                refine y_2ge (a := ((k2 : Nat) : Int)) (b := ((n : Nat) : Int)) (t := 154) (pc' := 132) dm_X12_unlike_129 rfl rfl (by omega) (fun hb4 => ?_) (fun hb4 => ?_)
                · refine me1 (pc' := 155) (L' := [(0, .ref 102), (1, ii (hd : Int)), (2, ii place), (3, ii ((n : Nat) : Int)), (4, ii ((base : Nat) : Int)), (5, ii ((k2 : Nat) : Int))]) (S' := [.ref 102]) dm_X12_unlike_154 rfl rfl rfl rfl ?_
                  refine me1 (pc' := 157) (L' := [(0, .ref 102), (1, ii (hd : Int)), (2, ii place), (3, ii ((n : Nat) : Int)), (4, ii ((base : Nat) : Int)), (5, ii ((k2 : Nat) : Int))]) (S' := [ii ((base : Nat) : Int), .ref 102]) dm_X12_unlike_155 rfl rfl rfl rfl ?_
                  have hk2n : k2 = n := by omega
                  rw [hk2n] at hpw
                  refine x_cv (pc' := 160) (rest := []) dm_X12_unlike_157 rfl (q_inv (As := [ii ((base : Nat) : Int)]) (S := []) hm rfl rfl rfl) rfl rfl rfl (r_nest_ (s := y) (q := qt) (b := b) (n := n) (base := base) hm (by omega) hqt hy3 (by omega) (by omega) he0y (by omega) (by omega) hpw.2.2.1 (by omega) (rpw_O hpw (by omega))) ?_
                  rintro _ _ ⟨rfl, rfl⟩
                  refine y_ret (r := some (ii (qt : Int))) dm_X12_unlike_160 rfl rfl rfl ?_
                  rw [m_unl_t (by omega) hfe]
                  exact ⟨_, rfl, rres_bk hpt (rpw_nest hpw ht13 (hpt.2.2.2.2.1.trans he0) hqt (by omega) hy3 (by omega) (by rw [hpt.2.2.1]; omega) (by omega) (by have hfn : (unq (isame (e + 1) v) (vm v)).1 = n := (congrArg Prod.fst hfe); rw [hpt.2.2.2.1]; omega))⟩
                · refine me1 (pc' := 133) (L' := [(0, .ref 102), (1, ii (hd : Int)), (2, ii place), (3, ii ((n : Nat) : Int)), (4, ii ((base : Nat) : Int)), (5, ii ((k2 : Nat) : Int))]) (S' := [.ref 102]) dm_X12_unlike_132 rfl rfl rfl rfl ?_
                  refine me1 (pc' := 134) (L' := [(0, .ref 102), (1, ii (hd : Int)), (2, ii place), (3, ii ((n : Nat) : Int)), (4, ii ((base : Nat) : Int)), (5, ii ((k2 : Nat) : Int))]) (S' := [.ref 102, .ref 102]) dm_X12_unlike_133 rfl rfl rfl rfl ?_
                  refine me1 (pc' := 135) (L' := [(0, .ref 102), (1, ii (hd : Int)), (2, ii place), (3, ii ((n : Nat) : Int)), (4, ii ((base : Nat) : Int)), (5, ii ((k2 : Nat) : Int))]) (S' := [ii (hd : Int), .ref 102, .ref 102]) dm_X12_unlike_134 rfl rfl rfl rfl ?_
                  refine me1 (pc' := 136) (L' := [(0, .ref 102), (1, ii (hd : Int)), (2, ii place), (3, ii ((n : Nat) : Int)), (4, ii ((base : Nat) : Int)), (5, ii ((k2 : Nat) : Int))]) (S' := [.ref 102, ii (hd : Int), .ref 102, .ref 102]) dm_X12_unlike_135 rfl rfl rfl rfl ?_
                  refine me3 (pc' := 139) (S' := [.ref (102 + 5), ii (hd : Int), .ref 102, .ref 102]) dm_X12_unlike_136 (q_getr hm rfl (fun m i l => rg_14 m i l)) rfl rfl rfl ?_
                  refine me1 (pc' := 141) (L' := [(0, .ref 102), (1, ii (hd : Int)), (2, ii place), (3, ii ((n : Nat) : Int)), (4, ii ((base : Nat) : Int)), (5, ii ((k2 : Nat) : Int))]) (S' := [ii ((k2 : Nat) : Int), .ref (102 + 5), ii (hd : Int), .ref 102, .ref 102]) dm_X12_unlike_139 rfl rfl rfl rfl ?_
                  refine me3 (pc' := 142) (S' := [ii ((y.2.2.1 14) k2), ii (hd : Int), .ref 102, .ref 102]) dm_X12_unlike_141 (q_iald (v := (y.2.2.1 14) k2) (k := 14) (n := 260) hm (fun m i l I J => rc_14 m i l I J) (by omega) (by omega) (by decide) rfl) rfl rfl rfl ?_
                  refine pg_st (S' := [ii ((o k2 : Nat) : Int), ii (hd : Int), .ref 102, .ref 102]) (congrArg (fun z => ii z :: [ii (hd : Int), .ref 102, .ref 102]) (hyO k2 (by omega))) ?_
                  have hok := hfl2 k2 (by omega)
                  refine x_cv (pc' := 145) (rest := [.ref 102]) dm_X12_unlike_142 rfl (q_inv (As := [ii (hd : Int), ii ((o k2 : Nat) : Int)]) (S := [.ref 102]) hm rfl rfl rfl) rfl rfl rfl (r_itemOfO_ (s := y) (q := qt) (b := b) (place := place) (k := o k2) hm (by omega) hBy hvy hh3 hqt hy3 (by omega) (by omega) he0y (by rw [h10y]; exact hca) hC (by omega) (by omega)) ?_
                  rintro _ _ ⟨t1, rfl, r1, r2, r3, r4, r5, r6, r9, p1, r7, rfl, r8⟩
                  refine x_cn (pc' := 148) (rest := []) dm_X12_unlike_145 rfl (q_inv (As := [ii (p1 : Int)]) (S := []) hm rfl rfl rfl) rfl rfl rfl (r_push_ (s := t1) (n := base + k2) hm (by omega) ((r2.1 13 (by decide) (by decide) (by decide) (by decide) (by decide)).trans hpw.2.2.1) (by omega)) ?_
                  rintro _ rfl
                  refine y_iinc (pc' := 151) (L' := [(5, ii (((k2 : Nat) : Int) + 1)), (0, .ref 102), (1, ii (hd : Int)), (2, ii place), (3, ii ((n : Nat) : Int)), (4, ii ((base : Nat) : Int))]) dm_X12_unlike_148 (y_incp (a := ((k2 : Nat) : Int)) (c := 1) rfl rfl (by decide)) rfl ?_
                  refine me2 (pc' := 126) (S' := []) dm_X12_unlike_151 rfl rfl rfl ?_
                  exact pg_sub (L := [(0, .ref 102), (1, ii (hd : Int)), (2, ii place), (3, ii ((n : Nat) : Int)), (4, ii ((base : Nat) : Int)), (5, ii (((k2 + 1) : Nat) : Int))]) rfl rfl rfl (ih126 (n - (k2 + 1)) (by omega) (k2 + 1) (pushS t1 (base + k2) (p1 : Int)) rfl (by omega) (rpw_push (rpw_fr hpw r1 r2 (r5.trans he0y.symm) r6) r7 r8) (show t1.1 3 = _ by omega) (show (q : Int) ≤ t1.1 4 ∧ t1.1 4 ≤ _ by have := r1.1; omega) (fun j hj => (show (pushS t1 (base + k2) (p1 : Int)).2.2.1 14 j = t1.2.2.1 14 j from rfl).trans (by rw [r9]; exact hyO j hj)))
            exact pg_sub (L := [(0, .ref 102), (1, ii (hd : Int)), (2, ii place), (3, ii ((n : Nat) : Int)), (4, ii ((base : Nat) : Int)), (5, ii ((0 : Nat) : Int))]) rfl rfl rfl (lp126 _ 0 t rfl (Nat.zero_le _) (rpw_0 ht13) ht3 (by omega) hO)
          · have hpc : pcl v n ≤ 144 := by unfold pcl; split; (have hm12 := Nat.mul_le_mul (show n ≤ 12 by omega) hvc; omega); omega
            refine me1 (pc' := 111) (L' := [(0, .ref 102), (1, ii (hd : Int)), (2, ii place), (3, ii ((n : Nat) : Int)), (4, ii ((k : Nat) : Int))]) (S' := [.ref 102]) dm_X12_unlike_110 rfl rfl rfl rfl ?_
            refine me1 (pc' := 112) (L' := [(0, .ref 102), (1, ii (hd : Int)), (2, ii place), (3, ii ((n : Nat) : Int)), (4, ii ((k : Nat) : Int))]) (S' := [ii (hd : Int), .ref 102]) dm_X12_unlike_111 rfl rfl rfl rfl ?_
            refine me1 (pc' := 113) (L' := [(0, .ref 102), (1, ii (hd : Int)), (2, ii place), (3, ii ((n : Nat) : Int)), (4, ii ((k : Nat) : Int))]) (S' := [ii ((n : Nat) : Int), ii (hd : Int), .ref 102]) dm_X12_unlike_112 rfl rfl rfl rfl ?_
            have hOO : ∀ j, j < n → 0 ≤ t.2.2.1 14 j ∧ t.2.2.1 14 j < vm v := fun j hj => by rw [hO j hj]; have := hfl2 j hj; omega
            refine x_cv (pc' := 116) (rest := []) dm_X12_unlike_113 rfl (q_inv (As := [ii (hd : Int), ii ((n : Nat) : Int)]) (S := []) hm rfl rfl rfl) rfl rfl rfl (r_picked_ (s := t) (q := q) (b := b) (place := place) hm (by omega) hBt hvt hh3 (by rw [hpt.2.2.2.1]; exact hq) (by rw [hpt.2.2.1]; exact hb) hq3 hV2 (by rw [hpt.2.2.2.2.1]; exact he0) (n := n) (by omega) (by omega) (by omega) (by omega) hOO) ?_
            rintro _ _ ⟨t1, rfl, r1, r2, r3, r4, r5, r6, p1, r7, rfl, r8⟩
            refine y_ret (r := some (ii (p1 : Int))) dm_X12_unlike_116 rfl rfl rfl ?_
            rw [m_unl_p (by omega) (by omega) (by omega) hfe]
            refine ⟨_, rfl, rres_up (rres_dup (rres_bk hpt (rres_ve (vpick_congr (by omega) (fun j hj => ?_)) ⟨t1, rfl, r1, r2, r3, r4, r5, r6, p1, r7, rfl, r8⟩))) hpc (by omega)⟩
            show (t.2.2.1 14 j).toNat = _
            rw [hO j hj]
            rfl
        · refine me0 (pc' := 26) (S' := [ii 0]) dm_X12_unlike_25 rfl rfl rfl rfl ?_
          refine me1 (pc' := 28) (L' := [(5, ii 0), (0, .ref 102), (1, ii (hd : Int)), (2, ii place), (3, ii ((n : Nat) : Int)), (4, ii ((k : Nat) : Int))]) (S' := []) dm_X12_unlike_26 rfl rfl rfl rfl ?_
          refine me0 (pc' := 29) (S' := [ii 0]) dm_X12_unlike_28 rfl rfl rfl rfl ?_
          refine me1 (pc' := 31) (L' := [(6, ii 0), (5, ii 0), (0, .ref 102), (1, ii (hd : Int)), (2, ii place), (3, ii ((n : Nat) : Int)), (4, ii ((k : Nat) : Int))]) (S' := []) dm_X12_unlike_29 rfl rfl rfl rfl ?_
          have lp31 : ∀ (n31 : Nat) (i : Nat) (c : Bool) (u : RS), n - i = n31 → (i ≤ n) → (c = false → ∀ j, j < i → isame (e + 1) v k (o j) = false) → (c = true → ∃ j, j < n ∧ isame (e + 1) v k (o j) = true) → (rpre s u) → (∀ j, j < n → u.2.2.1 14 j = ((o j : Nat) : Int)) → pgE xt (d - 1) 12 7 false (Option.some Jvm.ClassFile.FieldType.int) (mj_dec prog_14_method_39_code) 31 [(0, .ref 102), (1, ii (hd : Int)), (2, ii place), (3, ii ((n : Nat) : Int)), (4, ii ((k : Nat) : Int)), (5, zz c), (6, ii ((i : Nat) : Int))] [] (rI pre post u.1 u.2.1 u.2.2.1 u.2.2.2) (fun r h' => ∃ x, r = some x ∧ rres pre post s (e + 2) (m_unl (e + 1) v) place 144 ((unq (isame (e + 1) v) (vm v)).1 + 1) x h') := by
            intro n31
            induction n31 using Nat.strongRecOn with
            | ind n31 ih31 =>
              intro i c u hm31 hi hc0 hc1 hpu hOu
              have hvu := rv_ext hpu.1 hh3 hv
              have hBu := rB_pre hpu hB0
              have hu4 : u.1 4 = s.1 4 := hpu.2.2.2.1
              refine me1 (pc' := 33) (L' := [(0, .ref 102), (1, ii (hd : Int)), (2, ii place), (3, ii ((n : Nat) : Int)), (4, ii ((k : Nat) : Int)), (5, zz c), (6, ii ((i : Nat) : Int))]) (S' := [ii ((i : Nat) : Int)]) dm_X12_unlike_31 rfl rfl rfl rfl ?_
              refine me1 (pc' := 34) (L' := [(0, .ref 102), (1, ii (hd : Int)), (2, ii place), (3, ii ((n : Nat) : Int)), (4, ii ((k : Nat) : Int)), (5, zz c), (6, ii ((i : Nat) : Int))]) (S' := [ii ((n : Nat) : Int), ii ((i : Nat) : Int)]) dm_X12_unlike_33 rfl rfl rfl rfl ?_
              refine y_2ge (a := ((i : Nat) : Int)) (b := ((n : Nat) : Int)) (t := 75) (pc' := 37) dm_X12_unlike_34 rfl rfl (by omega) (fun hb5 => ?_) (fun hb5 => ?_)
              · refine me1 (pc' := 77) (L' := [(0, .ref 102), (1, ii (hd : Int)), (2, ii place), (3, ii ((n : Nat) : Int)), (4, ii ((k : Nat) : Int)), (5, zz c), (6, ii ((i : Nat) : Int))]) (S' := [zz c]) dm_X12_unlike_75 rfl rfl rfl rfl ?_
                refine y_zeq (c := c) (t := 83) (pc' := 80) dm_X12_unlike_77 rfl rfl (fun hb6 => ?_) (fun hb6 => ?_)
                · have hwo : allN n (fun j => !(isame (e + 1) v k (o j))) = true := by first | exact allN_ye (fun j hj => hc0 hb6 j (by omega)) | exact Bool.noConfusion (hcT.symm.trans hb6)
                  refine me1 (pc' := 84) (L' := [(0, .ref 102), (1, ii (hd : Int)), (2, ii place), (3, ii ((n : Nat) : Int)), (4, ii ((k : Nat) : Int)), (5, zz c), (6, ii ((i : Nat) : Int))]) (S' := [.ref 102]) dm_X12_unlike_83 rfl rfl rfl rfl ?_
                  refine me3 (pc' := 87) (S' := [.ref (102 + 5)]) dm_X12_unlike_84 (q_getr hm rfl (fun m i l => rg_14 m i l)) rfl rfl rfl ?_
                  refine me1 (pc' := 88) (L' := [(0, .ref 102), (1, ii (hd : Int)), (2, ii place), (3, ii ((n : Nat) : Int)), (4, ii ((k : Nat) : Int)), (5, zz c), (6, ii ((i : Nat) : Int))]) (S' := [ii ((n : Nat) : Int), .ref (102 + 5)]) dm_X12_unlike_87 rfl rfl rfl rfl ?_
                  refine me1 (pc' := 90) (L' := [(0, .ref 102), (1, ii (hd : Int)), (2, ii place), (3, ii ((n : Nat) : Int)), (4, ii ((k : Nat) : Int)), (5, zz c), (6, ii ((i : Nat) : Int))]) (S' := [ii ((k : Nat) : Int), ii ((n : Nat) : Int), .ref (102 + 5)]) dm_X12_unlike_88 rfl rfl rfl rfl ?_
                  refine me3 (pc' := 91) (S' := []) (h1 := rI pre post u.1 u.2.1 (va_up u.2.2.1 14 (va_up (u.2.2.1 14) n ((k : Nat) : Int))) u.2.2.2) dm_X12_unlike_90 (q_iast (j := ((n : Nat) : Int)) (k := 14) (n := 260) hm (fun m i l I J => rc_14 m i l I J) (fun m i l I J f => rs_14 m i l I J f) (by omega) (by omega) (by decide)) rfl rfl rfl ?_
                  refine pg_cast (h2 := rI pre post ((ordS u (va_up (u.2.2.1 14) n ((k : Nat) : Int))).1) ((ordS u (va_up (u.2.2.1 14) n ((k : Nat) : Int))).2.1) ((ordS u (va_up (u.2.2.1 14) n ((k : Nat) : Int))).2.2.1) ((ordS u (va_up (u.2.2.1 14) n ((k : Nat) : Int))).2.2.2)) rfl ?_
                  refine y_iinc (pc' := 94) (L' := [(3, ii (((n : Nat) : Int) + 1)), (0, .ref 102), (1, ii (hd : Int)), (2, ii place), (4, ii ((k : Nat) : Int)), (5, zz c), (6, ii ((i : Nat) : Int))]) dm_X12_unlike_91 (y_incp (a := ((n : Nat) : Int)) (c := 1) rfl rfl (by decide)) rfl ?_
                  refine y_iinc (pc' := 97) (L' := [(4, ii (((k : Nat) : Int) + 1)), (3, ii (((n : Nat) : Int) + 1)), (0, .ref 102), (1, ii (hd : Int)), (2, ii place), (5, zz c), (6, ii ((i : Nat) : Int))]) dm_X12_unlike_94 (y_incp (a := ((k : Nat) : Int)) (c := 1) rfl rfl (by decide)) rfl ?_
                  refine me2 (pc' := 15) (S' := []) dm_X12_unlike_97 rfl rfl rfl ?_
                  exact pg_sub (L := [(0, .ref 102), (1, ii (hd : Int)), (2, ii place), (3, ii (((n + 1) : Nat) : Int)), (4, ii (((k + 1) : Nat) : Int))]) rfl rfl rfl (ih15 (vm v - (k + 1)) (by omega) (k + 1) (n + 1) (va_up o n k) (ordS u (va_up (u.2.2.1 14) n ((k : Nat) : Int))) rfl (by omega) (by rw [unq_s (by rw [hfe]; exact hwo), hfe]) (rpre_tr hpu (rpre_ord u _)) (fun j hj => by rw [ordS_14, up_at, up_at]; by_cases z : j = n; (rw [if_pos z, if_pos z]); (rw [if_neg z, if_neg z]; exact hOu j (by omega))))
                · have hwo : allN n (fun j => !(isame (e + 1) v k (o j))) = false := allN_no (hc1 hb6)
                  refine me2 (pc' := 94) (S' := []) dm_X12_unlike_80 rfl rfl rfl ?_
                  refine y_iinc (pc' := 97) (L' := [(4, ii (((k : Nat) : Int) + 1)), (0, .ref 102), (1, ii (hd : Int)), (2, ii place), (3, ii ((n : Nat) : Int)), (5, zz c), (6, ii ((i : Nat) : Int))]) dm_X12_unlike_94 (y_incp (a := ((k : Nat) : Int)) (c := 1) rfl rfl (by decide)) rfl ?_
                  refine me2 (pc' := 15) (S' := []) dm_X12_unlike_97 rfl rfl rfl ?_
                  exact pg_sub (L := [(0, .ref 102), (1, ii (hd : Int)), (2, ii place), (3, ii ((n : Nat) : Int)), (4, ii (((k + 1) : Nat) : Int))]) rfl rfl rfl (ih15 (vm v - (k + 1)) (by omega) (k + 1) n o u rfl (by omega) ((unq_n (by rw [hfe]; exact hwo)).trans hfe) hpu hOu)
              · refine me1 (pc' := 39) (L' := [(0, .ref 102), (1, ii (hd : Int)), (2, ii place), (3, ii ((n : Nat) : Int)), (4, ii ((k : Nat) : Int)), (5, zz c), (6, ii ((i : Nat) : Int))]) (S' := [zz c]) dm_X12_unlike_37 rfl rfl rfl rfl ?_
                refine y_zne (c := c) (t := 75) (pc' := 42) dm_X12_unlike_39 rfl rfl (fun hb7 => ?_) (fun hb7 => ?_)
                · have hcT : c = true := hb7
                  refine me1 (pc' := 77) (L' := [(0, .ref 102), (1, ii (hd : Int)), (2, ii place), (3, ii ((n : Nat) : Int)), (4, ii ((k : Nat) : Int)), (5, zz c), (6, ii ((i : Nat) : Int))]) (S' := [zz c]) dm_X12_unlike_75 rfl rfl rfl rfl ?_
                  refine y_zeq (c := c) (t := 83) (pc' := 80) dm_X12_unlike_77 rfl rfl (fun hb8 => ?_) (fun hb8 => ?_)
                  · have hwo : allN n (fun j => !(isame (e + 1) v k (o j))) = true := by first | exact allN_ye (fun j hj => hc0 hb8 j (by omega)) | exact Bool.noConfusion (hcT.symm.trans hb8)
                    refine me1 (pc' := 84) (L' := [(0, .ref 102), (1, ii (hd : Int)), (2, ii place), (3, ii ((n : Nat) : Int)), (4, ii ((k : Nat) : Int)), (5, zz c), (6, ii ((i : Nat) : Int))]) (S' := [.ref 102]) dm_X12_unlike_83 rfl rfl rfl rfl ?_
                    refine me3 (pc' := 87) (S' := [.ref (102 + 5)]) dm_X12_unlike_84 (q_getr hm rfl (fun m i l => rg_14 m i l)) rfl rfl rfl ?_
                    refine me1 (pc' := 88) (L' := [(0, .ref 102), (1, ii (hd : Int)), (2, ii place), (3, ii ((n : Nat) : Int)), (4, ii ((k : Nat) : Int)), (5, zz c), (6, ii ((i : Nat) : Int))]) (S' := [ii ((n : Nat) : Int), .ref (102 + 5)]) dm_X12_unlike_87 rfl rfl rfl rfl ?_
                    refine me1 (pc' := 90) (L' := [(0, .ref 102), (1, ii (hd : Int)), (2, ii place), (3, ii ((n : Nat) : Int)), (4, ii ((k : Nat) : Int)), (5, zz c), (6, ii ((i : Nat) : Int))]) (S' := [ii ((k : Nat) : Int), ii ((n : Nat) : Int), .ref (102 + 5)]) dm_X12_unlike_88 rfl rfl rfl rfl ?_
                    refine me3 (pc' := 91) (S' := []) (h1 := rI pre post u.1 u.2.1 (va_up u.2.2.1 14 (va_up (u.2.2.1 14) n ((k : Nat) : Int))) u.2.2.2) dm_X12_unlike_90 (q_iast (j := ((n : Nat) : Int)) (k := 14) (n := 260) hm (fun m i l I J => rc_14 m i l I J) (fun m i l I J f => rs_14 m i l I J f) (by omega) (by omega) (by decide)) rfl rfl rfl ?_
                    refine pg_cast (h2 := rI pre post ((ordS u (va_up (u.2.2.1 14) n ((k : Nat) : Int))).1) ((ordS u (va_up (u.2.2.1 14) n ((k : Nat) : Int))).2.1) ((ordS u (va_up (u.2.2.1 14) n ((k : Nat) : Int))).2.2.1) ((ordS u (va_up (u.2.2.1 14) n ((k : Nat) : Int))).2.2.2)) rfl ?_
                    refine y_iinc (pc' := 94) (L' := [(3, ii (((n : Nat) : Int) + 1)), (0, .ref 102), (1, ii (hd : Int)), (2, ii place), (4, ii ((k : Nat) : Int)), (5, zz c), (6, ii ((i : Nat) : Int))]) dm_X12_unlike_91 (y_incp (a := ((n : Nat) : Int)) (c := 1) rfl rfl (by decide)) rfl ?_
                    refine y_iinc (pc' := 97) (L' := [(4, ii (((k : Nat) : Int) + 1)), (3, ii (((n : Nat) : Int) + 1)), (0, .ref 102), (1, ii (hd : Int)), (2, ii place), (5, zz c), (6, ii ((i : Nat) : Int))]) dm_X12_unlike_94 (y_incp (a := ((k : Nat) : Int)) (c := 1) rfl rfl (by decide)) rfl ?_
                    refine me2 (pc' := 15) (S' := []) dm_X12_unlike_97 rfl rfl rfl ?_
                    exact pg_sub (L := [(0, .ref 102), (1, ii (hd : Int)), (2, ii place), (3, ii (((n + 1) : Nat) : Int)), (4, ii (((k + 1) : Nat) : Int))]) rfl rfl rfl (ih15 (vm v - (k + 1)) (by omega) (k + 1) (n + 1) (va_up o n k) (ordS u (va_up (u.2.2.1 14) n ((k : Nat) : Int))) rfl (by omega) (by rw [unq_s (by rw [hfe]; exact hwo), hfe]) (rpre_tr hpu (rpre_ord u _)) (fun j hj => by rw [ordS_14, up_at, up_at]; by_cases z : j = n; (rw [if_pos z, if_pos z]); (rw [if_neg z, if_neg z]; exact hOu j (by omega))))
                  · have hwo : allN n (fun j => !(isame (e + 1) v k (o j))) = false := allN_no (hc1 hb8)
                    refine me2 (pc' := 94) (S' := []) dm_X12_unlike_80 rfl rfl rfl ?_
                    refine y_iinc (pc' := 97) (L' := [(4, ii (((k : Nat) : Int) + 1)), (0, .ref 102), (1, ii (hd : Int)), (2, ii place), (3, ii ((n : Nat) : Int)), (5, zz c), (6, ii ((i : Nat) : Int))]) dm_X12_unlike_94 (y_incp (a := ((k : Nat) : Int)) (c := 1) rfl rfl (by decide)) rfl ?_
                    refine me2 (pc' := 15) (S' := []) dm_X12_unlike_97 rfl rfl rfl ?_
                    exact pg_sub (L := [(0, .ref 102), (1, ii (hd : Int)), (2, ii place), (3, ii ((n : Nat) : Int)), (4, ii (((k + 1) : Nat) : Int))]) rfl rfl rfl (ih15 (vm v - (k + 1)) (by omega) (k + 1) n o u rfl (by omega) ((unq_n (by rw [hfe]; exact hwo)).trans hfe) hpu hOu)
                · have hcv := hb7
                  refine me1 (pc' := 43) (L' := [(0, .ref 102), (1, ii (hd : Int)), (2, ii place), (3, ii ((n : Nat) : Int)), (4, ii ((k : Nat) : Int)), (5, zz c), (6, ii ((i : Nat) : Int))]) (S' := [.ref 102]) dm_X12_unlike_42 rfl rfl rfl rfl ?_
                  refine me1 (pc' := 44) (L' := [(0, .ref 102), (1, ii (hd : Int)), (2, ii place), (3, ii ((n : Nat) : Int)), (4, ii ((k : Nat) : Int)), (5, zz c), (6, ii ((i : Nat) : Int))]) (S' := [.ref 102, .ref 102]) dm_X12_unlike_43 rfl rfl rfl rfl ?_
                  refine me1 (pc' := 45) (L' := [(0, .ref 102), (1, ii (hd : Int)), (2, ii place), (3, ii ((n : Nat) : Int)), (4, ii ((k : Nat) : Int)), (5, zz c), (6, ii ((i : Nat) : Int))]) (S' := [ii (hd : Int), .ref 102, .ref 102]) dm_X12_unlike_44 rfl rfl rfl rfl ?_
                  refine me1 (pc' := 46) (L' := [(0, .ref 102), (1, ii (hd : Int)), (2, ii place), (3, ii ((n : Nat) : Int)), (4, ii ((k : Nat) : Int)), (5, zz c), (6, ii ((i : Nat) : Int))]) (S' := [.ref 102, ii (hd : Int), .ref 102, .ref 102]) dm_X12_unlike_45 rfl rfl rfl rfl ?_
                  refine me3 (pc' := 49) (S' := [.ref (102 + 5), ii (hd : Int), .ref 102, .ref 102]) dm_X12_unlike_46 (q_getr hm rfl (fun m i l => rg_14 m i l)) rfl rfl rfl ?_
                  refine me1 (pc' := 51) (L' := [(0, .ref 102), (1, ii (hd : Int)), (2, ii place), (3, ii ((n : Nat) : Int)), (4, ii ((k : Nat) : Int)), (5, zz c), (6, ii ((i : Nat) : Int))]) (S' := [ii ((i : Nat) : Int), .ref (102 + 5), ii (hd : Int), .ref 102, .ref 102]) dm_X12_unlike_49 rfl rfl rfl rfl ?_
                  refine me3 (pc' := 52) (S' := [ii ((u.2.2.1 14) i), ii (hd : Int), .ref 102, .ref 102]) dm_X12_unlike_51 (q_iald (v := (u.2.2.1 14) i) (k := 14) (n := 260) hm (fun m i l I J => rc_14 m i l I J) (by omega) (by omega) (by decide) rfl) rfl rfl rfl ?_
                  refine pg_st (S' := [ii ((o i : Nat) : Int), ii (hd : Int), .ref 102, .ref 102]) (congrArg (fun z => ii z :: [ii (hd : Int), .ref 102, .ref 102]) (hOu i (by omega))) ?_
                  refine me0 (pc' := 53) (S' := [ii 0, ii ((o i : Nat) : Int), ii (hd : Int), .ref 102, .ref 102]) dm_X12_unlike_52 rfl rfl rfl rfl ?_
                  have hoi := hfl2 i (by omega)
                  refine x_cv (pc' := 56) (rest := [.ref 102]) dm_X12_unlike_53 rfl (q_inv (As := [ii (hd : Int), ii ((o i : Nat) : Int), ii 0]) (S := [.ref 102]) hm rfl rfl rfl) rfl rfl rfl (r_itemAt_ (s := u) (t := 0) hm (by omega) hBu hvu (by omega) (by omega) (by omega)) ?_
                  rintro _ _ ⟨p1, s1, rfl, rfl, hpv1, hws1, hp31⟩
                  refine me1 (pc' := 57) (L' := [(0, .ref 102), (1, ii (hd : Int)), (2, ii place), (3, ii ((n : Nat) : Int)), (4, ii ((k : Nat) : Int)), (5, zz c), (6, ii ((i : Nat) : Int))]) (S' := [.ref 102, ii (p1 : Int), .ref 102]) dm_X12_unlike_56 rfl rfl rfl rfl ?_
                  refine me1 (pc' := 58) (L' := [(0, .ref 102), (1, ii (hd : Int)), (2, ii place), (3, ii ((n : Nat) : Int)), (4, ii ((k : Nat) : Int)), (5, zz c), (6, ii ((i : Nat) : Int))]) (S' := [ii (hd : Int), .ref 102, ii (p1 : Int), .ref 102]) dm_X12_unlike_57 rfl rfl rfl rfl ?_
                  refine me1 (pc' := 60) (L' := [(0, .ref 102), (1, ii (hd : Int)), (2, ii place), (3, ii ((n : Nat) : Int)), (4, ii ((k : Nat) : Int)), (5, zz c), (6, ii ((i : Nat) : Int))]) (S' := [ii ((k : Nat) : Int), ii (hd : Int), .ref 102, ii (p1 : Int), .ref 102]) dm_X12_unlike_58 rfl rfl rfl rfl ?_
                  refine me0 (pc' := 61) (S' := [ii 1, ii ((k : Nat) : Int), ii (hd : Int), .ref 102, ii (p1 : Int), .ref 102]) dm_X12_unlike_60 rfl rfl rfl rfl ?_
                  have h3a := vw3_of (by omega) hws1
                  have hs4 : s1.1 4 = s.1 4 := by rw [h3a.1]; exact hu4
                  refine x_cv (pc' := 64) (rest := [ii (p1 : Int), .ref 102]) dm_X12_unlike_61 rfl (q_inv (As := [ii (hd : Int), ii ((k : Nat) : Int), ii 1]) (S := [ii (p1 : Int), .ref 102]) hm rfl rfl rfl) rfl rfl rfl (r_itemAt_ (s := s1) (t := 1) hm (by omega) (rB_vw h3a hBu) (rv_ext (vw3_pre h3a).1 hh3 hvu) (by omega) (by omega) (by omega)) ?_
                  rintro _ _ ⟨p2, s2, rfl, rfl, hpv2, hws2, hp32⟩
                  have h3b := vw3_of (by omega) hws2
                  refine x_cp (pc' := 67) (v := zz (vsame (e + 1) (vit v (o i)) (vit v k))) (rest := []) dm_X12_unlike_64 rfl (q_inv (As := [ii (p1 : Int), ii (p2 : Int)]) (S := []) hm rfl rfl rfl) rfl rfl rfl (r_isSame_ hm (rB_vw h3b (rB_vw h3a hBu)) (e + 1) (by omega) (rv_vw (by omega) hws2 (by omega) hpv1) hpv2) ?_
                  refine me1 (pc' := 69) (L' := [(5, zz (vsame (e + 1) (vit v (o i)) (vit v k))), (0, .ref 102), (1, ii (hd : Int)), (2, ii place), (3, ii ((n : Nat) : Int)), (4, ii ((k : Nat) : Int)), (6, ii ((i : Nat) : Int))]) (S' := []) dm_X12_unlike_67 rfl rfl rfl rfl ?_
                  refine y_iinc (pc' := 72) (L' := [(6, ii (((i : Nat) : Int) + 1)), (5, zz (vsame (e + 1) (vit v (o i)) (vit v k))), (0, .ref 102), (1, ii (hd : Int)), (2, ii place), (3, ii ((n : Nat) : Int)), (4, ii ((k : Nat) : Int))]) dm_X12_unlike_69 (y_incp (a := ((i : Nat) : Int)) (c := 1) rfl rfl (by decide)) rfl ?_
                  refine me2 (pc' := 31) (S' := []) dm_X12_unlike_72 rfl rfl rfl ?_
                  exact pg_sub (L := [(0, .ref 102), (1, ii (hd : Int)), (2, ii place), (3, ii ((n : Nat) : Int)), (4, ii ((k : Nat) : Int)), (5, zz (vsame (e + 1) (vit v (o i)) (vit v k))), (6, ii (((i + 1) : Nat) : Int))]) rfl rfl rfl (ih31 (n - (i + 1)) (by omega) (i + 1) (vsame (e + 1) (vit v (o i)) (vit v k)) s2 rfl (by omega) (fun z j hj => by by_cases y : j = i; (rw [y]; exact (vsame_symm _ _ _).trans z); exact hc0 hcv j (by omega)) (fun z => ⟨i, by omega, (vsame_symm _ _ _).trans z⟩) (rpre_tr hpu (rpre_tr (vw3_pre h3a) (vw3_pre h3b))) (fun j hj => by rw [h3b.2.2.2.1 14 (by decide) (by decide), h3a.2.2.2.1 14 (by decide) (by decide)]; exact hOu j hj))
          exact pg_sub (L := [(0, .ref 102), (1, ii (hd : Int)), (2, ii place), (3, ii ((n : Nat) : Int)), (4, ii ((k : Nat) : Int)), (5, zz false), (6, ii ((0 : Nat) : Int))]) rfl rfl rfl (lp31 _ 0 false t rfl (Nat.zero_le _) (fun _ j hj => absurd hj (Nat.not_lt_zero j)) (fun z => absurd z (by decide)) hpt hO)
    exact pg_sub (L := [(0, .ref 102), (1, ii (hd : Int)), (2, ii place), (3, ii ((0 : Nat) : Int)), (4, ii ((0 : Nat) : Int))]) rfl rfl rfl (lp15 _ 0 0 (fun _ => 0) s rfl (Nat.zero_le _) rfl (rpre_rf s) (fun j hj => absurd hj (Nat.not_lt_zero j)))
  · replace hb1 := dT hb1
    refine me1 (pc' := 9) (L' := [(0, .ref 102), (1, ii (hd : Int)), (2, ii place)]) (S' := [ii (hd : Int)]) dm_X12_unlike_8 rfl rfl rfl rfl ?_
    refine y_ret (r := some (ii (hd : Int))) dm_X12_unlike_9 rfl rfl rfl ?_
    rw [show m_unl (e + 1) v = .inr v by unfold m_unl; rw [if_pos (by omega)]]
    exact ⟨_, rfl, rres_dup ⟨s, rfl, rext_rf s, rfr_rf s, by omega, by omega, he0, rfl, hd, hh3, rfl, hv⟩⟩
