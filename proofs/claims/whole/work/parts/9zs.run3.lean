/-! the Machine's run: acts, gathering, ADVERBS -/
theorem newA_same {A : Nat → Prop} {h h' : mj_H} (e : h'.length = h.length) : newA A h h' = A := by
  funext y
  apply propext
  constructor
  · rintro (z | z)
    · exact z
    · omega
  · exact Or.inl
theorem fz_127 {A : Nat → Prop} {h : mj_H} {p : Nat} {c : List Value} (hM : MH A h) (hp : fzC A h p (cO 4 c)) : 127 ≤ p := by
  obtain ⟨m1, m2, m3, m4, m5, c9, m6⟩ := hM
  rcases (m2 p hp.2.1).2 with z | z | z
  · obtain ⟨-, -, -, -, row, fr, vals, z2, -⟩ := m5
    rw [z] at hp
    have e := Option.some.inj (hp.2.2.symm.trans z2)
    cases e
  · rw [z] at hp
    have e := Option.some.inj (hp.2.2.symm.trans m6)
    cases e
  · exact z
section base
variable {A : Nat → Prop} {h h1 : mj_H} {c c0 : mj_E} {A0 : Nat → Prop} {h0 : mj_H} {W0 W s a b dq : Nat}
theorem MH_s16 (hM : MH A h) (c : mj_E) : MH A (h.set 16 c) := by
  have z := MH_64 hM (MF_set (c := c) (Or.inr (Or.inl rfl))) (actH_st (Or.inl rfl) hM.2.2.1)
  rwa [newA_same (by rw [List.length_set])] at z
theorem BI_s16 (hB : BI A0 h0 W0 A h W s) (h16 : h[16]? = some c0) (e : mj_sl1 c = mj_sl1 c0) : BI A0 h0 W0 A (h.set 16 c) W s := by
  obtain ⟨b1, b2, b3, b4⟩ := hB
  refine ⟨?_, MF_tr b2 (MF_set (Or.inr (Or.inl rfl))), by rw [List.length_set]; exact b3, by rw [sl_set h16 e]; exact b4⟩
  rw [b1]; exact newA_len (by rw [List.length_set])
theorem BI_W {W' s' : Nat} (hB : BI A0 h0 W0 A h W s) (h1 : 6 * W' + 7 * s ≤ 6 * W + 7 * s') (h2 : 8 * W' + 9 * s ≤ 8 * W + 9 * s') : BI A0 h0 W0 A h W' s' := ⟨hB.1, hB.2.1, by have := hB.2.2.1; omega, by have := hB.2.2.2; omega⟩
theorem BI_fx {S : Nat → Prop} (hB : BI A0 h0 W0 A h W s) (fx : FX S a b h h1) (x : MF dq h h1) (hb : b ≤ 9 * a) : BI A0 h0 W0 (newA A h h1) h1 W (s + a) := by
  obtain ⟨b1, b2, b3, b4⟩ := hB
  refine ⟨?_, MF_tr b2 (MF_dn (Nat.zero_le _) x), by have := fx.2.1; omega, by have := fx.2.2.1; omega⟩
  rw [b1]; exact newA_tr b2.1 x.1
theorem MH_fx {fl fn fm fb : Int} {fo fx fy : Value} (hM : MH A h) (x : FX (fun y => y = 16 ∨ y = 32 ∨ y = 34 + dq) a b h h1) (hd : dq < 64) (hfr : h1[34 + dq]? = some (cO 0 [ii fl, fo, fx, fy, ii fn, ii fm, ii fb])) : MF dq h h1 ∧ MH (newA A h h1) h1 := by
  have x1 : MF dq h h1 := MF_FX x (fun y hy => by
    rcases hy with z | z | z
    · exact Or.inr (Or.inl z)
    · exact Or.inr (Or.inr (Or.inl z))
    · exact Or.inr (Or.inr (Or.inr ⟨by omega, by omega⟩)))
  have hl := hM.1
  refine ⟨x1, MH_of hM x1 (actH_k (fun y y1 y2 => x.2.2.2 y (by omega) (by omega)) hM.2.2.1) (FRS_1 hM.1 hM.2.2.2.1 x1 (fun i hi hne => x.2.2.2 (34 + i) (by omega) (by omega)) hfr)⟩
end base
section konts
variable {xt : mj_X} {d fi : Nat} {P : Option Value → mj_H → Prop} {A0 : Nat → Prop} {h0 : mj_H} {W0 : Nat} {A : Nat → Prop} {h h2 : mj_H} {t dq ca : Nat} {cp : Option Int} {nw bx by_ : Option Nat} {sf sf2 : Nat → Option Nat} {st st2 W W2 : Nat} {c c2 : Int} {r : DR}
theorem Kon_tr (k : Kon xt d fi P A0 h0 W0 A h t dq ca cp nw bx by_ sf st c W r) (x : MF dq h h2) (hs : ∀ j, j < t → sf2 j = sf j) (hc : (st2 : Int) + 300 * (W2 : Int) + c2 ≤ (st : Int) + 300 * (W : Int) + c) : Kon xt d fi P A0 h0 W0 (newA A h h2) h2 t dq ca cp nw bx by_ sf2 st2 c2 W2 r := by
  obtain ⟨W', e | v⟩ := r
  · exact k
  · intro h' st' sf' q y1 y2 y3 y4 y5 y6
    rw [newA_tr x.1 y1.1] at y2 y5
    exact k h' st' sf' q (MF_tr x y1) y2 (fun j hj => (y3 j hj).trans (hs j hj)) y4 y5 (by omega)
theorem Kon_s16 {z : mj_E} (k : Kon xt d fi P A0 h0 W0 A h t dq ca cp nw bx by_ sf st c W r) (hc : (st2 : Int) + 300 * (W2 : Int) + c2 ≤ (st : Int) + 300 * (W : Int) + c) : Kon xt d fi P A0 h0 W0 A (h.set 16 z) t dq ca cp nw bx by_ sf st2 c2 W2 r := by
  have y := Kon_tr (sf2 := sf) k (MF_set (c := z) (Or.inr (Or.inl rfl))) (fun _ _ => rfl) hc
  rwa [newA_same (by rw [List.length_set])] at y
theorem KE_of {e : Nat} {pl : Int} {W' : Nat} (k : Kon xt d fi P A0 h0 W0 A h t dq ca cp nw bx by_ sf st c W (W', .inl (e, pl))) : KE xt d fi P A0 h0 W0 W' e pl := k
end konts
/-- an error with nothing made -/
theorem err_s16 {xt : mj_X} {d fi : Nat} {P : Option Value → mj_H → Prop} {A0 : Nat → Prop} {h0 : mj_H} {W0 : Nat} {A : Nat → Prop} {h : mj_H} {W W' s e st : Nat} {ou pp tp dp lv : Int} {ca : Nat} {cp : Option Int} {nw vx vy dg lf rt : Value} {sf : Nat → Option Nat} {c0 : mj_E} (he : 1 ≤ e ∧ e ≤ 100) (hM : MH A h) (hB : BI A0 h0 W0 A h W s) (hs : s ≤ 2) (hW : W' ≤ W) (hst : st < 199999990) (h16 : h[16]? = some c0) (h32 : h[32]? = some (cA 4 8192 sf)) (hsl : mj_sl1 (mcC tp dp (ca : Int) ou (W' : Int) (e : Int) (if (0 : Int) < (ca : Int) then ou else pp) nw vx vy dg lv lf rt) = mj_sl1 c0) (hcp : 0 < ca → cp = some ou) (hc0 : ca = 0 → cp = none) (k : KE xt d fi P A0 h0 W0 W' e (dPl cp pp)) : HD xt d fi (st + 1) (h.set 16 (mcC tp dp (ca : Int) ou (W' : Int) (e : Int) (if (0 : Int) < (ca : Int) then ou else pp) nw vx vy dg lv lf rt)) P := by
  have hB2 := BI_s16 hB h16 hsl
  obtain ⟨b1, b2, b3, b4⟩ := hB2
  have g16 : (h.set 16 (mcC tp dp (ca : Int) ou (W' : Int) (e : Int) (if (0 : Int) < (ca : Int) then ou else pp) nw vx vy dg lv lf rt))[16]? = some (mcC tp dp (ca : Int) ou (W' : Int) (e : Int) (dPl cp pp) nw vx vy dg lv lf rt) := by
    rw [List.getElem?_set_self (hl_lt h16), dPl_if hcp hc0]
  exact k _ (st + 1) (by omega) ⟨by rw [← b1]; exact MH_s16 hM _, b2, by omega, by omega, ⟨_, _, _, _, _, _, _, _, _, _, _, g16⟩, ⟨sf, by rw [List.getElem?_set_ne (by decide)]; exact h32⟩, he⟩
/-- how much acts make -/
def RMO : Prop := ∀ (vb : Int) (w : VV), vwf 7 w → vsz 7 w ≤ 1000 → vlv 7 w ≤ 5 → (7 * oneA vb 6 w ≤ 6 * (3 + vsz 7 w) + 1750 ∧ oneB vb 6 w ≤ 8 * (3 + vsz 7 w) + 3000) ∧ (∀ n, s_one vb 6 w = .inl n → 1 ≤ n ∧ n ≤ 100) ∧ ∀ r, s_one vb 6 w = .inr r → vsz 7 r ≤ 1000 → vlv 7 r ≤ 5 → 7 * oneA vb 6 w + 7 ≤ 6 * (3 + vsz 7 w + vsz 7 r) ∧ oneB vb 6 w + 9 ≤ 8 * (3 + vsz 7 w + vsz 7 r)
def RMT : Prop := ∀ (vb : Int) (l w : VV), vwf 7 l → vwf 7 w → vsz 7 l ≤ 1000 → vsz 7 w ≤ 1000 → vlv 7 l ≤ 5 → vlv 7 w ≤ 5 → (7 * twoA vb 6 l w ≤ 6 * (3 + vsz 7 l + vsz 7 w) + 1750 ∧ twoB vb 6 l w ≤ 8 * (3 + vsz 7 l + vsz 7 w) + 3000) ∧ (∀ n, s_two vb 6 l w = .inl n → 1 ≤ n ∧ n ≤ 100) ∧ ∀ r, s_two vb 6 l w = .inr r → vsz 7 r ≤ 1000 → vlv 7 r ≤ 5 → 7 * twoA vb 6 l w + 14 ≤ 6 * (3 + vsz 7 l + vsz 7 w + vsz 7 r) ∧ twoB vb 6 l w + 18 ≤ 8 * (3 + vsz 7 l + vsz 7 w + vsz 7 r)
theorem vsz_ge1 {d : Nat} {v : VV} : 1 ≤ vsz (d + 1) v := by
  show 1 ≤ (if vk v ≤ 1 then 1 else if vk v = 6 then 1 + vm v * vc v else if vk v = 7 then 1 + sumN (vm v) (fun k => vsz d (vd v k)) else 1 + vm v)
  split
  · omega
  · split
    · omega
    · split <;> omega
section runs
variable {xt : mj_X} {f1 : Nat → Value} {d fi : Nat} {P : Option Value → mj_H → Prop} {A0 : Nat → Prop} {h0 : mj_H} {W0 : Nat} {A : Nat → Prop} {h : mj_H} {t dq ca : Nat} {cp : Option Int} {nw bx by_ : Option Nat} {sf : Nat → Option Nat} {st W s p l w : Nat} {vl vw : VV} {od pp ov oa om ot : Int} {onm : Int64} {ovl onx oot : Value}
theorem BI_le (hB : BI A0 h0 W0 A h W s) (hs : s ≤ 2) : W ≤ W0 + 3 := by have := hB.2.1.1; have := hB.2.2.1; omega
theorem run_act2 (hx1 : xt 1 = some (.long, 0, f1)) (hRT : RMT) (hd : 82 ≤ d) (hD : MD A0 h0 W0 A h t dq ca cp W s nw bx by_ sf p 0 (some l) w) (hs : s ≤ 2) (hp : fzC A h p (opC od pp ov onm oa om ot ovl onx oot)) (hov : ov ≠ 0 ∧ -2147483648 ≤ ov ∧ ov ≤ 2147483647) (hl : gv A h l vl) (hw : gv A h w vw) (ht : t < 8192) (hca : ca ≤ 10) (hW0 : W0 ≤ 500000) (hst : st < 199999990) (k : Kon xt d fi P A0 h0 W0 A h t dq ca cp nw bx by_ sf st (-5) W (dTwo cp W ov vl vw pp)) : HD xt d fi st h P := by
  obtain ⟨hM, hB, h32, ⟨pl, ou, h16, hcp⟩, hc0⟩ := hD
  have hp127 := fz_127 hM hp
  have hWle := BI_le hB hs
  have hrm := hRT ov vl vw (cv_wf hl.1) (cv_wf hw.1) hl.2.1 hw.2.1 hl.2.2 hw.2.2
  refine tn_act (by omega) h16 rfl hp.2.2 hp127 hov (m_actT (e := 6) hx1 (by omega) hM.1 hM.2.1 hM.2.2.1 h16 h32 ht hp.2.2 hp127 (by omega) hw.1 hw.2.1 (by omega) hov.2 (by omega) hl.1 hl.2.1 (clone_ok xt)) (fun h1 hq => ?_)
  have hc : 3 + ((vsz 7 vw : Int) + (vsz 7 vl : Int)) = ((3 + vS vl + vS vw : Nat) : Int) := by show _ = ((3 + vsz 7 vl + vsz 7 vw : Nat) : Int); omega
  have hq : mAct A h 8 t sf (dq : Int) (ca : Int) ou pl pp (oV nw) (oV bx) (oV by_) _ _ _ (mOut 8 (W : Int) (3 + ((vsz 7 vw : Int) + (vsz 7 vl : Int))) (s_two ov 6 vl vw)) (mA0 (W : Int) (3 + ((vsz 7 vw : Int) + (vsz 7 vl : Int))) (twoA ov 6 vl vw)) (mA0 (W : Int) (3 + ((vsz 7 vw : Int) + (vsz 7 vl : Int))) (twoB ov 6 vl vw)) h1 := hq
  rw [hc] at hq
  exact act_done hM hB hs hcp hc0 hst hq (by show 4 ≤ 3 + vsz 7 vl + vsz 7 vw; have z9 : 1 ≤ vsz 7 vl := vsz_ge1 (d := 6); omega) hrm.2.1 hrm.1 (fun v e a b => by have := hrm.2.2 v e a b; show 7 * _ + 7 * s ≤ 6 * (3 + vsz 7 vl + vsz 7 vw + vsz 7 v) ∧ _ + 9 * s ≤ 8 * (3 + vsz 7 vl + vsz 7 vw + vsz 7 v); omega) k
theorem run_act1 (hx1 : xt 1 = some (.long, 0, f1)) (hRO : RMO) (hd : 82 ≤ d) (hD : MD A0 h0 W0 A h t dq ca cp W s nw bx by_ sf p 0 none w) (hs : s ≤ 1) (hp : fzC A h p (opC od pp ov onm oa om ot ovl onx oot)) (hov : ov ≠ 0 ∧ -2147483648 ≤ ov ∧ ov ≤ 2147483647) (hw : gv A h w vw) (ht : t < 8192) (hca : ca ≤ 10) (hW0 : W0 ≤ 500000) (hst : st < 199999990) (k : Kon xt d fi P A0 h0 W0 A h t dq ca cp nw bx by_ sf st (-5) W (dOne cp W ov vw pp)) : HD xt d fi st h P := by
  obtain ⟨hM, hB, h32, ⟨pl, ou, h16, hcp⟩, hc0⟩ := hD
  have hp127 := fz_127 hM hp
  have hWle := BI_le hB (by omega)
  have hrm := hRO ov vw (cv_wf hw.1) hw.2.1 hw.2.2
  refine tn_act (by omega) h16 rfl hp.2.2 hp127 hov (m_actO (e := 6) hx1 (by omega) hM.1 hM.2.1 hM.2.2.1 h16 h32 ht hp.2.2 hp127 (by omega) hw.1 hw.2.1 (by omega) hov.2 (by omega) hM.2.2.2.2.1) (fun h1 hq => ?_)
  have hc : 3 + ((vsz 7 vw : Int) + 0) = ((3 + vS vw : Nat) : Int) := by show _ = ((3 + vsz 7 vw : Nat) : Int); omega
  have hq : mAct A h 8 t sf (dq : Int) (ca : Int) ou pl pp (oV nw) (oV bx) (oV by_) _ _ _ (mOut 8 (W : Int) (3 + ((vsz 7 vw : Int) + 0)) (s_one ov 6 vw)) (mA0 (W : Int) (3 + ((vsz 7 vw : Int) + 0)) (oneA ov 6 vw)) (mA0 (W : Int) (3 + ((vsz 7 vw : Int) + 0)) (oneB ov 6 vw)) h1 := hq
  rw [hc] at hq
  exact act_done hM hB (by omega) hcp hc0 hst hq (by show 4 ≤ 3 + vsz 7 vw; have z9 : 1 ≤ vsz 7 vw := vsz_ge1 (d := 6); omega) hrm.2.1 hrm.1 (fun v e a b => by have := hrm.2.2 v e a b; show 7 * _ + 7 * s ≤ 6 * (3 + vsz 7 vw + vsz 7 v) ∧ _ + 9 * s ≤ 8 * (3 + vsz 7 vw + vsz 7 v); omega) k
end runs
theorem sumN_ge {n : Nat} {f : Nat → Nat} (h : ∀ k, k < n → 1 ≤ f k) : n ≤ sumN n f := by
  induction n with
  | zero => exact Nat.zero_le _
  | succ n ih => show n + 1 ≤ sumN n f + f n; have := ih (fun k hk => h k (by omega)); have := h n (by omega); omega
theorem gaV_sz {n : Nat} {ch : Nat → VV} {v : VV} (h : gaV n ch = .inr v) : n ≤ vsz 7 v := by
  have row : ∀ (k : Nat) (f : Nat → Int64), 2 ≤ k → k ≤ 5 → vsz 7 (vrow k n f) = 1 + n := fun k f h1 h2 => by
    show (if k ≤ 1 then 1 else if k = 6 then 1 + n * 0 else if k = 7 then _ else 1 + n) = _
    rw [if_neg (by omega), if_neg (by omega), if_neg (by omega)]
  unfold gaV at h
  split at h
  · split at h
    · cases h
    · injection h with h
      have := vform_le (m := n) (f := fun k => vn (ch k) 0)
      rw [← h, row _ _ (by omega) (by omega)]; omega
  · split at h
    · split at h
      · cases h
      · injection h with h
        rw [← h, row _ _ (by omega) (by omega)]; omega
    · split at h
      · cases h
      · injection h with h
        rw [← h]
        show n ≤ (if (7 : Nat) ≤ 1 then 1 else if (7 : Nat) = 6 then _ else if (7 : Nat) = 7 then 1 + sumN n (fun k => vsz 6 (ch k)) else _)
        rw [if_neg (by omega), if_neg (by omega), if_pos rfl]
        have := sumN_ge (n := n) (f := fun k => vsz 6 (ch k)) (fun k _ => vsz_ge1)
        omega
theorem gaV_8 {n e : Nat} {ch : Nat → VV} (h : gaV n ch = .inl e) : e = 8 := by
  unfold gaV at h
  split at h
  · split at h
    · injection h with h; exact h.symm
    · cases h
  · split at h
    · split at h
      · injection h with h; exact h.symm
      · cases h
    · split at h
      · injection h with h; exact h.symm
      · cases h
section gath
variable {xt : mj_X} {d fi : Nat} {P : Option Value → mj_H → Prop} {A0 : Nat → Prop} {h0 : mj_H} {W0 : Nat} {A : Nat → Prop} {h h1 : mj_H} {t n dq ca : Nat} {cp : Option Int} {nw bx by_ : Option Nat} {sf : Nat → Option Nat} {st W : Nat} {ou pl pp lv c : Int} {lf rt : Value} {ch : Nat → VV}
theorem gat_done (hM : MH A h) (hB : BI A0 h0 W0 A h W 0) (hcp : 0 < ca → cp = some ou) (hc0 : ca = 0 → cp = none) (hst : st < 199999990) (hn : n ≤ 300) (hc : -500 ≤ c) (hq : mGat A h 8 t n sf (dq : Int) (ca : Int) ou pl pp (oV nw) (oV bx) (oV by_) lv lf rt (mGo 8 (W : Int) (gaV n ch)) 2 (n + 9) h1) (k : Kon xt d fi P A0 h0 W0 A h t dq ca cp nw bx by_ sf st c W (dGa cp W n ch pp)) : HD xt d fi (st + 1) h1 P := by
  obtain ⟨hMA, hla, hsb, hr⟩ := hq
  obtain ⟨b1, b2, b3, b4⟩ := hB
  have hx : MF 64 h h1 := MF_MA hMA
  have hx0 : MF 0 h0 h1 := MF_tr b2 (MF_dn (by omega) hx)
  have hMH : MH (newA A h h1) h1 := MH_64 hM hx hMA.2.2
  have hAe : newA A h h1 = newA A0 h0 h1 := by rw [b1]; exact newA_tr b2.1 hx.1
  have hpl := dPl_if (pl := pp) hcp hc0
  have err : ∀ (e : Nat) (x : Int), 1 ≤ e ∧ e ≤ 100 → x = (e : Int) → h1[16]? = some (mcC ((t + n : Nat) : Int) (dq : Int) (ca : Int) ou (W : Int) x (if (0 : Int) < (ca : Int) then ou else pp) (oV nw) (oV bx) (oV by_) .null lv lf rt) → h1[32]? = some (cA 4 8192 sf) → KE xt d fi P A0 h0 W0 W e (dPl cp pp) → HD xt d fi (st + 1) h1 P := by
    intro e x he hxe g16 g32 kk
    rw [hxe, hpl] at g16
    exact kk h1 (st + 1) (by omega) ⟨by rw [← hAe]; exact hMH, hx0, by omega, by omega, ⟨_, _, _, _, _, _, _, _, _, _, _, g16⟩, ⟨sf, g32⟩, he⟩
  rcases hg : gaV n ch with e | v
  · have e1 : dGa cp W n ch pp = dEr cp W e pp := by unfold dGa; rw [hg]
    rw [mGo_f hg] at hr
    rw [e1] at k
    exact err e (e : Int) (by have := gaV_8 hg; omega) rfl hr.1 hr.2 k
  · have e1 : dGa cp W n ch pp = dMk cp W 3 v pp := by unfold dGa; rw [hg]
    have hbi := big_iff v
    have hsz := gaV_sz hg
    rw [e1] at k
    by_cases hbg : 1000 < vsz 8 v ∨ 5 < vlv 8 v
    · rw [mGo_b hg hbg] at hr
      have e2 : dMk cp W 3 v pp = dEr cp W 8 pp := if_pos (hbi.mp hbg)
      rw [e2] at k
      exact err 8 8 (by omega) rfl hr.1 hr.2 k
    · have hse := small_eq hbg
      have e2 : dMk cp W 3 v pp = dTk cp W (3 + vS v) pp (fun W => (W, .inr v)) := if_neg (fun z => hbg (hbi.mpr z))
      rw [e2] at k
      by_cases hw9 : (W : Int) < 3 + (vsz 8 v : Int)
      · rw [mGo_w hg hbg hw9] at hr
        have e3 : dTk cp W (3 + vS v) pp (fun W => (W, .inr v)) = dEr cp W 10 pp := if_pos (by show W < 3 + vsz 7 v; omega)
        rw [e3] at k
        exact err 10 10 (by omega) rfl hr.1 hr.2 k
      · rw [mGo_v hg hbg hw9] at hr
        have e3 : dTk cp W (3 + vS v) pp (fun W => (W, .inr v)) = (W - (3 + vS v), .inr v) := if_neg (by show ¬ W < 3 + vsz 7 v; omega)
        rw [e3] at k
        obtain ⟨q, g16, g32, gq⟩ := hr
        have hWv : (W : Int) - (3 + (vsz 8 v : Int)) = ((W - (3 + vS v) : Nat) : Int) := by show _ = ((W - (3 + vsz 7 v) : Nat) : Int); omega
        have hvS : vS v = vsz 7 v := rfl
        have g16 : h1[16]? = some (mcC ((t + 1 : Nat) : Int) (dq : Int) (ca : Int) ou ((W : Int) - (3 + (vsz 8 v : Int))) 0 pl (oV nw) (oV bx) (oV by_) .null lv lf rt) := g16
        rw [hWv] at g16
        have hlo := cv_low 7 8 q v gq (by omega)
        exact k h1 (st + 1) (va_up sf t (some q)) q (MF_MA hMA) ⟨hMH, ⟨hAe, hx0, by omega, by omega⟩, g32, ⟨pl, ou, lv, lf, rt, g16, hcp⟩, hc0⟩ (fun j hj => up_ne _ _ (by omega)) (up_eq _ _ _) ⟨hlo.1, by omega, by omega⟩ (by omega)
end gath
