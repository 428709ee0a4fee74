/-! the Machine's run: AMENDED -/
section amd
variable {xt : mj_X} {f1 : Nat → Value} {d fi : Nat} {P : Option Value → mj_H → Prop} {A0 : Nat → Prop} {h0 : mj_H} {W0 : Nat} {A : Nat → Prop} {h h1 : mj_H} {t dq ca : Nat} {cp : Option Int} {nw bx by_ : Option Nat} {sf : Nat → Option Nat} {st W a b cost : Nat} {ou pl pp lv : Int} {lf rt : Value} {o : Nat ⊕ VV}
/-- an act that is the run's last -/
theorem act_last (hM : MH A h) (hB : BI A0 h0 W0 A h W 0) (hcp : 0 < ca → cp = some ou) (hc0 : ca = 0 → cp = none) (hst : st < 199999990) (hq : mAct A h 8 t sf (dq : Int) (ca : Int) ou pl pp (oV nw) (oV bx) (oV by_) lv lf rt (mOut 8 (W : Int) (cost : Int) o) (mA0 (W : Int) (cost : Int) a) (mA0 (W : Int) (cost : Int) b) h1) (hN : ∀ n, o = .inl n → 1 ≤ n ∧ n ≤ 100) (hE : 7 * a ≤ 6 * cost + 1750 ∧ b ≤ 8 * cost + 3000) (kE : ∀ W' e pe, dAc cp W cost o pp = (W', .inl (e, pe)) → KE xt d fi P A0 h0 W0 W' e pe) (kV : ∀ W' v q, dAc cp W cost o pp = (W', .inr v) → MF 64 h h1 → MF 0 h0 h1 → MH (newA A h h1) h1 → newA A h h1 = newA A0 h0 h1 → 7 * h1.length + 6 * W' ≤ 7 * h0.length + 6 * W0 + 1750 → mj_sl h1 + 8 * W' ≤ mj_sl h0 + 8 * W0 + 3000 → h1[16]? = some (mcC ((t + 1 : Nat) : Int) (dq : Int) (ca : Int) ou (W' : Int) 0 pl (oV nw) (oV bx) (oV by_) .null lv lf rt) → h1[32]? = some (cA 4 8192 (va_up sf t (some q))) → gv (newA A h h1) h1 q v → HD xt d fi (st + 1) h1 P) : HD xt d fi (st + 1) h1 P := by
  obtain ⟨hMA, hla, hsb, hr⟩ := hq
  obtain ⟨b1, b2, b3, b4⟩ := hB
  have hx : MF 64 h h1 := MF_MA hMA
  have hx0 : MF 0 h0 h1 := MF_tr b2 (MF_dn (by omega) hx)
  have hMH : MH (newA A h h1) h1 := MH_64 hM hx hMA.2.2
  have hAe : newA A h h1 = newA A0 h0 h1 := by rw [b1]; exact newA_tr b2.1 hx.1
  have hpl := dPl_if (pl := pp) hcp hc0
  have err : ∀ (W' e : Nat) (x : Int), 1 ≤ e ∧ e ≤ 100 → x = (e : Int) → 7 * h1.length + 6 * W' ≤ 7 * h0.length + 6 * W0 + 1800 → mj_sl h1 + 8 * W' ≤ mj_sl h0 + 8 * W0 + 3100 → h1[16]? = some (mcC (t : Int) (dq : Int) (ca : Int) ou (W' : Int) x (if (0 : Int) < (ca : Int) then ou else pp) (oV nw) (oV bx) (oV by_) .null lv lf rt) → h1[32]? = some (cA 4 8192 sf) → KE xt d fi P A0 h0 W0 W' e (dPl cp pp) → HD xt d fi (st + 1) h1 P := by
    intro W' e x he hxe r1 r2 g16 g32 kk
    rw [hxe, hpl] at g16
    exact kk h1 (st + 1) (by omega) ⟨by rw [← hAe]; exact hMH, hx0, r1, r2, ⟨_, _, _, _, _, _, _, _, _, _, _, g16⟩, ⟨sf, g32⟩, he⟩
  by_cases hW : (W : Int) < (cost : Int)
  · rw [mA0_w hW] at hla hsb
    rw [mOut_w hW] at hr
    have e1 : dAc cp W cost o pp = dEr cp W 10 pp := if_pos (by omega)
    exact err W 10 10 (by omega) rfl (by omega) (by omega) hr.1 hr.2 (kE _ _ _ e1)
  · rw [mA0_n hW] at hla hsb
    have hWc : (W : Int) - (cost : Int) = ((W - cost : Nat) : Int) := by omega
    cases o with
    | inl n =>
      rw [mOut_f hW, hWc] at hr
      have e1 : dAc cp W cost (.inl n) pp = dEr cp (W - cost) n pp := if_neg (by omega)
      exact err (W - cost) n (n : Int) (hN n rfl) rfl (by omega) (by omega) hr.1 hr.2 (kE _ _ _ e1)
    | inr v =>
      have hbi := big_iff v
      have e1 : dAc cp W cost (.inr v) pp = dMk cp (W - cost) 0 v pp := if_neg (by omega)
      by_cases hbg : 1000 < vsz 8 v ∨ 5 < vlv 8 v
      · rw [mOut_b hW hbg, hWc] at hr
        have e2 : dMk cp (W - cost) 0 v pp = dEr cp (W - cost) 8 pp := if_pos (hbi.mp hbg)
        exact err (W - cost) 8 8 (by omega) rfl (by omega) (by omega) hr.1 hr.2 (kE _ _ _ (e1.trans e2))
      · have hse := small_eq hbg
        have e2 : dMk cp (W - cost) 0 v pp = dTk cp (W - cost) (0 + vS v) pp (fun W => (W, .inr v)) := if_neg (fun z => hbg (hbi.mpr z))
        by_cases hw9 : (W : Int) - (cost : Int) < (vsz 8 v : Int)
        · rw [mOut_2 hW hbg hw9, hWc] at hr
          have e3 : dTk cp (W - cost) (0 + vS v) pp (fun W => (W, .inr v)) = dEr cp (W - cost) 10 pp := if_pos (by show W - cost < 0 + vsz 7 v; omega)
          exact err (W - cost) 10 10 (by omega) rfl (by omega) (by omega) hr.1 hr.2 (kE _ _ _ ((e1.trans e2).trans e3))
        · rw [mOut_v hW hbg hw9] at hr
          have e3 : dTk cp (W - cost) (0 + vS v) pp (fun W => (W, .inr v)) = (W - cost - (0 + vS v), .inr v) := if_neg (by show ¬ W - cost < 0 + vsz 7 v; omega)
          obtain ⟨q, g16, g32, gq⟩ := hr
          have hWv : (W : Int) - (cost : Int) - (vsz 8 v : Int) = ((W - cost - (0 + vS v) : Nat) : Int) := by show _ = ((W - cost - (0 + vsz 7 v) : Nat) : Int); omega
          have hvS : vS v = vsz 7 v := rfl
          have g16 : h1[16]? = some (mcC ((t + 1 : Nat) : Int) (dq : Int) (ca : Int) ou ((W : Int) - (cost : Int) - (vsz 8 v : Int)) 0 pl (oV nw) (oV bx) (oV by_) .null lv lf rt) := g16
          rw [hWv] at g16
          have hlo := cv_low 7 8 q v gq (by omega)
          exact kV (W - cost - (0 + vS v)) v q ((e1.trans e2).trans e3) hx hx0 hMH hAe (by omega) (by omega) g16 g32 ⟨hlo.1, by omega, by omega⟩
end amd
theorem dB_v {W : Nat} {v : VV} {K : Nat → VV → DR} : dB (W, .inr v) K = K W v := rfl
theorem dB_e {W : Nat} {e : Nat × Int} {K : Nat → VV → DR} : dB (W, .inl e) K = (W, .inl e) := rfl
/-- AMENDED's act -/
def dAm (cp : Option Int) (W : Nat) (l w u : VV) (pl : Int) : DR := dAc cp W (3 + vS l + vS w + vS u) (d_amend l w u) pl
/-- an AMENDED line -/
def dAL (Nv : Int → Option VV) (Fn : Int → Option (Nat → Tok)) (T : Nat → Tok) (a : Nat) (W : Nat) : DR := dB (eE (eC Nv Fn 10) T Nv none none none fuR 0 0 a zB W) (fun W u => dB (eE (eC Nv Fn 10) T Nv none none none fuR 0 1 3 zB W) (fun W w => dB (dNm Nv none none none (tqD (T 0)) (tqP (T 0) : Int) W) (fun W l => dAm none W l w u (tqP (T 1) : Int))))
def RMA : Prop := ∀ (l w u : VV) (n : Nat), d_amend l w u = .inl n → 1 ≤ n ∧ n ≤ 100
theorem m_runA {xt : mj_X} {f1 : Nat → Value} {d : Nat} {A : Nat → Prop} {h : mj_H} {W op op1 am am2 : Nat} {tp dp ca ou er pl lv : Int} {nw vx vy dg lf rt : Value} {sf0 : Nat → Option Nat} {Nv : Int → Option VV} {Fn : Int → Option (Nat → Tok)} {T : Nat → Tok} {mk ln a j j2 : Nat} (hx1 : xt 1 = some (.long, 0, f1)) (hRO : RMO) (hRT : RMT) (hRA : RMA) (hd : 84 ≤ d) (hM : MH A h) (h16 : h[16]? = some (mcC tp dp ca ou (W : Int) er pl nw vx vy dg lv lf rt)) (h32 : h[32]? = some (cA 4 8192 sf0)) (hE : NVF Nv Fn A h) (hW : W ≤ 500000) (hK : TOKS T mk ln) (hA3 : ∀ j, tqS (T j) = 6 → tqD (T j) = 39 ∨ tqD (T j) = 47 ∨ tqD (T j) = 92) (h3 : 3 ≤ mk) (ha : a ≤ mk) (hpR : pR T fuR 0 0 a = .inr j) (hpR2 : pR T fuR 0 1 3 = .inr j2) (hc1 : cR A h T fuR 0 0 a op (some op1) 0 0) (hc2 : cR A h T fuR 0 1 3 op1 (some am) 0 0) (ham : fzC A h am (opC 2 (tqP (T 0) : Int) 0 (Int64.ofInt (tqD (T 0))) 0 0 0 .null (.ref am2) .null)) (ham2 : fzC A h am2 (opC 7 (tqP (T 1) : Int) 0 (Int64.ofInt 0) 0 0 0 .null .null .null)) : pgV xt d 70 [.ref 16, .ref op] h (RUN A h W (dAL Nv Fn T a W)) := by
  refine m_run0 (by omega) h16 ?_
  obtain ⟨z, hz⟩ : ∃ z, z = rz W op ou pl lv lf rt := ⟨_, rfl⟩
  have hsl : mj_sl1 z = mj_sl1 (mcC tp dp ca ou (W : Int) er pl nw vx vy dg lv lf rt) := by rw [hz]; rfl
  have hMz := MH_s16 hM z
  show HD xt (d - 1) op 0 (h.set 16 (rz W op ou pl lv lf rt)) _
  rw [← hz]
  obtain ⟨P, hP⟩ : ∃ P : Option Value → mj_H → Prop, P = fun r h' => ∃ x, r = some x ∧ RUN A h W (dAL Nv Fn T a W) x h' := ⟨_, rfl⟩
  rw [← hP]
  have h16z : (h.set 16 z)[16]? = some z := List.getElem?_set_self (hl_lt h16)
  have h32z : (h.set 16 z)[32]? = some (cA 4 8192 sf0) := by rw [List.getElem?_set_ne (by decide)]; exact h32
  have hn16 := n16A hM
  have kz : kpA A h A (h.set 16 z) := fun y e p q => ⟨p, by rw [List.getElem?_set_ne (fun w => hn16 (by rw [w]; exact p))]; exact q⟩
  have hEz : ENV Nv Fn none none none none A (h.set 16 z) := EN_s16 (EN := ENV Nv Fn none none none none) ENV_k hM ⟨hE, trivial, trivial⟩
  have hjm := pR_mk hK fuR 0 0 a j ha hpR
  have hjm2 := pR_mk hK fuR 0 1 3 j2 h3 hpR2
  have hmk := hK.1
  have hC := CLL_all (xt := xt) (d := d - 1) (fi := op) (P := P) (A0 := A) (h0 := h.set 16 z) (W0 := W) (Nv := Nv) (Fn := Fn) hx1 hRO hRT (by omega) hW 10
  have hD1 := BDY_do (xt := xt) (d := d - 1) (fi := op) (P := P) (A0 := A) (h0 := h.set 16 z) (W0 := W) (Nv := Nv) (Fn := Fn) (cp := none) (bx := none) (by_ := none) (x := none) (y := none) (A1 := A) (h1 := h.set 16 z) (ca := 0) (dq := 0) (k := 10) (op := op) (b := some op1) hx1 hRT (by omega) hW (by omega) (by omega) hK hA3 hC ha hpR (cR_k kz _ _ _ _ _ _ _ _ hc1)
  have hD2 := BDY_do (xt := xt) (d := d - 1) (fi := op) (P := P) (A0 := A) (h0 := h.set 16 z) (W0 := W) (Nv := Nv) (Fn := Fn) (cp := none) (bx := none) (by_ := none) (x := none) (y := none) (A1 := A) (h1 := h.set 16 z) (ca := 0) (dq := 0) (k := 10) (op := op1) (b := some am) hx1 hRT (by omega) hW (by omega) (by omega) hK hA3 hC h3 hpR2 (cR_k kz _ _ _ _ _ _ _ _ hc2)
  have hke : ∀ W' e pe, dAL Nv Fn T a W = (W', .inl (e, pe)) → KE xt (d - 1) op P A (h.set 16 z) W W' e pe := fun W' e pe er9 => run_KE hM h16 hsl (fun h' hR => by rw [hP]; exact ⟨_, rfl, by rw [er9]; exact hR⟩)
  refine hD1 A (h.set 16 z) 0 W 0 sf0 (kpA_rf _ _) hEz ⟨hMz, ⟨(newA_same rfl).symm, MF_rf _ _, Nat.le_refl _, Nat.le_refl _⟩, h32z, ⟨pl, ou, lv, lf, rt, by rw [h16z, hz], fun q => absurd q (Nat.lt_irrefl 0)⟩, fun _ => rfl⟩ (fun e he => absurd he (by omega)) (by omega) (by omega) ?_
  rcases hr1 : eE (eC Nv Fn 10) T Nv none none none fuR 0 0 a zB W with ⟨W1, e | u⟩
  · exact hke W1 e.1 e.2 (by unfold dAL; rw [hr1]; rfl)
  · intro h2 st2 sf2 qu y1 y2 y3 y4 y5 y6
    have y6 : (st2 : Int) + 300 * (W1 : Int) ≤ ((0 : Nat) : Int) + 300 * (W : Int) + 4 * ((j : Int) - a) := y6
    have hM2 := y2.1
    have k2 := MF_kp hMz.2.1 y1
    have hE2 := ENV_k (Nv := Nv) (Fn := Fn) (bx := none) (by_ := none) (x := none) (y := none) A (h.set 16 z) h2 hMz y1 hEz
    refine hD2 (newA A (h.set 16 z) h2) h2 1 W1 st2 sf2 k2 hE2 y2 (fun e he => absurd he (by omega)) (by omega) (by omega) ?_
    rcases hr2 : eE (eC Nv Fn 10) T Nv none none none fuR 0 1 3 zB W1 with ⟨W2, e | w⟩
    · exact hke W2 e.1 e.2 (by unfold dAL; rw [hr1, dB_v, hr2]; rfl)
    · intro h3' st3 sf3 qw z1 z2 z3 z4 z5 z6
      have z6 : (st3 : Int) + 300 * (W2 : Int) ≤ (st2 : Int) + 300 * (W1 : Int) + 4 * ((j2 : Int) - (3 : Nat)) := z6
      rw [newA_tr y1.1 z1.1] at z2 z5
      have x3 : MF 0 (h.set 16 z) h3' := MF_tr y1 z1
      have hM3 := z2.1
      have k3 := kpA_tr kz (MF_kp hMz.2.1 x3)
      have hE3 := ENV_k (Nv := Nv) (Fn := Fn) (bx := none) (by_ := none) (x := none) (y := none) A (h.set 16 z) h3' hMz x3 hEz
      have gu3 : gv (newA A (h.set 16 z) h3') h3' qu u := by
        have := gv_MF hM2.2.1 z1 y5
        rwa [newA_tr y1.1 z1.1] at this
      refine run_look (by omega) (by omega) (by omega) (TOKS_D hK) (newA A (h.set 16 z) h3') h3' 2 W2 st3 am 0 (some am2) sf3 1 hE3 z2 (fun e he => absurd he (by omega)) (fzC_k k3 ham) (by omega) (by omega) (by omega) ?_
      rcases hr3 : dNm Nv none none none (tqD (T 0)) (tqP (T 0) : Int) W2 with ⟨W3, e | l⟩
      · exact hke W3 e.1 e.2 (by unfold dAL; rw [hr1, dB_v, hr2, dB_v, hr3]; rfl)
      · have hdal : dAL Nv Fn T a W = dAm none W3 l w u (tqP (T 1) : Int) := by unfold dAL; rw [hr1, dB_v, hr2, dB_v, hr3]; rfl
        intro h4 st4 sf4 ql w1 w2 w3 w4 w5 w6
        have w6 : (st4 : Int) + 300 * (W3 : Int) ≤ (st3 : Int) + 300 * (W2 : Int) + 1 := w6
        rw [newA_tr x3.1 w1.1] at w2 w5
        have x4 : MF 0 (h.set 16 z) h4 := MF_tr x3 w1
        obtain ⟨hM4, hB4, g32, ⟨pl4, ou4, lv4, lf4, rt4, g16, hcp4⟩, hc04⟩ := w2
        have gw4 : gv (newA A (h.set 16 z) h4) h4 qw w := by
          have := gv_MF hM3.2.1 w1 z5
          rwa [newA_tr x3.1 w1.1] at this
        have gu4 : gv (newA A (h.set 16 z) h4) h4 qu u := by
          have := gv_MF hM3.2.1 w1 gu3
          rwa [newA_tr x3.1 w1.1] at this
        have hp4 := fzC_k (kpA_tr kz (MF_kp hMz.2.1 x4)) ham2
        have hp127 := fz_127 hM4 hp4
        have hWle := BI_le hB4 (by omega)
        obtain ⟨z9, hz9⟩ : ∃ z9, z9 = mcC ((0 + 2 + 1 : Nat) : Int) ((0 : Nat) : Int) ((0 : Nat) : Int) ou4 (W3 : Int) 0 pl4 (oV none) (oV none) (oV none) .null lv4 lf4 rt4 := ⟨_, rfl⟩
        have hMy := MH_s16 hM4 z9
        have hBy := BI_s16 hB4 g16 (c := z9) (by rw [hz9]; rfl)
        have g16y : (h4.set 16 z9)[16]? = some (mcC ((0 + 2 + 1 : Nat) : Int) ((0 : Nat) : Int) ((0 : Nat) : Int) ou4 (W3 : Int) 0 pl4 (oV none) (oV none) (oV none) .null lv4 lf4 rt4) := by rw [← hz9]; exact List.getElem?_set_self (hl_lt g16)
        have g32y : (h4.set 16 z9)[32]? = some (cA 4 8192 sf4) := by rw [List.getElem?_set_ne (by decide)]; exact g32
        have hpy := fz_s16 (z := z9) hM4 hp4
        have gly := gv_s16 (z := z9) hM4 w5
        have gwy := gv_s16 (z := z9) hM4 gw4
        have guy := gv_s16 (z := z9) hM4 gu4
        refine run_stp (ca := 0) (bx := none) (by_ := none) hM4 g16 (fun e he => absurd he (by omega)) (by omega) (by omega) (m_st7 (onx := none) (by omega) g16 hp4.2.2 hp127 (by rw [← hz9]; exact m_amend (e := 6) (t := 0) (ql := ql) (qw := qw) (qu := qu) (v := l) (w := w) (u := u) hx1 (by omega) hMy.1 hMy.2.1 hMy.2.2.1 g16y g32y (by omega) w4 ((w3 1 (by omega)).trans z4) ((w3 0 (by omega)).trans ((z3 0 (by omega)).trans y4)) hpy.2.2 hp127 (by omega) gly.1 gwy.1 guy.1 gly.2.1 gwy.2.1 guy.2.1 (by omega) (by omega))) (fun h5 hq => ?_)
        have hc : 3 + (vsz 7 l : Int) + (vsz 7 w : Int) + (vsz 7 u : Int) = ((3 + vS l + vS w + vS u : Nat) : Int) := by show _ = ((3 + vsz 7 l + vsz 7 w + vsz 7 u : Nat) : Int); omega
        have hq : mAct (newA A (h.set 16 z) h4) (h4.set 16 z9) 8 0 sf4 ((0 : Nat) : Int) ((0 : Nat) : Int) ou4 pl4 (tqP (T 1) : Int) (oV none) (oV none) (oV none) lv4 lf4 rt4 (mOut 8 (W3 : Int) (3 + (vsz 7 l : Int) + (vsz 7 w : Int) + (vsz 7 u : Int)) (d_amend l w u)) (mA0 (W3 : Int) (3 + (vsz 7 l : Int) + (vsz 7 w : Int) + (vsz 7 u : Int)) (vm w + vm l + 2)) (mA0 (W3 : Int) (3 + (vsz 7 l : Int) + (vsz 7 w : Int) + (vsz 7 u : Int)) (9 * vm w + 10 * vm l + vq l + 9)) h5 := hq
        rw [hc] at hq
        have bl := vw1_m (cv_wf gly.1).1
        have bw := vw1_m (cv_wf gwy.1).1
        have bq := vq_le (cv_wf gly.1).1
        refine act_last (cp := none) hMy hBy hcp4 hc04 (by omega) hq (hRA l w u) (by show 7 * (vm w + vm l + 2) ≤ 6 * (3 + vsz 7 l + vsz 7 w + vsz 7 u) + 1750 ∧ 9 * vm w + 10 * vm l + vq l + 9 ≤ 8 * (3 + vsz 7 l + vsz 7 w + vsz 7 u) + 3000; omega) (fun W' e pe er9 => hke W' e pe (hdal.trans er9)) (fun W' v q ev x5 x0 m5 eA r1 r2 c16 c32 gq => ?_)
        rw [eA] at m5 gq
        have eA2 : newA A (h.set 16 z) h5 = newA A h h5 := by unfold newA; rw [List.length_set]
        rw [eA2] at m5 gq
        rw [List.length_set] at r1
        rw [sl_set h16 hsl] at r2
        exact run_KV (t := 0) (by omega) h16 hsl m5 x0 (by omega) (by omega) c16 c32 (by omega) (up_eq _ _ _) gq (by omega) (fun h' hR => by rw [hP]; exact ⟨_, rfl, by rw [hdal.trans ev]; exact hR⟩)
