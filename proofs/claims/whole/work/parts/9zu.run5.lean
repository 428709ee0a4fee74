/-! the Machine's run: folding -/
section fold
variable {xt : mj_X} {f1 : Nat → Value} {d fi : Nat} {P : Option Value → mj_H → Prop} {A0 : Nat → Prop} {h0 : mj_H} {W0 : Nat} {EN : (Nat → Prop) → mj_H → Prop} {ca : Nat} {cp : Option Int} {bx by_ : Option Nat} {T : Nat → Tok} {i k mk ln : Nat} {f : Option VV → VV → Nat → DR}
theorem run_fold47 (hx1 : xt 1 = some (.long, 0, f1)) (hd : 82 ≤ d) (hK : TOKS T mk ln) (hca : ca ≤ 10) (hW0 : W0 ≤ 500000) (hEk : ENk EN) (hAP : AP xt d fi P A0 h0 W0 EN ca cp bx by_ T i k f) {t dq p wq n N : Nat} {nw lq : Option Nat} {w : VV} {dd c : Int} {nx : Value} (hkA : k < avM T i) (had : 1 ≤ tqD (T (i + 1 + k)) ∧ tqD (T (i + 1 + k)) ≤ 126) (hav : tqD (T (i + 1 + k)) = 47) (hn : n = vm w) (hn120 : n ≤ 120) (hc : 10 ≤ c) (htm : t + 121 * (k + 1) + 684 * (10 - ca) + 1 ≤ 8192) (hdq : dq + (k + 1) + 5 * (10 - ca) ≤ 64) : ∀ (r j m : Nat), r + j = n → ∀ (A : Nat → Prop) (h : mj_H) (W st : Nat) (sf : Nat → Option Nat) (v : VV) (ch : Nat → VV), EN A h → LST A0 h0 W0 A h t 1 dq ca cp W nw bx by_ sf p k lq wq j n (fun _ => v) → fzC A h p (doC T i dd nx) → gv A h wq w → (st : Int) + 300 * (W : Int) + 2 < 199000000 → Kon xt d fi P A0 h0 W0 A h t dq ca cp nw bx by_ sf st c W (dFo (fun j v W => f (some v) (vit w j) W) (fun W v ch => if tqD (T (i + 1 + k)) = 47 then (W, .inr v) else dGa cp W N ch (tqP (T i) : Int)) r j m v ch W) → HD xt d fi st h P := by
  intro r
  induction r with
  | zero =>
    intro j m hrj A h W st sf v ch hEN hL hp hw hst hk
    have hk : Kon xt d fi P A0 h0 W0 A h t dq ca cp nw bx by_ sf st c W (if tqD (T (i + 1 + k)) = 47 then (W, .inr v) else dGa cp W N ch (tqP (T i) : Int)) := hk
    rw [if_pos hav] at hk
    obtain ⟨⟨hM, hB, h32, ⟨pl, ou, lv, lf, rt, h16, hcp⟩, hc0⟩, hfr, hstk⟩ := hL
    obtain ⟨⟨ff, f33, fff⟩, -⟩ := hM.2.2.2.1
    have hp127 := fz_127 hM hp
    have hk4 : k < 4 := Nat.lt_of_lt_of_le hkA (soN_le 4 (i + 1))
    have hn16 : ¬ A 16 := fun z => by have := hM.2.1 16 z; omega
    refine tn_advn (fr := 34 + dq) (by omega) h16 (by omega) f33 (fff dq (by omega)) (by omega) hfr (by omega) (m_avE (e := 6) (w := v1 0 0) hx1 (by omega) hM.1 hM.2.1 hK h16 h32 (by omega) hfr hp.2.2 hp127 hkA (by omega) (by omega) (by omega) hav rfl) (fun h1 hq => ?_)
    subst hq
    obtain ⟨q, q1, q2⟩ := hstk 0 (by omega)
    have e := newA_same (A := A) (h := h) (h' := h.set 16 (mcC ((t + 1 : Nat) : Int) ((dq : Nat) : Int) (ca : Int) ou (W : Int) 0 pl (oV nw) (oV bx) (oV by_) .null lv lf rt)) (by rw [List.length_set])
    refine hk _ (st + 1) sf q (MF_set (Or.inr (Or.inl rfl))) ?_ (fun _ _ => rfl) q1 ?_ (by show ((st + 1 : Nat) : Int) + 300 * (W : Int) ≤ _; omega)
    · rw [e]; exact ⟨MH_s16 hM _, BI_s16 hB h16 rfl, by rw [List.getElem?_set_ne (by decide)]; exact h32, ⟨pl, ou, lv, lf, rt, List.getElem?_set_self (hl_lt h16), hcp⟩, hc0⟩
    · rw [e]; exact ⟨cv_set hn16 q2.1, q2.2⟩
  | succ r ih =>
    intro j m hrj A h W st sf v ch hEN hL hp hw hst hk
    obtain ⟨⟨hM, hB, h32, ⟨pl, ou, lv, lf, rt, h16, hcp⟩, hc0⟩, hfr, hstk⟩ := hL
    obtain ⟨⟨ff, f33, fff⟩, -⟩ := hM.2.2.2.1
    have hp127 := fz_127 hM hp
    have hk4 : k < 4 := Nat.lt_of_lt_of_le hkA (soN_le 4 (i + 1))
    obtain ⟨ql, s1, s2⟩ := hstk 0 (by omega)
    refine tn_advn (fr := 34 + dq) (by omega) h16 (by omega) f33 (fff dq (by omega)) (by omega) hfr (by omega) (m_avF (e := 6) (t := t) hx1 (by omega) hM.1 hM.2.1 hK h16 h32 (by omega) hfr hp.2.2 hp127 hkA (by omega) (by omega) (by omega) hav hw.1 (Or.inr (by omega)) s2.1 (by omega) s1) (fun h1 hq => ?_)
    obtain ⟨q2, fx, g16, g32, gfr, gq, gl⟩ := hq
    obtain ⟨x1, hM1⟩ := MH_fx hM fx (by omega) gfr
    have hB1 := BI_fx hB fx x1 (by omega)
    have hvi := vlv_it (j := j) (cv_wf hw.1).1 hw.2.2 hw.2.1 (Or.inr (by omega))
    refine hAP (newA A h h1) h1 t (dq + 1) W (0 + 1) (st + 1) p nw sf (some ql) q2 (some v) (vit w j) dd nx (hEk A h h1 hM (MF_dn (Nat.zero_le _) x1) hEN) ⟨hM1, hB1, g32, ⟨pl, ou, g16, hcp⟩, hc0⟩ ⟨by omega, fun z => by cases z⟩ (fzC_k (MF_kp hM.2.1 x1) hp) ⟨gl, s2.2⟩ ⟨gq, hvi.1, hvi.2⟩ (by omega) (by omega) (by omega) ?_
    rcases hf : f (some v) (vit w j) W with ⟨W1, e | u⟩
    · have e1 : dFo (fun j v W => f (some v) (vit w j) W) (fun W v ch => if tqD (T (i + 1 + k)) = 47 then (W, .inr v) else dGa cp W N ch (tqP (T i) : Int)) (r + 1) j m v ch W = (W1, .inl e) := by
        show dB (f (some v) (vit w j) W) _ = _
        rw [hf]; rfl
      rw [e1] at hk
      exact hk
    · have e1 : dFo (fun j v W => f (some v) (vit w j) W) (fun W v ch => if tqD (T (i + 1 + k)) = 47 then (W, .inr v) else dGa cp W N ch (tqP (T i) : Int)) (r + 1) j m v ch W = dFo (fun j v W => f (some v) (vit w j) W) (fun W v ch => if tqD (T (i + 1 + k)) = 47 then (W, .inr v) else dGa cp W N ch (tqP (T i) : Int)) r (j + 1) (m + 1) u (va_up ch m u) W1 := by
        show dB (f (some v) (vit w j) W) _ = _
        rw [hf]; rfl
      rw [e1] at hk
      intro h2 st2 sf2 q y1 hMR2 hsf2 hq2 hg2 hst2
      rw [newA_tr x1.1 y1.1] at hMR2 hg2
      have x2 : MF dq h h2 := MF_tr x1 (MF_dn (by omega) y1)
      have hl := hM.1
      have hst2 : (st2 : Int) + 300 * (W1 : Int) ≤ ((st + 1 : Nat) : Int) + 300 * (W : Int) + (-5) := hst2
      refine ih (j + 1) (m + 1) (by omega) (newA A h h2) h2 W1 st2 sf2 u (va_up ch m u) (hEk A h h2 hM (MF_dn (Nat.zero_le _) x2) hEN) ⟨hMR2, ?_, fun x hx => ?_⟩ (fzC_k (MF_kp hM.2.1 x2) hp) (gv_MF hM.2.1 x2 hw) (by omega) (Kon_tr hk x2 (fun y hy => hsf2 y (by omega)) (by omega))
      · rw [y1.2 (34 + dq) (by have := x1.1; omega) (by unfold mcS scr; omega)]; exact gfr
      · rw [show x = 0 by omega]; exact ⟨q, hq2, hg2⟩
theorem run_fold92 (hx1 : xt 1 = some (.long, 0, f1)) (hd : 82 ≤ d) (hK : TOKS T mk ln) (hca : ca ≤ 10) (hW0 : W0 ≤ 500000) (hEk : ENk EN) (hAP : AP xt d fi P A0 h0 W0 EN ca cp bx by_ T i k f) {t dq p wq n N : Nat} {nw lq : Option Nat} {w : VV} {dd c : Int} {nx : Value} (hkA : k < avM T i) (had : 1 ≤ tqD (T (i + 1 + k)) ∧ tqD (T (i + 1 + k)) ≤ 126) (hav : tqD (T (i + 1 + k)) = 92) (hn : n = vm w) (hn120 : n ≤ 120) (hN : N ≤ 121) (hc : 10 ≤ c) (htm : t + 121 * (k + 1) + 684 * (10 - ca) + 1 ≤ 8192) (hdq : dq + (k + 1) + 5 * (10 - ca) ≤ 64) : ∀ (r j m : Nat), r + j = n → m + 1 + r = N → ∀ (A : Nat → Prop) (h : mj_H) (W st : Nat) (sf : Nat → Option Nat) (v : VV) (ch : Nat → VV), ch m = v → EN A h → LST A0 h0 W0 A h t (m + 1) dq ca cp W nw bx by_ sf p k lq wq j n ch → fzC A h p (doC T i dd nx) → gv A h wq w → (st : Int) + 300 * (W : Int) + 2 < 199000000 → Kon xt d fi P A0 h0 W0 A h t dq ca cp nw bx by_ sf st c W (dFo (fun j v W => f (some v) (vit w j) W) (fun W v ch => if tqD (T (i + 1 + k)) = 47 then (W, .inr v) else dGa cp W N ch (tqP (T i) : Int)) r j (m + 1) v ch W) → HD xt d fi st h P := by
  intro r
  induction r with
  | zero =>
    intro j m hrj hmN A h W st sf v ch hch hEN hL hp hw hst hk
    have hk : Kon xt d fi P A0 h0 W0 A h t dq ca cp nw bx by_ sf st c W (if tqD (T (i + 1 + k)) = 47 then (W, .inr v) else dGa cp W N ch (tqP (T i) : Int)) := hk
    rw [if_neg (by omega)] at hk
    have hmN : N = m + 1 := by omega
    rw [hmN] at hk
    exact run_gat hx1 hd hK hca hW0 hL hp hkA had (by omega) (by omega) (by omega) (by omega) (by omega) (by omega) (by omega) (by omega) hk
  | succ r ih =>
    intro j m hrj hmN A h W st sf v ch hch hEN hL hp hw hst hk
    obtain ⟨⟨hM, hB, h32, ⟨pl, ou, lv, lf, rt, h16, hcp⟩, hc0⟩, hfr, hstk⟩ := hL
    obtain ⟨⟨ff, f33, fff⟩, -⟩ := hM.2.2.2.1
    have hp127 := fz_127 hM hp
    have hk4 : k < 4 := Nat.lt_of_lt_of_le hkA (soN_le 4 (i + 1))
    obtain ⟨ql, s1, s2⟩ := hstk m (by omega)
    rw [hch] at s2
    refine tn_advn (fr := 34 + dq) (by omega) h16 (by omega) f33 (fff dq (by omega)) (by omega) hfr (by omega) (m_avS (e := 6) (t := t + m) hx1 (by omega) hM.1 hM.2.1 hK h16 h32 (by omega) hfr hp.2.2 hp127 hkA (by omega) (by omega) (by omega) hav hw.1 (Or.inr (by omega)) s2.1 (by omega) s1) (fun h1 hq => ?_)
    obtain ⟨q2, fx, g16, g32, gfr, gq, gl⟩ := hq
    obtain ⟨x1, hM1⟩ := MH_fx hM fx (by omega) gfr
    have hB1 := BI_fx hB fx x1 (by omega)
    have hvi := vlv_it (j := j) (cv_wf hw.1).1 hw.2.2 hw.2.1 (Or.inr (by omega))
    refine hAP (newA A h h1) h1 (t + m + 1) (dq + 1) W (0 + 1) (st + 1) p nw (va_up sf (t + m) (some ql)) (some ql) q2 (some v) (vit w j) dd nx (hEk A h h1 hM (MF_dn (Nat.zero_le _) x1) hEN) ⟨hM1, hB1, g32, ⟨pl, ou, g16, hcp⟩, hc0⟩ ⟨by omega, fun z => by cases z⟩ (fzC_k (MF_kp hM.2.1 x1) hp) ⟨gl, s2.2⟩ ⟨gq, hvi.1, hvi.2⟩ (by omega) (by omega) (by omega) ?_
    have hsfu : ∀ y, va_up sf (t + m) (some ql) y = sf y := fun y => by
      rw [up_at]
      by_cases z : y = t + m
      · rw [if_pos z, z, s1]
      · rw [if_neg z]
    rcases hf : f (some v) (vit w j) W with ⟨W1, e | u⟩
    · have e1 : dFo (fun j v W => f (some v) (vit w j) W) (fun W v ch => if tqD (T (i + 1 + k)) = 47 then (W, .inr v) else dGa cp W N ch (tqP (T i) : Int)) (r + 1) j (m + 1) v ch W = (W1, .inl e) := by
        show dB (f (some v) (vit w j) W) _ = _
        rw [hf]; rfl
      rw [e1] at hk
      exact hk
    · have e1 : dFo (fun j v W => f (some v) (vit w j) W) (fun W v ch => if tqD (T (i + 1 + k)) = 47 then (W, .inr v) else dGa cp W N ch (tqP (T i) : Int)) (r + 1) j (m + 1) v ch W = dFo (fun j v W => f (some v) (vit w j) W) (fun W v ch => if tqD (T (i + 1 + k)) = 47 then (W, .inr v) else dGa cp W N ch (tqP (T i) : Int)) r (j + 1) (m + 1 + 1) u (va_up ch (m + 1) u) W1 := by
        show dB (f (some v) (vit w j) W) _ = _
        rw [hf]; rfl
      rw [e1] at hk
      intro h2 st2 sf2 q y1 hMR2 hsf2 hq2 hg2 hst2
      rw [newA_tr x1.1 y1.1] at hMR2 hg2
      have x2 : MF dq h h2 := MF_tr x1 (MF_dn (by omega) y1)
      have hl := hM.1
      have hst2 : (st2 : Int) + 300 * (W1 : Int) ≤ ((st + 1 : Nat) : Int) + 300 * (W : Int) + (-5) := hst2
      refine ih (j + 1) (m + 1) (by omega) (by omega) (newA A h h2) h2 W1 st2 sf2 u (va_up ch (m + 1) u) (up_eq _ _ _) (hEk A h h2 hM (MF_dn (Nat.zero_le _) x2) hEN) ⟨hMR2, ?_, fun x hx => ?_⟩ (fzC_k (MF_kp hM.2.1 x2) hp) (gv_MF hM.2.1 x2 hw) (by omega) (Kon_tr hk x2 (fun y hy => (hsf2 y (by omega)).trans (hsfu y)) (by omega))
      · rw [y1.2 (34 + dq) (by have := x1.1; omega) (by unfold mcS scr; omega)]; exact gfr
      · rw [up_at]
        by_cases z : x = m + 1
        · rw [if_pos z, z]; exact ⟨q, hq2, hg2⟩
        · rw [if_neg z]
          obtain ⟨q', z1, z2⟩ := hstk x (by omega)
          exact ⟨q', ((hsf2 (t + x) (by omega)).trans (hsfu (t + x))).trans z1, gv_MF hM.2.1 x2 z2⟩
end fold
