/-! the Machine's run: ADVERBS -/
/-- an act with k ADVERBS is done as f tells -/
def AP (xt : mj_X) (d fi : Nat) (P : Option Value → mj_H → Prop) (A0 : Nat → Prop) (h0 : mj_H) (W0 : Nat) (EN : (Nat → Prop) → mj_H → Prop) (ca : Nat) (cp : Option Int) (bx by_ : Option Nat) (T : Nat → Tok) (i k : Nat) (f : Option VV → VV → Nat → DR) : Prop := ∀ (A : Nat → Prop) (h : mj_H) (t dq W s st p : Nat) (nw : Option Nat) (sf : Nat → Option Nat) (lq : Option Nat) (wq : Nat) (l : Option VV) (w : VV) (dd : Int) (nx : Value), EN A h → MD A0 h0 W0 A h t dq ca cp W s nw bx by_ sf p k lq wq → (s ≤ 2 ∧ (lq = none → s ≤ 1)) → fzC A h p (doC T i dd nx) → OG A h lq l → gv A h wq w → t + 121 * k + 684 * (10 - ca) + 1 ≤ 8192 → dq + k + 5 * (10 - ca) ≤ 64 → (st : Int) + 300 * (W : Int) < 199000000 → Kon xt d fi P A0 h0 W0 A h t dq ca cp nw bx by_ sf st (-5) W (f l w W) → HD xt d fi st h P
/-- what the surroundings tell holds on -/
def ENk (EN : (Nat → Prop) → mj_H → Prop) : Prop := ∀ (A : Nat → Prop) (h h' : mj_H), MH A h → MF 0 h h' → EN A h → EN (newA A h h') h'
theorem vlv_it {w : VV} {j : Nat} (hw : vw1 w) (h5 : vlv 7 w ≤ 5) (hs : vsz 7 w ≤ 1000) (hj : vk w ≤ 1 ∨ j < vm w) : vsz 7 (vit w j) ≤ 1000 ∧ vlv 7 (vit w j) ≤ 5 := by
  unfold vit
  by_cases h1 : vk w ≤ 1
  · rw [if_pos h1]; exact ⟨hs, h5⟩
  · rw [if_neg h1]
    have hj : j < vm w := by omega
    by_cases h7 : vk w = 7
    · rw [if_pos h7]
      have a := vlv_ch (d := 6) (c := 5) h7 (show vlv 7 w < 6 by omega) j hj
      have b := vlow 7 6 (vd w j) (by omega) (by omega)
      have e : vsz 7 w = 1 + sumN (vm w) (fun k => vsz 6 (vd w k)) := by
        show (if vk w ≤ 1 then 1 else if vk w = 6 then _ else if vk w = 7 then 1 + sumN (vm w) (fun k => vsz 6 (vd w k)) else _) = _
        rw [if_neg h1, if_neg (by omega), if_pos h7]
      have c : vsz 6 (vd w j) ≤ sumN (vm w) (fun k => vsz 6 (vd w k)) := sumN_mem (f := fun k => vsz 6 (vd w k)) hj
      omega
    · rw [if_neg h7]
      by_cases h6 : vk w = 6
      · rw [if_pos h6]
        have e : vsz 7 w = 1 + vm w * vc w := by
          show (if vk w ≤ 1 then 1 else if vk w = 6 then 1 + vm w * vc w else _) = _
          rw [if_neg h1, if_pos h6]
        have m : vc w ≤ vm w * vc w := Nat.le_mul_of_pos_left _ (by omega)
        show (if (4 : Nat) ≤ 1 then 1 else if (4 : Nat) = 6 then _ else if (4 : Nat) = 7 then _ else 1 + vc w) ≤ 1000 ∧ (if (4 : Nat) ≤ 1 then 0 else if (4 : Nat) = 6 then 2 else if (4 : Nat) = 7 then _ else 1) ≤ 5
        rw [if_neg (by omega), if_neg (by omega), if_neg (by omega), if_neg (by omega), if_neg (by omega), if_neg (by omega)]
        omega
      · rw [if_neg h6]
        have hk : (if vk w = 3 then 1 else 0) ≤ 1 := by split <;> omega
        have e1 : vsz 7 (v1 (if vk w = 3 then 1 else 0) (vn w j)) = 1 := if_pos (show vk (v1 (if vk w = 3 then 1 else 0) (vn w j)) ≤ 1 from hk)
        have e2 : vlv 7 (v1 (if vk w = 3 then 1 else 0) (vn w j)) = 0 := if_pos (show vk (v1 (if vk w = 3 then 1 else 0) (vn w j)) ≤ 1 from hk)
        omega
section adv
variable {xt : mj_X} {f1 : Nat → Value} {d fi : Nat} {P : Option Value → mj_H → Prop} {A0 : Nat → Prop} {h0 : mj_H} {W0 : Nat} {EN : (Nat → Prop) → mj_H → Prop} {ca : Nat} {cp : Option Int} {bx by_ : Option Nat} {T : Nat → Tok} {i k mk ln : Nat} {f : Option VV → VV → Nat → DR}
/-- the state at the head of an ADVERB's items: m values stand on the stack from t on, j items are done -/
def LST (A0 : Nat → Prop) (h0 : mj_H) (W0 : Nat) (A : Nat → Prop) (h : mj_H) (t m dq ca : Nat) (cp : Option Int) (W : Nat) (nw bx by_ : Option Nat) (sf : Nat → Option Nat) (p k : Nat) (lq : Option Nat) (wq j n : Nat) (ch : Nat → VV) : Prop := MR A0 h0 W0 A h (t + m) (dq + 1) ca cp W nw bx by_ sf ∧ h[34 + dq]? = some (cO 0 [ii ((k + 1 : Nat) : Int), .ref p, oV lq, .ref wq, ii ((j : Nat) : Int), ii ((n : Nat) : Int), ii ((t : Nat) : Int)]) ∧ ∀ x, x < m → ∃ q, sf (t + x) = some q ∧ gv A h q (ch x)
/-- the values are put into one -/
theorem run_gat (hx1 : xt 1 = some (.long, 0, f1)) (hd : 82 ≤ d) (hK : TOKS T mk ln) (hca : ca ≤ 10) (hW0 : W0 ≤ 500000) {A : Nat → Prop} {h : mj_H} {t m dq W st p wq j n : Nat} {lq nw : Option Nat} {sf : Nat → Option Nat} {ch : Nat → VV} {dd c : Int} {nx : Value} (hL : LST A0 h0 W0 A h t m dq ca cp W nw bx by_ sf p k lq wq j n ch) (hp : fzC A h p (doC T i dd nx)) (hkA : k < avM T i) (had : 1 ≤ tqD (T (i + 1 + k)) ∧ tqD (T (i + 1 + k)) ≤ 126) (hav : tqD (T (i + 1 + k)) ≠ 47) (hjn : n ≤ j) (hj : j ≤ 1000) (hm : m ≤ 300) (htm : t + m < 8192) (hdq : dq < 64) (hc : -400 ≤ c) (hst : (st : Int) + 300 * (W : Int) < 199000000) (hk : Kon xt d fi P A0 h0 W0 A h t dq ca cp nw bx by_ sf st c W (dGa cp W m ch (tqP (T i) : Int))) : HD xt d fi st h P := by
  obtain ⟨⟨hM, hB, h32, ⟨pl, ou, lv, lf, rt, h16, hcp⟩, hc0⟩, hfr, hstk⟩ := hL
  obtain ⟨⟨ff, f33, fff⟩, -⟩ := hM.2.2.2.1
  have hp127 := fz_127 hM hp
  have hk4 : k < 4 := Nat.lt_of_lt_of_le hkA (soN_le 4 (i + 1))
  have hWle := BI_le hB (by omega)
  have h16z : (h.set 16 (mcC ((t + m : Nat) : Int) ((dq : Nat) : Int) (ca : Int) ou (W : Int) 0 pl (oV nw) (oV bx) (oV by_) .null lv lf rt))[16]? = some (mcC ((t + m : Nat) : Int) ((dq : Nat) : Int) (ca : Int) ou (W : Int) 0 pl (oV nw) (oV bx) (oV by_) .null lv lf rt) := List.getElem?_set_self (hl_lt h16)
  have hMz := MH_s16 hM (mcC ((t + m : Nat) : Int) ((dq : Nat) : Int) (ca : Int) ou (W : Int) 0 pl (oV nw) (oV bx) (oV by_) .null lv lf rt)
  have hBz := BI_s16 hB h16 (c := mcC ((t + m : Nat) : Int) ((dq : Nat) : Int) (ca : Int) ou (W : Int) 0 pl (oV nw) (oV bx) (oV by_) .null lv lf rt) rfl
  have h32z : (h.set 16 (mcC ((t + m : Nat) : Int) ((dq : Nat) : Int) (ca : Int) ou (W : Int) 0 pl (oV nw) (oV bx) (oV by_) .null lv lf rt))[32]? = some (cA 4 8192 sf) := by rw [List.getElem?_set_ne (by decide)]; exact h32
  have hpz : (h.set 16 (mcC ((t + m : Nat) : Int) ((dq : Nat) : Int) (ca : Int) ou (W : Int) 0 pl (oV nw) (oV bx) (oV by_) .null lv lf rt))[p]? = some (doC T i dd nx) := by rw [List.getElem?_set_ne (by omega)]; exact hp.2.2
  have hn16 : ¬ A 16 := fun z => by have := hM.2.1 16 z; omega
  have hkz := Kon_s16 (z := mcC ((t + m : Nat) : Int) ((dq : Nat) : Int) (ca : Int) ou (W : Int) 0 pl (oV nw) (oV bx) (oV by_) .null lv lf rt) (st2 := st) (W2 := W) (c2 := c) hk (by omega)
  have e1 : ((t + m : Nat) : Int) - ((t : Nat) : Int) = ((m : Nat) : Int) := by omega
  refine tn_advn (fr := 34 + dq) (by omega) h16 hdq f33 (fff dq hdq) (by omega) hfr (by omega) (m_avG (e := 6) (w := v1 0 0) hx1 (by omega) hM.1 hM.2.1 hK h16 h32 (by omega) hfr hp.2.2 hp127 hkA (by omega) (by omega) hjn hav (by rw [e1]; exact m_gather (e := 6) (t := t) (n := m) (fr := ((t : Nat) : Int)) (stp := 1) (ix := fun x => t + x) (ch := ch) hx1 (by omega) hMz.1 hMz.2.1 h16z h32z (fun x hx => by omega) (fun x hx => by omega) (fun x hx => by obtain ⟨q, q1, q2⟩ := hstk x hx; exact ⟨q, q1, cv_set hn16 q2.1⟩) (fun x hx => by omega) hpz hp127 (by omega) hMz.2.2.1 (by omega) (by omega) (by omega) (by omega) (fun _ => by omega) (by omega) (fun x hx => by obtain ⟨q, q1, q2⟩ := hstk x hx; exact q2.2.1))) (fun h1 hq => ?_)
  exact gat_done hMz hBz hcp hc0 (by omega) hm (by omega) hq hkz
/-- each item, with one value -/
theorem run_each0 (hx1 : xt 1 = some (.long, 0, f1)) (hd : 82 ≤ d) (hK : TOKS T mk ln) (hca : ca ≤ 10) (hW0 : W0 ≤ 500000) (hEk : ENk EN) (hAP : AP xt d fi P A0 h0 W0 EN ca cp bx by_ T i k f) {t dq p wq n : Nat} {nw : Option Nat} {w : VV} {dd c : Int} {nx : Value} (hkA : k < avM T i) (had : 1 ≤ tqD (T (i + 1 + k)) ∧ tqD (T (i + 1 + k)) ≤ 126) (hav : tqD (T (i + 1 + k)) = 39) (hn : n = vm w) (hn120 : n ≤ 120) (hc : 10 ≤ c) (htm : t + 121 * (k + 1) + 684 * (10 - ca) + 1 ≤ 8192) (hdq : dq + (k + 1) + 5 * (10 - ca) ≤ 64) : ∀ (r j : Nat), r + j = n → ∀ (A : Nat → Prop) (h : mj_H) (W st : Nat) (sf : Nat → Option Nat) (ch : Nat → VV), EN A h → LST A0 h0 W0 A h t j dq ca cp W nw bx by_ sf p k none wq j n ch → fzC A h p (doC T i dd nx) → gv A h wq w → (st : Int) + 300 * (W : Int) + 2 < 199000000 → Kon xt d fi P A0 h0 W0 A h t dq ca cp nw bx by_ sf st c W (dLp (fun j W => f none (vit w j) W) (fun W ch => dGa cp W (vm w) ch (tqP (T i) : Int)) r j ch W) → HD xt d fi st h P := by
  intro r
  induction r with
  | zero =>
    intro j hrj A h W st sf ch hEN hL hp hw hst hk
    have hjn : j = n := by omega
    subst hjn
    have hk : Kon xt d fi P A0 h0 W0 A h t dq ca cp nw bx by_ sf st c W (dGa cp W (vm w) ch (tqP (T i) : Int)) := hk
    rw [← hn] at hk
    exact run_gat hx1 hd hK hca hW0 hL hp hkA had (by omega) (Nat.le_refl _) (by omega) (by omega) (by omega) (by omega) (by omega) (by omega) hk
  | succ r ih =>
    intro j hrj A h W st sf ch hEN hL hp hw hst hk
    obtain ⟨⟨hM, hB, h32, ⟨pl, ou, lv, lf, rt, h16, hcp⟩, hc0⟩, hfr, hstk⟩ := hL
    obtain ⟨⟨ff, f33, fff⟩, -⟩ := hM.2.2.2.1
    have hp127 := fz_127 hM hp
    have hk4 : k < 4 := Nat.lt_of_lt_of_le hkA (soN_le 4 (i + 1))
    refine tn_advn (fr := 34 + dq) (by omega) h16 (by omega) f33 (fff dq (by omega)) (by omega) hfr (by omega) (m_avE0 (e := 6) hx1 (by omega) hM.1 hM.2.1 hK h16 h32 (by omega) hfr hp.2.2 hp127 hkA (by omega) (by omega) (by omega) hav hw.1 (Or.inr (by omega))) (fun h1 hq => ?_)
    obtain ⟨q2, fx, g16, g32, gfr, gq⟩ := hq
    obtain ⟨x1, hM1⟩ := MH_fx hM fx (by omega) gfr
    have hB1 := BI_fx hB fx x1 (by omega)
    have hvi := vlv_it (j := j) (cv_wf hw.1).1 hw.2.2 hw.2.1 (Or.inr (by omega))
    refine hAP (newA A h h1) h1 (t + j) (dq + 1) W (0 + 1) (st + 1) p nw sf none q2 none (vit w j) dd nx (hEk A h h1 hM (MF_dn (Nat.zero_le _) x1) hEN) ⟨hM1, hB1, g32, ⟨pl, ou, g16, hcp⟩, hc0⟩ ⟨by omega, fun _ => by omega⟩ (fzC_k (MF_kp hM.2.1 x1) hp) trivial ⟨gq, hvi.1, hvi.2⟩ (by omega) (by omega) (by omega) ?_
    rcases hf : f none (vit w j) W with ⟨W1, e | v⟩
    · have e1 : dLp (fun j W => f none (vit w j) W) (fun W ch => dGa cp W (vm w) ch (tqP (T i) : Int)) (r + 1) j ch W = (W1, .inl e) := by
        show dB (f none (vit w j) W) _ = _
        rw [hf]; rfl
      rw [e1] at hk
      exact hk
    · have e1 : dLp (fun j W => f none (vit w j) W) (fun W ch => dGa cp W (vm w) ch (tqP (T i) : Int)) (r + 1) j ch W = dLp (fun j W => f none (vit w j) W) (fun W ch => dGa cp W (vm w) ch (tqP (T i) : Int)) r (j + 1) (va_up ch j v) W1 := by
        show dB (f none (vit w j) W) _ = _
        rw [hf]; rfl
      rw [e1] at hk
      intro h2 st2 sf2 q y1 hMR2 hsf2 hq2 hg2 hst2
      rw [newA_tr x1.1 y1.1] at hMR2 hg2
      have x2 : MF dq h h2 := MF_tr x1 (MF_dn (by omega) y1)
      have hl := hM.1
      have hst2 : (st2 : Int) + 300 * (W1 : Int) ≤ ((st + 1 : Nat) : Int) + 300 * (W : Int) + (-5) := hst2
      refine ih (j + 1) (by omega) (newA A h h2) h2 W1 st2 sf2 (va_up ch j v) (hEk A h h2 hM (MF_dn (Nat.zero_le _) x2) hEN) ⟨hMR2, ?_, fun x hx => ?_⟩ (fzC_k (MF_kp hM.2.1 x2) hp) (gv_MF hM.2.1 x2 hw) (by omega) (Kon_tr hk x2 (fun y hy => hsf2 y (by omega)) (by omega))
      · rw [y1.2 (34 + dq) (by have := x1.1; omega) (by unfold mcS scr; omega)]; exact gfr
      · rw [up_at]
        by_cases z : x = j
        · rw [if_pos z, z]; exact ⟨q, hq2, hg2⟩
        · rw [if_neg z]
          obtain ⟨q', z1, z2⟩ := hstk x (by omega)
          exact ⟨q', (hsf2 (t + x) (by omega)).trans z1, gv_MF hM.2.1 x2 z2⟩
/-- each item, with two values -/
theorem run_each1 (hx1 : xt 1 = some (.long, 0, f1)) (hd : 82 ≤ d) (hK : TOKS T mk ln) (hca : ca ≤ 10) (hW0 : W0 ≤ 500000) (hEk : ENk EN) (hAP : AP xt d fi P A0 h0 W0 EN ca cp bx by_ T i k f) {t dq p lq wq n : Nat} {nw : Option Nat} {l w : VV} {dd c : Int} {nx : Value} (hkA : k < avM T i) (had : 1 ≤ tqD (T (i + 1 + k)) ∧ tqD (T (i + 1 + k)) ≤ 126) (hav : tqD (T (i + 1 + k)) = 39) (hnl : vk l ≤ 1 ∨ n ≤ vm l) (hnw : vk w ≤ 1 ∨ n ≤ vm w) (hn120 : n ≤ 120) (hc : 10 ≤ c) (htm : t + 121 * (k + 1) + 684 * (10 - ca) + 1 ≤ 8192) (hdq : dq + (k + 1) + 5 * (10 - ca) ≤ 64) : ∀ (r j : Nat), r + j = n → ∀ (A : Nat → Prop) (h : mj_H) (W st : Nat) (sf : Nat → Option Nat) (ch : Nat → VV), EN A h → LST A0 h0 W0 A h t j dq ca cp W nw bx by_ sf p k (some lq) wq j n ch → fzC A h p (doC T i dd nx) → gv A h lq l → gv A h wq w → (st : Int) + 300 * (W : Int) + 2 < 199000000 → Kon xt d fi P A0 h0 W0 A h t dq ca cp nw bx by_ sf st c W (dLp (fun j W => f (some (vit l j)) (vit w j) W) (fun W ch => dGa cp W n ch (tqP (T i) : Int)) r j ch W) → HD xt d fi st h P := by
  intro r
  induction r with
  | zero =>
    intro j hrj A h W st sf ch hEN hL hp hl' hw hst hk
    have hjn : j = n := by omega
    subst hjn
    exact run_gat hx1 hd hK hca hW0 hL hp hkA had (by omega) (Nat.le_refl _) (by omega) (by omega) (by omega) (by omega) (by omega) (by omega) hk
  | succ r ih =>
    intro j hrj A h W st sf ch hEN hL hp hl' hw hst hk
    obtain ⟨⟨hM, hB, h32, ⟨pl, ou, lv, lf, rt, h16, hcp⟩, hc0⟩, hfr, hstk⟩ := hL
    obtain ⟨⟨ff, f33, fff⟩, -⟩ := hM.2.2.2.1
    have hp127 := fz_127 hM hp
    have hk4 : k < 4 := Nat.lt_of_lt_of_le hkA (soN_le 4 (i + 1))
    refine tn_advn (fr := 34 + dq) (by omega) h16 (by omega) f33 (fff dq (by omega)) (by omega) hfr (by omega) (m_avE1 (e := 6) hx1 (by omega) hM.1 hM.2.1 hK h16 h32 (by omega) hfr hp.2.2 hp127 hkA (by omega) (by omega) (by omega) hav hw.1 (by omega) hl'.1 (by omega)) (fun h1 hq => ?_)
    obtain ⟨q1, q2, fx, g16, g32, gfr, gq, gq1⟩ := hq
    obtain ⟨x1, hM1⟩ := MH_fx hM fx (by omega) gfr
    have hB1 := BI_fx hB fx x1 (by omega)
    have hvi := vlv_it (j := j) (cv_wf hw.1).1 hw.2.2 hw.2.1 (by omega)
    have hli := vlv_it (j := j) (cv_wf hl'.1).1 hl'.2.2 hl'.2.1 (by omega)
    refine hAP (newA A h h1) h1 (t + j) (dq + 1) W (0 + 2) (st + 1) p nw sf (some q1) q2 (some (vit l j)) (vit w j) dd nx (hEk A h h1 hM (MF_dn (Nat.zero_le _) x1) hEN) ⟨hM1, hB1, g32, ⟨pl, ou, g16, hcp⟩, hc0⟩ ⟨by omega, fun z => by cases z⟩ (fzC_k (MF_kp hM.2.1 x1) hp) ⟨gq1, hli.1, hli.2⟩ ⟨gq, hvi.1, hvi.2⟩ (by omega) (by omega) (by omega) ?_
    rcases hf : f (some (vit l j)) (vit w j) W with ⟨W1, e | v⟩
    · have e1 : dLp (fun j W => f (some (vit l j)) (vit w j) W) (fun W ch => dGa cp W n ch (tqP (T i) : Int)) (r + 1) j ch W = (W1, .inl e) := by
        show dB (f (some (vit l j)) (vit w j) W) _ = _
        rw [hf]; rfl
      rw [e1] at hk
      exact hk
    · have e1 : dLp (fun j W => f (some (vit l j)) (vit w j) W) (fun W ch => dGa cp W n ch (tqP (T i) : Int)) (r + 1) j ch W = dLp (fun j W => f (some (vit l j)) (vit w j) W) (fun W ch => dGa cp W n ch (tqP (T i) : Int)) r (j + 1) (va_up ch j v) W1 := by
        show dB (f (some (vit l j)) (vit w j) W) _ = _
        rw [hf]; rfl
      rw [e1] at hk
      intro h2 st2 sf2 q y1 hMR2 hsf2 hq2 hg2 hst2
      rw [newA_tr x1.1 y1.1] at hMR2 hg2
      have x2 : MF dq h h2 := MF_tr x1 (MF_dn (by omega) y1)
      have hl := hM.1
      have hst2 : (st2 : Int) + 300 * (W1 : Int) ≤ ((st + 1 : Nat) : Int) + 300 * (W : Int) + (-5) := hst2
      refine ih (j + 1) (by omega) (newA A h h2) h2 W1 st2 sf2 (va_up ch j v) (hEk A h h2 hM (MF_dn (Nat.zero_le _) x2) hEN) ⟨hMR2, ?_, fun x hx => ?_⟩ (fzC_k (MF_kp hM.2.1 x2) hp) (gv_MF hM.2.1 x2 hl') (gv_MF hM.2.1 x2 hw) (by omega) (Kon_tr hk x2 (fun y hy => hsf2 y (by omega)) (by omega))
      · rw [y1.2 (34 + dq) (by have := x1.1; omega) (by unfold mcS scr; omega)]; exact gfr
      · rw [up_at]
        by_cases z : x = j
        · rw [if_pos z, z]; exact ⟨q, hq2, hg2⟩
        · rw [if_neg z]
          obtain ⟨q', z1, z2⟩ := hstk x (by omega)
          exact ⟨q', (hsf2 (t + x) (by omega)).trans z1, gv_MF hM.2.1 x2 z2⟩
end adv
