/-! the Machine's run: its states -/
/-- the Frames -/
def FRS (h : mj_H) : Prop := (∃ ff : Nat → Option Nat, h[33]? = some (cA 7 64 ff) ∧ ∀ i, i < 64 → ff i = some (34 + i)) ∧ ∀ i, i < 64 → ∃ (fl fn fm fb : Int) (fo fx fy : Value), h[34 + i]? = some (cO 0 [ii fl, fo, fx, fy, ii fn, ii fm, ii fb])
/-- the Machine's own cells; of the Frames those from dq on -/
abbrev mcS (dq y : Nat) : Prop := scr y ∨ y = 16 ∨ y = 32 ∨ (34 + dq ≤ y ∧ y ≤ 97)
def MF (dq : Nat) (h h' : mj_H) : Prop := h.length ≤ h'.length ∧ ∀ y, y < h.length → ¬ mcS dq y → h'[y]? = h[y]?
theorem MF_rf (dq : Nat) (h : mj_H) : MF dq h h := ⟨Nat.le_refl _, fun _ _ _ => rfl⟩
theorem MF_tr {dq : Nat} {h h1 h2 : mj_H} (x : MF dq h h1) (z : MF dq h1 h2) : MF dq h h2 := ⟨Nat.le_trans x.1 z.1, fun y y1 y2 => (z.2 y (Nat.lt_of_lt_of_le y1 x.1) y2).trans (x.2 y y1 y2)⟩
theorem MF_dn {a b : Nat} {h h' : mj_H} (hab : a ≤ b) (x : MF b h h') : MF a h h' := ⟨x.1, fun y y1 y2 => x.2 y y1 (fun z => y2 (by rcases z with z | z | z | z; exact Or.inl z; exact Or.inr (Or.inl z); exact Or.inr (Or.inr (Or.inl z)); exact Or.inr (Or.inr (Or.inr ⟨by omega, z.2⟩))))⟩
theorem MF_FX {S : Nat → Prop} {a b dq : Nat} {h h' : mj_H} (x : FX S a b h h') (hS : ∀ y, S y → mcS dq y) : MF dq h h' := ⟨x.1, fun y y1 y2 => x.2.2.2 y y1 (fun z => y2 (hS y z))⟩
theorem MF_MA {dq : Nat} {h h' : mj_H} (x : MA h h') : MF dq h h' := ⟨x.2.1, fun y y1 y2 => x.1 y y1 (fun z => y2 (Or.inl z)) (fun z => y2 (Or.inr (Or.inl z))) (fun z => y2 (Or.inr (Or.inr (Or.inl z))))⟩
theorem MF_set {dq y : Nat} {h : mj_H} {c : mj_E} (hs : mcS dq y) : MF dq h (h.set y c) := ⟨by rw [List.length_set]; exact Nat.le_refl _, fun z _ z2 => List.getElem?_set_ne (fun q => z2 (by rw [← q]; exact hs))⟩
theorem newA_tr {A : Nat → Prop} {h h1 h2 : mj_H} (a : h.length ≤ h1.length) (b : h1.length ≤ h2.length) : newA (newA A h h1) h1 h2 = newA A h h2 := by
  funext y
  apply propext
  constructor
  · rintro ((z | z) | z)
    · exact Or.inl z
    · exact Or.inr ⟨z.1, Nat.lt_of_lt_of_le z.2 b⟩
    · exact Or.inr ⟨Nat.le_trans a z.1, z.2⟩
  · rintro (z | z)
    · exact Or.inl (Or.inl z)
    · by_cases q : y < h1.length
      · exact Or.inl (Or.inr ⟨z.1, q⟩)
      · exact Or.inr ⟨Nat.le_of_not_lt q, z.2⟩
theorem newA_len {A : Nat → Prop} {h h1 h2 : mj_H} (a : h1.length = h2.length) : newA A h h1 = newA A h h2 := by unfold newA; rw [a]
theorem MF_kp {A : Nat → Prop} {dq : Nat} {h h' : mj_H} (hA : okA A h) (x : MF dq h h') : kpA A h (newA A h h') h' := fun a e ha hg => by
  have z := hA a ha
  refine ⟨Or.inl ha, ?_⟩
  rw [x.2 a z.1 (by unfold mcS scr; omega)]
  exact hg
theorem cv_MF {A : Nat → Prop} {dq D q : Nat} {h h' : mj_H} {v : VV} (hA : okA A h) (x : MF dq h h') (hv : cv A h D q v) : cv (newA A h h') h' D q v := cv_keep (MF_kp hA x) hv
/-- the heap while the Machine runs -/
def MH (A : Nat → Prop) (h : mj_H) : Prop := 127 ≤ h.length ∧ okA A h ∧ actH h ∧ FRS h ∧ cv A h 1 25 (v1 0 0) ∧ ∃ c, h[101]? = some (cO 10 c)
theorem MH_of {A : Nat → Prop} {dq : Nat} {h h' : mj_H} (hM : MH A h) (x : MF dq h h') (ha : actH h') (hF : FRS h') : MH (newA A h h') h' := by
  obtain ⟨m1, m2, m3, m4, m5, c, m6⟩ := hM
  refine ⟨Nat.le_trans m1 x.1, okA_new m2 m1 x.1, ha, hF, cv_MF m2 x m5, c, ?_⟩
  rw [x.2 101 (by omega) (by unfold mcS scr; omega)]
  exact m6
theorem FRS_64 {h h' : mj_H} (hl : 127 ≤ h.length) (hF : FRS h) (x : MF 64 h h') : FRS h' := by
  obtain ⟨⟨ff, f1, f2⟩, f3⟩ := hF
  refine ⟨⟨ff, ?_, f2⟩, fun i hi => ?_⟩
  · rw [x.2 33 (by omega) (by unfold mcS scr; omega)]; exact f1
  · obtain ⟨fl, fn, fm, fb, fo, fx, fy, z⟩ := f3 i hi
    refine ⟨fl, fn, fm, fb, fo, fx, fy, ?_⟩
    rw [x.2 (34 + i) (by omega) (by unfold mcS scr; omega)]; exact z
theorem MH_64 {A : Nat → Prop} {h h' : mj_H} (hM : MH A h) (x : MF 64 h h') (ha : actH h') : MH (newA A h h') h' := MH_of hM x ha (FRS_64 hM.1 hM.2.2.2.1 x)
/-- one Frame has changed -/
theorem FRS_1 {h h' : mj_H} {dq : Nat} {fl fn fm fb : Int} {fo fx fy : Value} (hl : 127 ≤ h.length) (hF : FRS h) (x : MF dq h h') (hk : ∀ i, i < 64 → i ≠ dq → h'[34 + i]? = h[34 + i]?) (hd : h'[34 + dq]? = some (cO 0 [ii fl, fo, fx, fy, ii fn, ii fm, ii fb])) : FRS h' := by
  obtain ⟨⟨ff, f1, f2⟩, f3⟩ := hF
  refine ⟨⟨ff, ?_, f2⟩, fun i hi => ?_⟩
  · rw [x.2 33 (by omega) (by unfold mcS scr; omega)]; exact f1
  · by_cases z : i = dq
    · rw [z]; exact ⟨fl, fn, fm, fb, fo, fx, fy, hd⟩
    · obtain ⟨fl, fn, fm, fb, fo, fx, fy, z2⟩ := f3 i hi
      exact ⟨fl, fn, fm, fb, fo, fx, fy, (hk i hi z).trans z2⟩
theorem actH_MF {h h' : mj_H} (hl : 127 ≤ h.length) (ha : actH h) (hk : ∀ y, 17 ≤ y → y ≤ 31 → h'[y]? = h[y]?) : actH h' := actH_k hk ha
/-- values that may stand on the stack -/
abbrev gv (A : Nat → Prop) (h : mj_H) (q : Nat) (v : VV) : Prop := cv A h 7 q v ∧ vsz 7 v ≤ 1000 ∧ vlv 7 v ≤ 5
theorem gv_MF {A : Nat → Prop} {dq q : Nat} {h h' : mj_H} {v : VV} (hA : okA A h) (x : MF dq h h') (hv : gv A h q v) : gv (newA A h h') h' q v := ⟨cv_MF hA x hv.1, hv.2⟩
def OG (A : Nat → Prop) (h : mj_H) : Option Nat → Option VV → Prop
  | none, none => True
  | some q, some v => gv A h q v
  | _, _ => False
theorem OG_MF {A : Nat → Prop} {dq : Nat} {b : Option Nat} {x : Option VV} {h h' : mj_H} (hA : okA A h) (m : MF dq h h') (hv : OG A h b x) : OG (newA A h h') h' b x := by
  cases b with
  | none => cases x with
    | none => trivial
    | some v => exact hv.elim
  | some q => cases x with
    | none => exact hv.elim
    | some v => exact gv_MF hA m hv
theorem vlow : ∀ (c d : Nat) (v : VV), vlv d v < c → vlv d v < d → vsz c v = vsz d v ∧ vlv c v = vlv d v := by
  intro c
  induction c with
  | zero => intro d v h _; exact absurd h (Nat.not_lt_zero _)
  | succ c ih =>
    intro d v hl hd
    cases d with
    | zero => exact absurd hd (Nat.not_lt_zero _)
    | succ d =>
      refine v_same (fun h7 k hk => ?_)
      exact ih d (vd v k) (vlv_ch h7 hl k hk) (vlv_ch h7 hd k hk)
theorem big_iff (v : VV) : (1000 < vsz 8 v ∨ 5 < vlv 8 v) ↔ (1000 < vsz 7 v ∨ 5 < vlv 7 v) := by
  by_cases a : vlv 8 v ≤ 5
  · have := vlow 7 8 v (by omega) (by omega)
    omega
  · by_cases b : vlv 7 v ≤ 5
    · have := vlow 8 7 v (by omega) (by omega)
      omega
    · omega
theorem small_eq {v : VV} (h : ¬ (1000 < vsz 8 v ∨ 5 < vlv 8 v)) : vsz 7 v = vsz 8 v ∧ vlv 7 v = vlv 8 v := vlow 7 8 v (by omega) (by omega)
/-- how it stands to the run's beginning: s items were made that no WORK was taken for yet -/
def BI (A0 : Nat → Prop) (h0 : mj_H) (W0 : Nat) (A : Nat → Prop) (h : mj_H) (W s : Nat) : Prop := A = newA A0 h0 h ∧ MF 0 h0 h ∧ 7 * h.length + 6 * W ≤ 7 * h0.length + 6 * W0 + 7 * s ∧ mj_sl h + 8 * W ≤ mj_sl h0 + 8 * W0 + 9 * s
/-- the end with an error -/
def MER (A0 : Nat → Prop) (h0 : mj_H) (W0 W e : Nat) (pl : Int) (h : mj_H) : Prop := MH (newA A0 h0 h) h ∧ MF 0 h0 h ∧ 7 * h.length + 6 * W ≤ 7 * h0.length + 6 * W0 + 1800 ∧ mj_sl h + 8 * W ≤ mj_sl h0 + 8 * W0 + 3100 ∧ (∃ (tp dp ca ou : Int) (nw vx vy dg : Value) (lv : Int) (lf rt : Value), h[16]? = some (mcC tp dp ca ou (W : Int) (e : Int) pl nw vx vy dg lv lf rt)) ∧ (∃ sf, h[32]? = some (cA 4 8192 sf)) ∧ 1 ≤ e ∧ e ≤ 100
/-- ready for the next Op -/
def MR (A0 : Nat → Prop) (h0 : mj_H) (W0 : Nat) (A : Nat → Prop) (h : mj_H) (t dq ca : Nat) (cp : Option Int) (W : Nat) (nw bx by_ : Option Nat) (sf : Nat → Option Nat) : Prop := MH A h ∧ BI A0 h0 W0 A h W 0 ∧ h[32]? = some (cA 4 8192 sf) ∧ (∃ (pl ou lv : Int) (lf rt : Value), h[16]? = some (mcC (t : Int) (dq : Int) (ca : Int) ou (W : Int) 0 pl (oV nw) (oV bx) (oV by_) .null lv lf rt) ∧ (0 < ca → cp = some ou)) ∧ (ca = 0 → cp = none)
/-- an act is pending, with k ADVERBS -/
def MD (A0 : Nat → Prop) (h0 : mj_H) (W0 : Nat) (A : Nat → Prop) (h : mj_H) (t dq ca : Nat) (cp : Option Int) (W s : Nat) (nw bx by_ : Option Nat) (sf : Nat → Option Nat) (p k : Nat) (l : Option Nat) (w : Nat) : Prop := MH A h ∧ BI A0 h0 W0 A h W s ∧ h[32]? = some (cA 4 8192 sf) ∧ (∃ (pl ou : Int), h[16]? = some (mcC (t : Int) (dq : Int) (ca : Int) ou (W : Int) 0 pl (oV nw) (oV bx) (oV by_) (.ref p) (k : Int) (oV l) (.ref w)) ∧ (0 < ca → cp = some ou)) ∧ (ca = 0 → cp = none)
/-- what is to follow an error, a value -/
def KE (xt : mj_X) (d fi : Nat) (P : Option Value → mj_H → Prop) (A0 : Nat → Prop) (h0 : mj_H) (W0 W e : Nat) (pl : Int) : Prop := ∀ (h' : mj_H) (st' : Nat), st' < 199999999 → MER A0 h0 W0 W e pl h' → HD xt d fi st' h' P
def KV (xt : mj_X) (d fi : Nat) (P : Option Value → mj_H → Prop) (A0 : Nat → Prop) (h0 : mj_H) (W0 : Nat) (A : Nat → Prop) (h : mj_H) (t dq ca : Nat) (cp : Option Int) (nw bx by_ : Option Nat) (sf : Nat → Option Nat) (st : Nat) (c : Int) (W W' : Nat) (v : VV) : Prop := ∀ (h' : mj_H) (st' : Nat) (sf' : Nat → Option Nat) (q : Nat), MF dq h h' → MR A0 h0 W0 (newA A h h') h' (t + 1) dq ca cp W' nw bx by_ sf' → (∀ k, k < t → sf' k = sf k) → sf' t = some q → gv (newA A h h') h' q v → (st' : Int) + 300 * (W' : Int) ≤ (st : Int) + 300 * (W : Int) + c → HD xt d fi st' h' P
def Kon (xt : mj_X) (d fi : Nat) (P : Option Value → mj_H → Prop) (A0 : Nat → Prop) (h0 : mj_H) (W0 : Nat) (A : Nat → Prop) (h : mj_H) (t dq ca : Nat) (cp : Option Int) (nw bx by_ : Option Nat) (sf : Nat → Option Nat) (st : Nat) (c : Int) (W : Nat) (r : DR) : Prop := match r.2 with
  | .inl x => KE xt d fi P A0 h0 W0 r.1 x.1 x.2
  | .inr v => KV xt d fi P A0 h0 W0 A h t dq ca cp nw bx by_ sf st c W r.1 v
/-- the place that is told -/
theorem dPl_if {cp : Option Int} {ca : Nat} {ou pl : Int} (h1 : 0 < ca → cp = some ou) (h2 : ca = 0 → cp = none) : (if (0 : Int) < (ca : Int) then ou else pl) = dPl cp pl := by
  by_cases z : ca = 0
  · rw [if_neg (by omega), h2 z]; rfl
  · rw [if_pos (by omega), h1 (by omega)]; rfl
section acts
variable {xt : mj_X} {d fi : Nat} {P : Option Value → mj_H → Prop} {A0 : Nat → Prop} {h0 : mj_H} {W0 : Nat} {A : Nat → Prop} {h h1 : mj_H} {t dq ca : Nat} {cp : Option Int} {nw bx by_ : Option Nat} {sf : Nat → Option Nat} {st W s a b cost : Nat} {ou pl pp lv : Int} {lf rt : Value} {o : Nat ⊕ VV}
/-- what an act of the Machine leaves is as the spec has it -/
theorem act_done (hM : MH A h) (hB : BI A0 h0 W0 A h W s) (hs : s ≤ 2) (hcp : 0 < ca → cp = some ou) (hc0 : ca = 0 → cp = none) (hst : st < 199999990) (hq : mAct A h 8 t sf (dq : Int) (ca : Int) ou pl pp (oV nw) (oV bx) (oV by_) lv lf rt (mOut 8 (W : Int) (cost : Int) o) (mA0 (W : Int) (cost : Int) a) (mA0 (W : Int) (cost : Int) b) h1) (hcost : 4 ≤ cost) (hN : ∀ n, o = .inl n → 1 ≤ n ∧ n ≤ 100) (hE : 7 * a ≤ 6 * cost + 1750 ∧ b ≤ 8 * cost + 3000) (hV : ∀ v, o = .inr v → vsz 7 v ≤ 1000 → vlv 7 v ≤ 5 → 7 * a + 7 * s ≤ 6 * (cost + vsz 7 v) ∧ b + 9 * s ≤ 8 * (cost + vsz 7 v)) (k : Kon xt d fi P A0 h0 W0 A h t dq ca cp nw bx by_ sf st (-5) W (dAc cp W cost o pp)) : HD xt d fi (st + 1) h1 P := by
  obtain ⟨hMA, hla, hsb, hr⟩ := hq
  obtain ⟨b1, b2, b3, b4⟩ := hB
  have hx : MF 64 h h1 := MF_MA hMA
  have hx0 : MF 0 h0 h1 := MF_tr b2 (MF_dn (by omega) hx)
  have hMH : MH (newA A h h1) h1 := MH_64 hM hx hMA.2.2
  have hAe : newA A h h1 = newA A0 h0 h1 := by rw [b1]; exact newA_tr b2.1 hx.1
  have hpl := dPl_if (pl := pp) hcp hc0
  have err : ∀ (W' e : Nat) (x : Int), 1 ≤ e ∧ e ≤ 100 → x = (e : Int) → W' ≤ W → 7 * h1.length + 6 * W' ≤ 7 * h0.length + 6 * W0 + 1800 → mj_sl h1 + 8 * W' ≤ mj_sl h0 + 8 * W0 + 3100 → h1[16]? = some (mcC (t : Int) (dq : Int) (ca : Int) ou (W' : Int) x (if (0 : Int) < (ca : Int) then ou else pp) (oV nw) (oV bx) (oV by_) .null lv lf rt) → h1[32]? = some (cA 4 8192 sf) → KE xt d fi P A0 h0 W0 W' e (dPl cp pp) → HD xt d fi (st + 1) h1 P := by
    intro W' e x he hxe hW' r1 r2 g16 g32 kk
    rw [hxe, hpl] at g16
    exact kk h1 (st + 1) (by omega) ⟨by rw [← hAe]; exact hMH, hx0, r1, r2, ⟨_, _, _, _, _, _, _, _, _, _, _, g16⟩, ⟨sf, g32⟩, he⟩
  by_cases hW : (W : Int) < (cost : Int)
  · rw [mA0_w hW] at hla hsb
    rw [mOut_w hW] at hr
    have e1 : dAc cp W cost o pp = dEr cp W 10 pp := if_pos (by omega)
    rw [e1] at k
    exact err W 10 10 (by omega) rfl (Nat.le_refl _) (by omega) (by omega) hr.1 hr.2 k
  · rw [mA0_n hW] at hla hsb
    have hWc : (W : Int) - (cost : Int) = ((W - cost : Nat) : Int) := by omega
    cases o with
    | inl n =>
      rw [mOut_f hW, hWc] at hr
      have e1 : dAc cp W cost (.inl n) pp = dEr cp (W - cost) n pp := if_neg (by omega)
      rw [e1] at k
      exact err (W - cost) n (n : Int) (hN n rfl) rfl (by omega) (by omega) (by omega) hr.1 hr.2 k
    | inr v =>
      have hbi := big_iff v
      have e1 : dAc cp W cost (.inr v) pp = dMk cp (W - cost) 0 v pp := if_neg (by omega)
      rw [e1] at k
      by_cases hbg : 1000 < vsz 8 v ∨ 5 < vlv 8 v
      · rw [mOut_b hW hbg, hWc] at hr
        have e2 : dMk cp (W - cost) 0 v pp = dEr cp (W - cost) 8 pp := if_pos (hbi.mp hbg)
        rw [e2] at k
        exact err (W - cost) 8 8 (by omega) rfl (by omega) (by omega) (by omega) hr.1 hr.2 k
      · have hse := small_eq hbg
        have hV := hV v rfl (by omega) (by omega)
        have e2 : dMk cp (W - cost) 0 v pp = dTk cp (W - cost) (0 + vS v) pp (fun W => (W, .inr v)) := if_neg (fun z => hbg (hbi.mpr z))
        rw [e2] at k
        by_cases hw9 : (W : Int) - (cost : Int) < (vsz 8 v : Int)
        · rw [mOut_2 hW hbg hw9, hWc] at hr
          have e3 : dTk cp (W - cost) (0 + vS v) pp (fun W => (W, .inr v)) = dEr cp (W - cost) 10 pp := if_pos (by show W - cost < 0 + vsz 7 v; omega)
          rw [e3] at k
          exact err (W - cost) 10 10 (by omega) rfl (by omega) (by omega) (by omega) hr.1 hr.2 k
        · rw [mOut_v hW hbg hw9] at hr
          have e3 : dTk cp (W - cost) (0 + vS v) pp (fun W => (W, .inr v)) = (W - cost - (0 + vS v), .inr v) := if_neg (by show ¬ W - cost < 0 + vsz 7 v; omega)
          rw [e3] at k
          obtain ⟨q, g16, g32, gq⟩ := hr
          have hWv : (W : Int) - (cost : Int) - (vsz 8 v : Int) = ((W - cost - (0 + vS v) : Nat) : Int) := by show _ = ((W - cost - (0 + vsz 7 v) : Nat) : Int); omega
          have hvS : vS v = vsz 7 v := rfl
          have g16 : h1[16]? = some (mcC ((t + 1 : Nat) : Int) (dq : Int) (ca : Int) ou ((W : Int) - (cost : Int) - (vsz 8 v : Int)) 0 pl (oV nw) (oV bx) (oV by_) .null lv lf rt) := g16
          rw [hWv] at g16
          have hlo := cv_low 7 8 q v gq (by omega)
          refine k h1 (st + 1) (va_up sf t (some q)) q (MF_MA hMA) ⟨hMH, ⟨hAe, hx0, by omega, by omega⟩, g32, ⟨pl, ou, lv, lf, rt, g16, hcp⟩, hc0⟩ (fun j hj => up_ne _ _ (by omega)) (up_eq _ _ _) ⟨hlo.1, by omega, by omega⟩ (by omega)
end acts
