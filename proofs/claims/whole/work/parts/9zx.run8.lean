/-! the Machine's run: what is read is done as the spec has it -/
/-- the Ops from op do f, then go on at b -/
def DO (xt : mj_X) (d fi : Nat) (P : Option Value → mj_H → Prop) (A0 : Nat → Prop) (h0 : mj_H) (W0 : Nat) (EN : (Nat → Prop) → mj_H → Prop) (dq ca : Nat) (cp : Option Int) (bx by_ : Option Nat) (A1 : Nat → Prop) (h1 : mj_H) (op : Nat) (b : Option Nat) (c : Int) (need : Nat) (f : Nat → DR) : Prop := ∀ (A : Nat → Prop) (h : mj_H) (t W st : Nat) (sf : Nat → Option Nat), kpA A1 h1 A h → EN A h → MR A0 h0 W0 A h t dq ca cp W (some op) bx by_ sf → TF h dq → t + need + 484 + 684 * (10 - ca) + 1 ≤ 8192 → (st : Int) + 300 * (W : Int) + c < 199000000 → Kon xt d fi P A0 h0 W0 A h t dq ca cp b bx by_ sf st c W (f W) → HD xt d fi st h P
/-- parts: n values, the first one on top -/
def KL (xt : mj_X) (d fi : Nat) (P : Option Value → mj_H → Prop) (A0 : Nat → Prop) (h0 : mj_H) (W0 : Nat) (A : Nat → Prop) (h : mj_H) (t n dq ca : Nat) (cp : Option Int) (nw bx by_ : Option Nat) (sf : Nat → Option Nat) (st : Nat) (c : Int) (W : Nat) (r : DR) : Prop := match r.2 with
  | .inl x => KE xt d fi P A0 h0 W0 r.1 x.1 x.2
  | .inr v => vm v = n → ∀ (h' : mj_H) (st' : Nat) (sf' : Nat → Option Nat), MF dq h h' → MR A0 h0 W0 (newA A h h') h' (t + n) dq ca cp r.1 nw bx by_ sf' → (∀ k, k < t → sf' k = sf k) → (∀ x, x < n → ∃ q, sf' (t + (n - 1 - x)) = some q ∧ gv (newA A h h') h' q (vd v x)) → (st' : Int) + 300 * (r.1 : Int) ≤ (st : Int) + 300 * (W : Int) + c → HD xt d fi st' h' P
def DL (xt : mj_X) (d fi : Nat) (P : Option Value → mj_H → Prop) (A0 : Nat → Prop) (h0 : mj_H) (W0 : Nat) (EN : (Nat → Prop) → mj_H → Prop) (dq ca : Nat) (cp : Option Int) (bx by_ : Option Nat) (A1 : Nat → Prop) (h1 : mj_H) (op : Nat) (b : Option Nat) (n : Nat) (c : Int) (need : Nat) (f : Nat → DR) : Prop := ∀ (A : Nat → Prop) (h : mj_H) (t W st : Nat) (sf : Nat → Option Nat), kpA A1 h1 A h → EN A h → MR A0 h0 W0 A h t dq ca cp W (some op) bx by_ sf → TF h dq → t + need + 484 + 684 * (10 - ca) + 1 ≤ 8192 → (st : Int) + 300 * (W : Int) + c < 199000000 → KL xt d fi P A0 h0 W0 A h t n dq ca cp b bx by_ sf st c W (f W) → HD xt d fi st h P
abbrev zB : Nat → DR := fun W => (W, .inl (1, 0))
/-- the numbers and texts of a line are small -/
theorem flat_gv {A : Nat → Prop} {h : mj_H} {p : Nat} {v : VV} (hv : cv A h 1 p v) (hk : vk v ≤ 5) : gv A h p v := by
  have hw := (cv_wf hv).1
  have hm := vw1_m hw
  have e : vsz 7 v ≤ 1000 ∧ vlv 7 v ≤ 5 := by
    show (if vk v ≤ 1 then 1 else if vk v = 6 then 1 + vm v * vc v else if vk v = 7 then _ else 1 + vm v) ≤ 1000 ∧ (if vk v ≤ 1 then 0 else if vk v = 6 then 2 else if vk v = 7 then _ else 1) ≤ 5
    by_cases z : vk v ≤ 1
    · rw [if_pos z, if_pos z]; omega
    · rw [if_neg z, if_neg z, if_neg (by omega), if_neg (by omega), if_neg (by omega), if_neg (by omega)]; omega
  exact ⟨cv_up (cv_up (cv_up (cv_up (cv_up (cv_up hv))))), e⟩
theorem nuV_k {T : Nat → Tok} {i n : Nat} : vk (nuV T i n) ≤ 5 := by
  unfold nuV
  split
  · show (0 : Nat) ≤ 5; omega
  · have := vform_le (m := n) (f := fun k => Int64.ofInt (tqD (T (i + k))))
    show vform n _ ≤ 5; omega
theorem txV_k {T : Nat → Tok} {i : Nat} : vk (txV T i) ≤ 5 := by
  unfold txV
  split
  · show (1 : Nat) ≤ 5; omega
  · show (3 : Nat) ≤ 5; omega
section ex
variable {xt : mj_X} {f1 : Nat → Value} {d fi : Nat} {P : Option Value → mj_H → Prop} {A0 : Nat → Prop} {h0 : mj_H} {W0 : Nat} {EN : (Nat → Prop) → mj_H → Prop} {dq ca : Nat} {cp : Option Int} {bx by_ : Option Nat} {A1 : Nat → Prop} {h1 : mj_H}
theorem DO_w {op need need' : Nat} {b : Option Nat} {c c' : Int} {f : Nat → DR} (hD : DO xt d fi P A0 h0 W0 EN dq ca cp bx by_ A1 h1 op b c need f) (hc : c ≤ c') (hn : need ≤ need') : DO xt d fi P A0 h0 W0 EN dq ca cp bx by_ A1 h1 op b c' need' f := by
  intro A h t W st sf k1 k2 k3 k4 k5 k6 k7
  refine hD A h t W st sf k1 k2 k3 k4 (by omega) (by omega) ?_
  rcases hr : f W with ⟨W', e | v⟩
  · rw [hr] at k7; exact k7
  · rw [hr] at k7
    intro h' st' sf' q y1 y2 y3 y4 y5 y6
    exact k7 h' st' sf' q y1 y2 y3 y4 y5 (by omega)
/-- one thing behind another -/
theorem DO_B {op need1 : Nat} {b m : Option Nat} {c1 c : Int} {f : Nat → DR} {K : Nat → VV → DR} {A : Nat → Prop} {h : mj_H} {t W st : Nat} {sf : Nat → Option Nat} (hEk : ENk EN) (hdq : dq ≤ 64) (hD : DO xt d fi P A0 h0 W0 EN dq ca cp bx by_ A1 h1 op m c1 need1 f) (k1 : kpA A1 h1 A h) (k2 : EN A h) (k3 : MR A0 h0 W0 A h t dq ca cp W (some op) bx by_ sf) (k4 : TF h dq) (k5 : t + need1 + 484 + 684 * (10 - ca) + 1 ≤ 8192) (k6 : (st : Int) + 300 * (W : Int) + c1 < 199000000) (hk : Kon xt d fi P A0 h0 W0 A h t dq ca cp b bx by_ sf st c W (dB (f W) K)) (go : ∀ (h2 : mj_H) (W2 st2 : Nat) (sf2 : Nat → Option Nat) (q : Nat) (v : VV), kpA A1 h1 (newA A h h2) h2 → EN (newA A h h2) h2 → MF dq h h2 → MR A0 h0 W0 (newA A h h2) h2 (t + 1) dq ca cp W2 m bx by_ sf2 → TF h2 dq → sf2 t = some q → gv (newA A h h2) h2 q v → (st2 : Int) + 300 * (W2 : Int) ≤ (st : Int) + 300 * (W : Int) + c1 → Kon xt d fi P A0 h0 W0 (newA A h h2) h2 t dq ca cp b bx by_ sf2 st2 (c - c1) W2 (K W2 v) → HD xt d fi st2 h2 P) : HD xt d fi st h P := by
  have hM := k3.1
  refine hD A h t W st sf k1 k2 k3 k4 k5 k6 ?_
  rcases hr : f W with ⟨W', e | v⟩
  · rw [hr] at hk; exact hk
  · have hk : Kon xt d fi P A0 h0 W0 A h t dq ca cp b bx by_ sf st c W (K W' v) := by rw [hr] at hk; exact hk
    intro h2 st2 sf2 q y1 y2 y3 y4 y5 y6
    have y6 : (st2 : Int) + 300 * (W' : Int) ≤ (st : Int) + 300 * (W : Int) + c1 := y6
    exact go h2 W' st2 sf2 q v (kpA_tr k1 (MF_kp hM.2.1 y1)) (hEk A h h2 hM (MF_dn (Nat.zero_le _) y1) k2) y1 y2 (TF_MF hM.1 hdq y1 k4) y4 y5 y6 (Kon_tr hk y1 y3 (by omega))
variable {T : Nat → Tok} {mk ln : Nat} {call : CF} {Nv : Int → Option VV} {x y : Option VV}
/-- what holds of one fuel -/
def SX (xt : mj_X) (d fi : Nat) (P : Option Value → mj_H → Prop) (A0 : Nat → Prop) (h0 : mj_H) (W0 : Nat) (EN : (Nat → Prop) → mj_H → Prop) (dq ca : Nat) (cp : Option Int) (bx by_ : Option Nat) (A1 : Nat → Prop) (h1 : mj_H) (T : Nat → Tok) (mk : Nat) (call : CF) (Nv : Int → Option VV) (x y : Option VV) (f : Nat) : Prop :=
  (∀ o i k op b, i ≤ mk → pR T f 0 o i = .inr k → cR A1 h1 T f 0 o i op b 0 0 → DO xt d fi P A0 h0 W0 EN dq ca cp bx by_ A1 h1 op b (4 * ((k : Int) - i)) (k - i) (eE call T Nv x y cp f 0 o i zB)) ∧
  (∀ o i k op b, i ≤ mk → pR T f 1 o i = .inr k → cR A1 h1 T f 1 o i op b 0 0 → DO xt d fi P A0 h0 W0 EN dq ca cp bx by_ A1 h1 op b (4 * ((k : Int) - i) - 1) (k - i) (eE call T Nv x y cp f 1 o i zB)) ∧
  (∀ o j k op b nop hk (cB : Int) (nB : Nat) Bq, j ≤ mk → pR T f 2 o j = .inr k → cR A1 h1 T f 2 o j op b nop hk → 0 ≤ cB → DO xt d fi P A0 h0 W0 EN dq ca cp bx by_ A1 h1 nop (some hk) cB nB Bq → DO xt d fi P A0 h0 W0 EN dq ca cp bx by_ A1 h1 op b (cB + 4 * ((k : Int) - j)) (nB + (k - j)) (eE call T Nv x y cp f 2 o j Bq)) ∧
  (∀ o i k op b, i ≤ mk → pR T f 3 o i = .inr k → cR A1 h1 T f 3 o i op b 0 0 → DO xt d fi P A0 h0 W0 EN dq ca cp bx by_ A1 h1 op b (4 * ((k : Int) - i) - 3) (k - i) (eE call T Nv x y cp f 3 o i zB)) ∧
  (∀ o i k op b, i ≤ mk → pR T f 4 o i = .inr k → cR A1 h1 T f 4 o i op b 0 0 → DL xt d fi P A0 h0 W0 EN dq ca cp bx by_ A1 h1 op b (plN T f o i) (4 * ((k : Int) - i) - 4) (k - i) (eE call T Nv x y cp f 4 o i zB))
theorem SX_0 : SX xt d fi P A0 h0 W0 EN dq ca cp bx by_ A1 h1 T mk call Nv x y 0 := by
  refine ⟨?_, ?_, ?_, ?_, ?_⟩
  · intro o i k op b _ h; cases h
  · intro o i k op b _ h; cases h
  · intro o j k op b nop hk cB nB Bq _ h; cases h
  · intro o i k op b _ h; cases h
  · intro o i k op b _ h; cases h
variable {f : Nat}
theorem SX_m0 (hd : 82 ≤ d) (hK : TOKS T mk ln) (hEk : ENk EN) (hdq : dq + 4 + 5 * (10 - ca) ≤ 64) (hAP : ∀ i, isDs T i → AP xt d fi P A0 h0 W0 EN ca cp bx by_ T i (avM T i) (dAp call T i cp (avM T i))) (ih : SX xt d fi P A0 h0 W0 EN dq ca cp bx by_ A1 h1 T mk call Nv x y f) : ∀ o i k op b, i ≤ mk → pR T (f + 1) 0 o i = .inr k → cR A1 h1 T (f + 1) 0 o i op b 0 0 → DO xt d fi P A0 h0 W0 EN dq ca cp bx by_ A1 h1 op b (4 * ((k : Int) - i)) (k - i) (eE call T Nv x y cp (f + 1) 0 o i zB) := by
  obtain ⟨i0, i1, -, -, -⟩ := ih
  intro o i k op b him hpR hcR
  rw [cR_m0] at hcR
  by_cases hds : isDs T i
  · rw [pR0_d hds] at hpR
    rw [if_pos hds] at hcR
    obtain ⟨a, ha, hc2⟩ := hcR
    have hsm := soN_mk hK (s := 6) (by omega) 4 (i + 1) (by have := TOKS_lt hK (i := i) (by omega); omega)
    have hkm := pR_mk hK f 0 o (dsE T i) k hsm hpR
    have hlt := hkm.2.2 (by decide)
    have hds2 : i + 1 ≤ dsE T i := by show i + 1 ≤ i + 1 + soN T 6 4 (i + 1); omega
    intro A h t W st sf k1 k2 k3 k4 k5 k6 hk
    have e1 : eE call T Nv x y cp (f + 1) 0 o i zB W = dB (eE call T Nv x y cp f 0 o (dsE T i) zB W) (fun W w => dAp call T i cp (avM T i) none w W) := if_pos hds
    rw [e1] at hk
    refine DO_B hEk (by omega) (i0 o (dsE T i) k op (some a) hsm hpR hc2) k1 k2 k3 k4 (by omega) (by omega) hk (fun h2 W2 st2 sf2 q v g1 g2 g3 g4 g5 g6 g7 g8 gk => ?_)
    refine run_with1 hd hEk g2 g4 g5 (fzC_k g1 ha) (hAP i hds) g6 g7 (by omega) hdq (by omega) ?_
    have gk := Kon_tr gk (MF_rf dq h2) (sf2 := sf2) (fun _ _ => rfl) (st2 := st2) (W2 := W2) (c2 := -4) (by omega)
    rwa [newA_same rfl] at gk
  · rw [if_neg hds] at hcR
    rcases hj : pR T f 1 o i with e | j
    · rw [hj] at hcR; exact hcR.elim
    · rw [hj] at hcR
      have hjm := pR_mk hK f 1 o i j him hj
      have hjl := hjm.2.2 (by decide)
      have hcR : (if isDs T j then ∃ t nop, fzC A1 h1 t (doC T j 4 (oV b)) ∧ cR A1 h1 T f 1 o i nop (some t) 0 0 ∧ cR A1 h1 T f 0 o (dsE T j) op (some nop) 0 0 else ∃ t, fzC A1 h1 t (opC 0 0 0 (Int64.ofInt 0) 0 0 0 .null (oV b) .null) ∧ cR A1 h1 T f 1 o i op (some t) 0 0) := hcR
      have e0 : ∀ W, eE call T Nv x y cp (f + 1) 0 o i zB W = (if isDs T j then dB (eE call T Nv x y cp f 0 o (dsE T j) zB W) (fun W w => dB (eE call T Nv x y cp f 1 o i zB W) (fun W l => dAp call T j cp (avM T j) (some l) w W)) else eE call T Nv x y cp f 1 o i zB W) := fun W => by
        refine (if_neg hds).trans ?_
        rw [hj]
      by_cases hds2 : isDs T j
      · rw [if_pos hds2] at hcR
        rw [pR0_a hds hj hds2] at hpR
        obtain ⟨tt, nop, ha, hc1, hc2⟩ := hcR
        have hsm := soN_mk hK (s := 6) (by omega) 4 (j + 1) (by have := TOKS_lt hK (i := j) (by omega); omega)
        have hkm := pR_mk hK f 0 o (dsE T j) k hsm hpR
        have hlt := hkm.2.2 (by decide)
        have hds3 : j + 1 ≤ dsE T j := by show j + 1 ≤ j + 1 + soN T 6 4 (j + 1); omega
        intro A h t W st sf k1 k2 k3 k4 k5 k6 hk
        rw [e0, if_pos hds2] at hk
        refine DO_B hEk (by omega) (i0 o (dsE T j) k op (some nop) hsm hpR hc2) k1 k2 k3 k4 (by omega) (by omega) hk (fun h2 W2 st2 sf2 q v g1 g2 g3 g4 g5 g6 g7 g8 gk => ?_)
        have hM2 := g4.1
        -- the noun, with the other value below it
        refine i1 o i j nop (some tt) him hj hc1 (newA A h h2) h2 (t + 1) W2 st2 sf2 g1 g2 g4 g5 (by omega) (by omega) ?_
        rcases hr : eE call T Nv x y cp f 1 o i zB W2 with ⟨W3, e | l⟩
        · rw [hr] at gk; exact gk
        · have gk : Kon xt d fi P A0 h0 W0 (newA A h h2) h2 t dq ca cp b bx by_ sf2 st2 (4 * ((k : Int) - i) - 4 * ((k : Int) - dsE T j)) W2 (dAp call T j cp (avM T j) (some l) v W3) := by rw [hr] at gk; exact gk
          intro h3 st3 sf3 q3 y1 y2 y3 y4 y5 y6
          have y6 : (st3 : Int) + 300 * (W3 : Int) ≤ (st2 : Int) + 300 * (W2 : Int) + (4 * ((j : Int) - i) - 1) := y6
          have x3 := y1
          refine run_with2 hd hEk (hEk _ h2 h3 hM2 (MF_dn (Nat.zero_le _) y1) g2) y2 (TF_MF hM2.1 (by omega) y1 g5) (fzC_k (kpA_tr g1 (MF_kp hM2.2.1 y1)) ha) (hAP j hds2) ((y3 t (by omega)).trans g6) y4 (gv_MF hM2.2.1 y1 g7) y5 (by omega) hdq (by omega) ?_
          exact Kon_tr gk y1 (fun z hz => y3 z (by omega)) (by omega)
      · rw [if_neg hds2] at hcR
        rw [pR0_n hds hj hds2] at hpR
        have hpR : j = k := by injection hpR
        subst hpR
        obtain ⟨tt, ha, hc1⟩ := hcR
        intro A h t W st sf k1 k2 k3 k4 k5 k6 hk
        rw [e0, if_neg hds2] at hk
        have hM := k3.1
        refine i1 o i j op (some tt) him hj hc1 A h t W st sf k1 k2 k3 k4 (by omega) (by omega) ?_
        rcases hr : eE call T Nv x y cp f 1 o i zB W with ⟨W3, e | l⟩
        · rw [hr] at hk; exact hk
        · rw [hr] at hk
          intro h3 st3 sf3 q3 y1 y2 y3 y4 y5 y6
          have y6 : (st3 : Int) + 300 * (W3 : Int) ≤ (st : Int) + 300 * (W : Int) + (4 * ((j : Int) - i) - 1) := y6
          refine run_pass hd y2 (TF_MF hM.1 (by omega) y1 k4) (by omega) (fzC_k (kpA_tr k1 (MF_kp hM.2.1 y1)) ha) y4 y5 (by omega) (c := 1) (by omega) ?_
          exact Kon_tr (r := (W3, .inr l)) hk y1 y3 (by omega)
theorem SX_m1 (hK : TOKS T mk ln) (ih : SX xt d fi P A0 h0 W0 EN dq ca cp bx by_ A1 h1 T mk call Nv x y f) : ∀ o i k op b, i ≤ mk → pR T (f + 1) 1 o i = .inr k → cR A1 h1 T (f + 1) 1 o i op b 0 0 → DO xt d fi P A0 h0 W0 EN dq ca cp bx by_ A1 h1 op b (4 * ((k : Int) - i) - 1) (k - i) (eE call T Nv x y cp (f + 1) 1 o i zB) := by
  obtain ⟨-, -, i2, i3, -⟩ := ih
  intro o i k op b him hpR hcR
  rw [cR_m1] at hcR
  rcases hj : pR T f 3 o i with e | j
  · rw [hj] at hcR; exact hcR.elim
  · rw [hj] at hcR
    rw [pR1_n hj] at hpR
    obtain ⟨nop, hk, hc3, hc2⟩ := hcR
    have hjm := pR_mk hK f 3 o i j him hj
    have hjl := hjm.2.2 (by decide)
    have hkm := pR_mk hK f 2 o j k hjm.2.1 hpR
    have e1 : eE call T Nv x y cp (f + 1) 1 o i zB = eE call T Nv x y cp f 2 o j (eE call T Nv x y cp f 3 o i zB) := by
      funext W
      show (match pR T f 3 o i with
        | .inl _ => ((W, .inl (1, 0)) : DR)
        | .inr j => eE call T Nv x y cp f 2 o j (fun W => eE call T Nv x y cp f 3 o i (fun W => (W, .inl (1, 0))) W) W) = _
      rw [hj]
    rw [e1]
    exact DO_w (i2 o j k op b nop hk (4 * ((j : Int) - i) - 3) (j - i) _ hjm.2.1 hpR hc2 (by omega) (i3 o i j nop (some hk) him hj hc3)) (by omega) (by omega)
theorem SX_m2 (hx1 : xt 1 = some (.long, 0, f1)) (hRT : RMT) (hd : 82 ≤ d) (hca : ca ≤ 10) (hW0 : W0 ≤ 500000) (hK : TOKS T mk ln) (hEk : ENk EN) (hdq : dq + 4 + 5 * (10 - ca) ≤ 64) (ih : SX xt d fi P A0 h0 W0 EN dq ca cp bx by_ A1 h1 T mk call Nv x y f) : ∀ o j k op b nop hk (cB : Int) (nB : Nat) Bq, j ≤ mk → pR T (f + 1) 2 o j = .inr k → cR A1 h1 T (f + 1) 2 o j op b nop hk → 0 ≤ cB → DO xt d fi P A0 h0 W0 EN dq ca cp bx by_ A1 h1 nop (some hk) cB nB Bq → DO xt d fi P A0 h0 W0 EN dq ca cp bx by_ A1 h1 op b (cB + 4 * ((k : Int) - j)) (nB + (k - j)) (eE call T Nv x y cp (f + 1) 2 o j Bq) := by
  obtain ⟨i0, -, i2, -, -⟩ := ih
  intro o j k op b nop hk cB nB Bq hjm hpR hcR hcB hB
  rw [cR_m2] at hcR
  by_cases hix : isIx T j
  · rw [if_pos hix] at hcR
    rcases hj : pR T f 0 (o + 1) (j + 2) with e | k'
    · rw [hj] at hcR; exact hcR.elim
    · rw [hj] at hcR
      obtain ⟨hk2, nop2, ha, hc0, hc2⟩ := hcR
      have ho : o < 12 := by
        by_cases z : o < 12
        · exact z
        · rw [pR2_o hix (by omega)] at hpR; cases hpR
      have h41 : isMk T k' 41 := by
        by_cases z : isMk T k' 41
        · exact z
        · rw [pR2_x hix ho hj z] at hpR; cases hpR
      rw [pR2_g hix ho hj h41] at hpR
      have hj1 := TOKS_lt hK (i := j) (by have := hix.1; omega)
      have hj2 := TOKS_lt hK (i := j + 1) (by have := hix.2.2.1; omega)
      have hkm := pR_mk hK f 0 (o + 1) (j + 2) k' (by omega) hj
      have hk3 := TOKS_lt hK (i := k') (by have := h41.1; omega)
      have hkm2 := pR_mk hK f 2 o (k' + 1) k (by omega) hpR
      have hlt := hkm.2.2 (by decide)
      have e1 : eE call T Nv x y cp (f + 1) 2 o j Bq = eE call T Nv x y cp f 2 o (k' + 1) (fun W => dB (eE call T Nv x y cp f 0 (o + 1) (j + 2) zB W) (fun W w => dB (Bq W) (fun W l => dTwo cp W 64 l w (tqP (T j) : Int)))) := by
        funext W
        refine (if_pos hix).trans ?_
        rw [hj]
      rw [e1]
      refine DO_w (i2 o (k' + 1) k op b nop2 hk2 (4 * ((k' : Int) - (j + 2 : Nat)) + cB + 1) (k' - (j + 2) + 1 + nB) _ (by omega) hpR hc2 (by omega) ?_) (by omega) (by omega)
      intro A h t W st sf k1 k2 k3 k4 k5 k6 hk9
      refine DO_B hEk (by omega) (i0 (o + 1) (j + 2) k' nop2 (some nop) (by omega) hj hc0) k1 k2 k3 k4 (by omega) (by omega) hk9 (fun h2 W2 st2 sf2 q v g1 g2 g3 g4 g5 g6 g7 g8 gk => ?_)
      have hM2 := g4.1
      refine hB (newA A h h2) h2 (t + 1) W2 st2 sf2 g1 g2 g4 g5 (by omega) (by omega) ?_
      rcases hr : Bq W2 with ⟨W3, e | l⟩
      · rw [hr] at gk; exact gk
      · have gk : Kon xt d fi P A0 h0 W0 (newA A h h2) h2 t dq ca cp (some hk2) bx by_ sf2 st2 (4 * ((k' : Int) - (j + 2 : Nat)) + cB + 1 - 4 * ((k' : Int) - (j + 2 : Nat))) W2 (dTwo cp W3 64 l v (tqP (T j) : Int)) := by rw [hr] at gk; exact gk
        intro h3 st3 sf3 q3 y1 y2 y3 y4 y5 y6
        have y6 : (st3 : Int) + 300 * (W3 : Int) ≤ (st2 : Int) + 300 * (W2 : Int) + cB := y6
        refine run_at2 hx1 hRT hd hca hW0 y2 (TF_MF hM2.1 (by omega) y1 g5) (b := some hk2) (fzC_k (kpA_tr g1 (MF_kp hM2.2.1 y1)) ha) ((y3 t (by omega)).trans g6) y4 (gv_MF hM2.2.1 y1 g7) y5 (by omega) (by omega) (by omega) ?_
        exact Kon_tr gk y1 (fun z hz => y3 z (by omega)) (by omega)
  · rw [if_neg hix] at hcR
    obtain ⟨rfl, rfl⟩ := hcR
    rw [pR2_n hix] at hpR
    have hpR : j = k := by injection hpR
    subst hpR
    have e1 : eE call T Nv x y cp (f + 1) 2 o j Bq = Bq := by
      funext W
      exact if_neg hix
    rw [e1]
    exact DO_w hB (by omega) (by omega)
end ex
