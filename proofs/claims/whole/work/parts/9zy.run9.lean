/-! the Machine's run: nouns -/
section ex2
variable {xt : mj_X} {f1 : Nat → Value} {d fi : Nat} {P : Option Value → mj_H → Prop} {A0 : Nat → Prop} {h0 : mj_H} {W0 : Nat} {EN : (Nat → Prop) → mj_H → Prop} {dq ca : Nat} {cp : Option Int} {bx by_ : Option Nat} {A1 : Nat → Prop} {h1 : mj_H} {T : Nat → Tok} {mk ln : Nat} {call : CF} {Nv : Int → Option VV} {x y : Option VV} {f : Nat}
theorem plN_le (hK : TOKS T mk ln) : ∀ f o i k, i ≤ mk → pR T f 4 o i = .inr k → 1 ≤ plN T f o i ∧ plN T f o i + 1 + i ≤ k := by
  intro f
  induction f with
  | zero => intro o i k _ h; cases h
  | succ f ih =>
    intro o i k him h
    rcases hj : pR T f 0 o i with e | j
    · have h : (match pR T f 0 o i with | .inl p => (.inl p : Nat ⊕ Nat) | .inr j => if isMk T j 59 then pR T f 4 o (j + 1) else if isMk T j 41 then .inr (j + 1) else .inl (tqP (T j))) = .inr k := h
      rw [hj] at h; cases h
    · have h : (match pR T f 0 o i with | .inl p => (.inl p : Nat ⊕ Nat) | .inr j => if isMk T j 59 then pR T f 4 o (j + 1) else if isMk T j 41 then .inr (j + 1) else .inl (tqP (T j))) = .inr k := h
      rw [hj] at h
      have h : (if isMk T j 59 then pR T f 4 o (j + 1) else if isMk T j 41 then .inr (j + 1) else .inl (tqP (T j))) = (.inr k : Nat ⊕ Nat) := h
      have hjm := pR_mk hK f 0 o i j him hj
      have hjl := hjm.2.2 (by decide)
      have e1 : plN T (f + 1) o i = (if isMk T j 59 then plN T f o (j + 1) + 1 else 1) := by
        show (match pR T f 0 o i with | .inl _ => 1 | .inr j => if isMk T j 59 then plN T f o (j + 1) + 1 else 1) = _
        rw [hj]
      rw [e1]
      by_cases z : isMk T j 59
      · rw [if_pos z] at h ⊢
        have := TOKS_lt hK (i := j) (by have := z.1; omega)
        have := ih o (j + 1) k (by omega) h
        omega
      · rw [if_neg z] at h ⊢
        by_cases w : isMk T j 41
        · rw [if_pos w] at h
          have h : j + 1 = k := by injection h
          omega
        · rw [if_neg w] at h; cases h
theorem SX_m4 (hK : TOKS T mk ln) (hEk : ENk EN) (hdq : dq + 4 + 5 * (10 - ca) ≤ 64) (ih : SX xt d fi P A0 h0 W0 EN dq ca cp bx by_ A1 h1 T mk call Nv x y f) : ∀ o i k op b, i ≤ mk → pR T (f + 1) 4 o i = .inr k → cR A1 h1 T (f + 1) 4 o i op b 0 0 → DL xt d fi P A0 h0 W0 EN dq ca cp bx by_ A1 h1 op b (plN T (f + 1) o i) (4 * ((k : Int) - i) - 4) (k - i) (eE call T Nv x y cp (f + 1) 4 o i zB) := by
  obtain ⟨i0, -, -, -, i4⟩ := ih
  intro o i k op b him hpR hcR
  rw [cR_m4] at hcR
  rcases hj : pR T f 0 o i with e | j
  · rw [hj] at hcR; exact hcR.elim
  · rw [hj] at hcR
    obtain ⟨op1, hc0, hc4⟩ := hcR
    have hpR : (match pR T f 0 o i with | .inl p => (.inl p : Nat ⊕ Nat) | .inr j => if isMk T j 59 then pR T f 4 o (j + 1) else if isMk T j 41 then .inr (j + 1) else .inl (tqP (T j))) = .inr k := hpR
    rw [hj] at hpR
    have hpR : (if isMk T j 59 then pR T f 4 o (j + 1) else if isMk T j 41 then .inr (j + 1) else .inl (tqP (T j))) = (.inr k : Nat ⊕ Nat) := hpR
    have hjm := pR_mk hK f 0 o i j him hj
    have hjl := hjm.2.2 (by decide)
    have e1 : plN T (f + 1) o i = (if isMk T j 59 then plN T f o (j + 1) + 1 else 1) := by
      show (match pR T f 0 o i with | .inl _ => 1 | .inr j => if isMk T j 59 then plN T f o (j + 1) + 1 else 1) = _
      rw [hj]
    have e0 : ∀ W, eE call T Nv x y cp (f + 1) 4 o i zB W = (if isMk T j 59 then dB (eE call T Nv x y cp f 4 o (j + 1) zB W) (fun W r => dB (eE call T Nv x y cp f 0 o i zB W) (fun W v => (W, .inr (vnest (vm r + 1) (fun k => if k = 0 then v else vd r (k - 1)))))) else dB (eE call T Nv x y cp f 0 o i zB W) (fun W v => (W, .inr (vnest 1 (fun _ => v))))) := fun W => by
      show (match pR T f 0 o i with | .inl _ => ((W, .inl (1, 0)) : DR) | .inr j => if isMk T j 59 then dB (eE call T Nv x y cp f 4 o (j + 1) zB W) (fun W r => dB (eE call T Nv x y cp f 0 o i zB W) (fun W v => (W, .inr (vnest (vm r + 1) (fun k => if k = 0 then v else vd r (k - 1)))))) else dB (eE call T Nv x y cp f 0 o i zB W) (fun W v => (W, .inr (vnest 1 (fun _ => v))))) = _
      rw [hj]
    by_cases h59 : isMk T j 59
    · rw [if_pos h59] at hpR hc4 e1
      have hj1 := TOKS_lt hK (i := j) (by have := h59.1; omega)
      have hpl := plN_le hK f o (j + 1) k (by omega) hpR
      obtain ⟨n, hn⟩ : ∃ n, n = plN T f o (j + 1) := ⟨_, rfl⟩
      rw [← hn] at hpl e1
      rw [e1]
      intro A h t W st sf k1 k2 k3 k4 k5 k6 hk
      rw [e0, if_pos h59] at hk
      have hM := k3.1
      refine i4 o (j + 1) k op (some op1) (by omega) hpR hc4 A h t W st sf k1 k2 k3 k4 (by omega) (by omega) ?_
      rw [← hn]
      rcases hr : eE call T Nv x y cp f 4 o (j + 1) zB W with ⟨W2, e | r⟩
      · rw [hr] at hk; exact hk
      · have hk : KL xt d fi P A0 h0 W0 A h t (n + 1) dq ca cp b bx by_ sf st (4 * ((k : Int) - i) - 4) W (dB (eE call T Nv x y cp f 0 o i zB W2) (fun W v => (W, .inr (vnest (vm r + 1) (fun k => if k = 0 then v else vd r (k - 1)))))) := by rw [hr] at hk; exact hk
        intro hvm h2 st2 sf2 y1 y2 y3 y4 y6
        have hvm : vm r = n := hvm
        have y6 : (st2 : Int) + 300 * (W2 : Int) ≤ (st : Int) + 300 * (W : Int) + (4 * ((k : Int) - (j + 1 : Nat)) - 4) := y6
        have hM2 := y2.1
        refine i0 o i j op1 b him hj hc0 (newA A h h2) h2 (t + n) W2 st2 sf2 (kpA_tr k1 (MF_kp hM.2.1 y1)) (hEk A h h2 hM (MF_dn (Nat.zero_le _) y1) k2) y2 (TF_MF hM.1 (by omega) y1 k4) (by omega) (by omega) ?_
        rcases hr2 : eE call T Nv x y cp f 0 o i zB W2 with ⟨W3, e | v⟩
        · rw [hr2] at hk; exact hk
        · have hk : KL xt d fi P A0 h0 W0 A h t (n + 1) dq ca cp b bx by_ sf st (4 * ((k : Int) - i) - 4) W (W3, .inr (vnest (vm r + 1) (fun k => if k = 0 then v else vd r (k - 1)))) := by rw [hr2] at hk; exact hk
          intro h3 st3 sf3 q z1 z2 z3 z4 z5 z6
          have z6 : (st3 : Int) + 300 * (W3 : Int) ≤ (st2 : Int) + 300 * (W2 : Int) + (4 * ((j : Int) - i)) := z6
          rw [newA_tr y1.1 z1.1] at z2 z5
          refine hk (by show vm r + 1 = n + 1; omega) h3 st3 sf3 (MF_tr y1 z1) z2 (fun a ha => (z3 a (by omega)).trans (y3 a ha)) (fun a ha => ?_) (by show (st3 : Int) + 300 * (W3 : Int) ≤ _; omega)
          show ∃ q, sf3 (t + (n + 1 - 1 - a)) = some q ∧ gv (newA A h h3) h3 q (if a = 0 then v else vd r (a - 1))
          by_cases w : a = 0
          · rw [if_pos w, w]; exact ⟨q, z4, z5⟩
          · rw [if_neg w]
            obtain ⟨q', w1, w2⟩ := y4 (a - 1) (by omega)
            refine ⟨q', ?_, ?_⟩
            · rw [show t + (n + 1 - 1 - a) = t + (n - 1 - (a - 1)) by omega]
              exact (z3 _ (by omega)).trans w1
            · have := gv_MF hM2.2.1 z1 w2
              rwa [newA_tr y1.1 z1.1] at this
    · rw [if_neg h59] at hpR hc4 e1
      rw [e1]
      subst hc4
      have h41 : isMk T j 41 := by
        by_cases z : isMk T j 41
        · exact z
        · rw [if_neg z] at hpR; cases hpR
      rw [if_pos h41] at hpR
      have hpR : j + 1 = k := by injection hpR
      intro A h t W st sf k1 k2 k3 k4 k5 k6 hk
      rw [e0, if_neg h59] at hk
      refine i0 o i j op b him hj hc0 A h t W st sf k1 k2 k3 k4 (by omega) (by omega) ?_
      rcases hr2 : eE call T Nv x y cp f 0 o i zB W with ⟨W3, e | v⟩
      · rw [hr2] at hk; exact hk
      · rw [hr2] at hk
        intro h3 st3 sf3 q z1 z2 z3 z4 z5 z6
        have z6 : (st3 : Int) + 300 * (W3 : Int) ≤ (st : Int) + 300 * (W : Int) + (4 * ((j : Int) - i)) := z6
        have hk : KL xt d fi P A0 h0 W0 A h t 1 dq ca cp b bx by_ sf st (4 * ((k : Int) - i) - 4) W (W3, .inr (vnest 1 (fun _ => v))) := hk
        exact hk rfl h3 st3 sf3 z1 z2 z3 (fun a ha => ⟨q, by rw [show t + (1 - 1 - a) = t by omega]; exact z4, z5⟩) (by show (st3 : Int) + 300 * (W3 : Int) ≤ _; omega)
/-- values on the stack put into one, the first on top -/
theorem run_gat5 (hx1 : xt 1 = some (.long, 0, f1)) (hd : 82 ≤ d) (hca : ca ≤ 10) (hW0 : W0 ≤ 500000) {A : Nat → Prop} {h : mj_H} {t n W st p : Nat} {b : Option Nat} {sf : Nat → Option Nat} {ch : Nat → VV} {pp ov oa om c : Int} {onm : Int64} {ovl oot : Value} (hR : MR A0 h0 W0 A h (t + n) dq ca cp W (some p) bx by_ sf) (hTF : TF h dq) (hdq : dq ≤ 64) (hp : fzC A h p (opC 5 pp ov onm oa om ((n : Nat) : Int) ovl (oV b) oot)) (hstk : ∀ x, x < n → ∃ q, sf (t + (n - 1 - x)) = some q ∧ gv A h q (ch x)) (hn : n ≤ 300) (htn : t + n < 8192) (hc : -400 ≤ c) (hst : (st : Int) + 300 * (W : Int) < 199000000) (hk : Kon xt d fi P A0 h0 W0 A h t dq ca cp b bx by_ sf st c W (dGa cp W n ch pp)) : HD xt d fi st h P := by
  obtain ⟨hM, hB, h32, ⟨pl, ou, lv, lf, rt, h16, hcp⟩, hc0⟩ := hR
  have hp127 := fz_127 hM hp
  have hWle := BI_le hB (by omega)
  have hMz := MH_s16 hM (mcC ((t + n : Nat) : Int) (dq : Int) (ca : Int) ou (W : Int) 0 pl (oV b) (oV bx) (oV by_) .null lv lf rt)
  have hBz := BI_s16 hB h16 (c := mcC ((t + n : Nat) : Int) (dq : Int) (ca : Int) ou (W : Int) 0 pl (oV b) (oV bx) (oV by_) .null lv lf rt) rfl
  have h16z : (h.set 16 (mcC ((t + n : Nat) : Int) (dq : Int) (ca : Int) ou (W : Int) 0 pl (oV b) (oV bx) (oV by_) .null lv lf rt))[16]? = some (mcC ((t + n : Nat) : Int) (dq : Int) (ca : Int) ou (W : Int) 0 pl (oV b) (oV bx) (oV by_) .null lv lf rt) := List.getElem?_set_self (hl_lt h16)
  have h32z : (h.set 16 (mcC ((t + n : Nat) : Int) (dq : Int) (ca : Int) ou (W : Int) 0 pl (oV b) (oV bx) (oV by_) .null lv lf rt))[32]? = some (cA 4 8192 sf) := by rw [List.getElem?_set_ne (by decide)]; exact h32
  have hpz := fz_s16 (z := mcC ((t + n : Nat) : Int) (dq : Int) (ca : Int) ou (W : Int) 0 pl (oV b) (oV bx) (oV by_) .null lv lf rt) hM hp
  have hkz := Kon_s16 (z := mcC ((t + n : Nat) : Int) (dq : Int) (ca : Int) ou (W : Int) 0 pl (oV b) (oV bx) (oV by_) .null lv lf rt) (st2 := st) (W2 := W) (c2 := c) hk (by omega)
  refine run_stp hM h16 hTF hdq (by omega) (m_st5 (t := t + n) (by omega) h16 hp.2.2 hp127 (m_gather (e := 6) (t := t) (n := n) (stp := -1) (ix := fun x => t + (n - 1 - x)) (ch := ch) hx1 (by omega) hMz.1 hMz.2.1 h16z h32z (fun x hx => by omega) (fun x hx => by omega) (fun x hx => by obtain ⟨q, q1, q2⟩ := hstk x hx; exact ⟨q, q1, cv_set (n16A hM) q2.1⟩) (fun x hx => by omega) hpz.2.2 hp127 (by omega) hMz.2.2.1 (by omega) (by omega) (by omega) (by omega) (fun _ => by omega) (by omega) (fun x hx => by obtain ⟨q, q1, q2⟩ := hstk x hx; exact q2.2.1))) (fun h1 hq => ?_)
  exact gat_done hMz hBz hcp hc0 (by omega) hn (by omega) hq hkz
/-- a name is looked up -/
def LKP (xt : mj_X) (d fi : Nat) (P : Option Value → mj_H → Prop) (A0 : Nat → Prop) (h0 : mj_H) (W0 : Nat) (EN : (Nat → Prop) → mj_H → Prop) (dq ca : Nat) (cp : Option Int) (bx by_ : Option Nat) (T : Nat → Tok) (Nv : Int → Option VV) (x y : Option VV) : Prop := ∀ (A : Nat → Prop) (h : mj_H) (t W st p i : Nat) (b : Option Nat) (sf : Nat → Option Nat) (c : Int), EN A h → MR A0 h0 W0 A h t dq ca cp W (some p) bx by_ sf → TF h dq → fzC A h p (opC 2 (tqP (T i) : Int) 0 (Int64.ofInt (tqD (T i))) 0 0 0 .null (oV b) .null) → t < 8192 → st < 199999990 → 1 ≤ c → Kon xt d fi P A0 h0 W0 A h t dq ca cp b bx by_ sf st c W (dNm Nv x y cp (tqD (T i)) (tqP (T i) : Int) W) → HD xt d fi st h P
theorem SX_m3 (hx1 : xt 1 = some (.long, 0, f1)) (hd : 82 ≤ d) (hca : ca ≤ 10) (hW0 : W0 ≤ 500000) (hK : TOKS T mk ln) (hEk : ENk EN) (hdq : dq + 4 + 5 * (10 - ca) ≤ 64) (hLK : LKP xt d fi P A0 h0 W0 EN dq ca cp bx by_ T Nv x y) (ih : SX xt d fi P A0 h0 W0 EN dq ca cp bx by_ A1 h1 T mk call Nv x y f) : ∀ o i k op b, i ≤ mk → pR T (f + 1) 3 o i = .inr k → cR A1 h1 T (f + 1) 3 o i op b 0 0 → DO xt d fi P A0 h0 W0 EN dq ca cp bx by_ A1 h1 op b (4 * ((k : Int) - i) - 3) (k - i) (eE call T Nv x y cp (f + 1) 3 o i zB) := by
  obtain ⟨i0, -, -, -, i4⟩ := ih
  intro o i k op b him hpR hcR
  have hkm := pR_mk hK (f + 1) 3 o i k him hpR
  have hkl := hkm.2.2 (by decide)
  rw [cR_m3] at hcR
  intro A h t W st sf k1 k2 k3 k4 k5 k6 hk
  by_cases h1' : tqS (T i) = 1
  · rw [if_pos h1'] at hcR
    obtain ⟨p, ha, hv⟩ := hcR
    have e1 : eE call T Nv x y cp (f + 1) 3 o i zB W = (W, .inr (nuV T i (soN T 1 201 i))) := if_pos h1'
    rw [e1] at hk
    exact run_push hd k3 k4 (by omega) (fzC_k k1 ha) (flat_gv (cv_keep k1 hv) nuV_k) (by omega) (by omega) (c := 4 * ((k : Int) - i) - 3) (by omega) hk
  · rw [if_neg h1'] at hcR
    by_cases h2' : tqS (T i) = 2
    · rw [if_pos h2'] at hcR
      obtain ⟨p, ha, hv⟩ := hcR
      have e1 : eE call T Nv x y cp (f + 1) 3 o i zB W = (W, .inr (txV T i)) := (if_neg h1').trans (if_pos h2')
      rw [e1] at hk
      exact run_push hd k3 k4 (by omega) (fzC_k k1 ha) (flat_gv (cv_keep k1 hv) txV_k) (by omega) (by omega) (c := 4 * ((k : Int) - i) - 3) (by omega) hk
    · rw [if_neg h2'] at hcR
      by_cases h3' : tqS (T i) = 3
      · rw [if_pos h3'] at hcR
        have e1 : eE call T Nv x y cp (f + 1) 3 o i zB W = dNm Nv x y cp (tqD (T i)) (tqP (T i) : Int) W := (if_neg h1').trans ((if_neg h2').trans (if_pos h3'))
        rw [e1] at hk
        exact hLK A h t W st op i b sf _ k2 k3 k4 (fzC_k k1 hcR) (by omega) (by omega) (by omega) hk
      · rw [if_neg h3'] at hcR
        by_cases h40 : isMk T i 40
        · rw [if_pos h40] at hcR
          have ho : o < 12 := by
            by_cases z : o < 12
            · exact z
            · rw [pR3_x (by omega) (fun q => z q.2) (fun q => z q.2)] at hpR; cases hpR
          have e9 : eE call T Nv x y cp (f + 1) 3 o i zB W = (if isMk T (i + 1) 41 then dGa cp W 0 (fun _ => vnest 0 (fun _ => v1 0 0)) (tqP (T i) : Int) else dB (eE call T Nv x y cp f 4 (o + 1) (i + 1) zB W) (fun W r => if plN T f (o + 1) (i + 1) = 1 then (W, .inr (vd r 0)) else dGa cp W (plN T f (o + 1) (i + 1)) (vd r) (tqP (T i) : Int))) := (if_neg h1').trans ((if_neg h2').trans ((if_neg h3').trans (if_pos h40)))
          rw [e9] at hk
          by_cases h41 : isMk T (i + 1) 41
          · rw [if_pos h41] at hcR hk
            exact run_gat5 (n := 0) (t := t) hx1 hd hca hW0 k3 k4 (by omega) (fzC_k k1 hcR) (fun z hz => absurd hz (Nat.not_lt_zero z)) (by omega) (by omega) (by omega) (by omega) hk
          · rw [if_neg h41] at hcR hk
            rw [pR3_l h40 ho h41] at hpR
            obtain ⟨g, ha, hc4⟩ := hcR
            have hi1 := TOKS_lt hK (i := i) (by have := h40.1; omega)
            have hpl := plN_le hK f (o + 1) (i + 1) k (by omega) hpR
            have hmk := hK.1
            refine i4 (o + 1) (i + 1) k op (some g) (by omega) hpR hc4 A h t W st sf k1 k2 k3 k4 (by omega) (by omega) ?_
            generalize plN T f (o + 1) (i + 1) = n at *
            have hM := k3.1
            rcases hr : eE call T Nv x y cp f 4 (o + 1) (i + 1) zB W with ⟨W2, e | r⟩
            · rw [hr] at hk; exact hk
            · have hk : Kon xt d fi P A0 h0 W0 A h t dq ca cp b bx by_ sf st (4 * ((k : Int) - i) - 3) W (if n = 1 then (W2, .inr (vd r 0)) else dGa cp W2 n (vd r) (tqP (T i) : Int)) := by rw [hr] at hk; exact hk
              intro hvm h2 st2 sf2 y1 y2 y3 y4 y6
              have y6 : (st2 : Int) + 300 * (W2 : Int) ≤ (st : Int) + 300 * (W : Int) + (4 * ((k : Int) - (i + 1 : Nat)) - 4) := y6
              have ha2 := fzC_k (kpA_tr k1 (MF_kp hM.2.1 y1)) ha
              have hTF2 := TF_MF hM.1 (by omega) y1 k4
              by_cases hn1 : n = 1
              · subst hn1
                rw [if_pos rfl] at ha2 hk
                obtain ⟨q, q1, q2⟩ := y4 0 (by omega)
                exact run_pass hd y2 hTF2 (by omega) ha2 q1 q2 (by omega) (c := 1) (by omega) (Kon_tr (r := (W2, .inr (vd r 0))) hk y1 y3 (by omega))
              · rw [if_neg hn1] at ha2 hk
                exact run_gat5 hx1 hd hca hW0 y2 hTF2 (by omega) ha2 y4 (by omega) (by omega) (c := 1) (by omega) (by omega) (Kon_tr hk y1 y3 (by omega))
        · rw [if_neg h40] at hcR
          have h91 : isMk T i 91 ∧ o < 12 := by
            by_cases z : isMk T i 91 ∧ o < 12
            · exact z
            · rw [pR3_x (by omega) (fun q => h40 q.1) z] at hpR; cases hpR
          have hi1 := TOKS_lt hK (i := i) (by have := h91.1.1; omega)
          rw [pR3_m h91.1 h91.2] at hpR
          rcases hj : pR T f 0 (o + 1) (i + 1) with e | j
          · rw [hj] at hcR; exact hcR.elim
          · rw [hj] at hcR hpR
            have hjm := pR_mk hK f 0 (o + 1) (i + 1) j (by omega) hj
            have hjl := hjm.2.2 (by decide)
            have hpR : (if isMk T j 59 then
                match pR T f 0 (o + 1) (j + 1) with
                | .inl p => .inl p
                | .inr k => if isMk T k 59 then
                    match pR T f 0 (o + 1) (k + 1) with
                    | .inl p => .inl p
                    | .inr l => if isMk T l 93 then .inr (l + 1) else .inl (tqP (T l))
                  else .inl (tqP (T k))
              else .inl (tqP (T j))) = (.inr k : Nat ⊕ Nat) := hpR
            have h59 : isMk T j 59 := by
              by_cases z : isMk T j 59
              · exact z
              · rw [if_neg z] at hpR; cases hpR
            rw [if_pos h59] at hpR
            have hj1 := TOKS_lt hK (i := j) (by have := h59.1; omega)
            have hcR : (match pR T f 0 (o + 1) (j + 1) with
              | .inl _ => False
              | .inr k => ∃ c y z, fzC A1 h1 c (opC 6 (tqP (T i) : Int) 0 (Int64.ofInt 0) 0 0 0 .null (.ref y) (.ref z)) ∧ cR A1 h1 T f 0 (o + 1) (i + 1) op (some c) 0 0 ∧ cR A1 h1 T f 0 (o + 1) (j + 1) y b 0 0 ∧ cR A1 h1 T f 0 (o + 1) (k + 1) z b 0 0) := hcR
            rcases hj2 : pR T f 0 (o + 1) (j + 1) with e | k'
            · rw [hj2] at hcR; exact hcR.elim
            · rw [hj2] at hcR hpR
              obtain ⟨c9, y9, z9, ha, hcA, hcB, hcC⟩ := hcR
              have hkm' := pR_mk hK f 0 (o + 1) (j + 1) k' (by omega) hj2
              have hkl' := hkm'.2.2 (by decide)
              have hpR : (if isMk T k' 59 then
                    match pR T f 0 (o + 1) (k' + 1) with
                    | .inl p => .inl p
                    | .inr l => if isMk T l 93 then .inr (l + 1) else .inl (tqP (T l))
                  else .inl (tqP (T k'))) = (.inr k : Nat ⊕ Nat) := hpR
              have h59' : isMk T k' 59 := by
                by_cases z : isMk T k' 59
                · exact z
                · rw [if_neg z] at hpR; cases hpR
              rw [if_pos h59'] at hpR
              have hk1 := TOKS_lt hK (i := k') (by have := h59'.1; omega)
              rcases hj3 : pR T f 0 (o + 1) (k' + 1) with e | l
              · rw [hj3] at hpR; cases hpR
              · rw [hj3] at hpR
                have hlm := pR_mk hK f 0 (o + 1) (k' + 1) l (by omega) hj3
                have hll := hlm.2.2 (by decide)
                have hpR : (if isMk T l 93 then .inr (l + 1) else .inl (tqP (T l))) = (.inr k : Nat ⊕ Nat) := hpR
                have h93 : isMk T l 93 := by
                  by_cases z : isMk T l 93
                  · exact z
                  · rw [if_neg z] at hpR; cases hpR
                rw [if_pos h93] at hpR
                have hpR : l + 1 = k := by injection hpR
                have e9 : eE call T Nv x y cp (f + 1) 3 o i zB W = dB (eE call T Nv x y cp f 0 (o + 1) (i + 1) zB W) (fun W c => if vk c ≠ 0 then dEr cp W 5 (tqP (T i) : Int) else if vn c 0 = 0 then eE call T Nv x y cp f 0 (o + 1) (k' + 1) zB W else eE call T Nv x y cp f 0 (o + 1) (j + 1) zB W) := by
                  refine (if_neg h1').trans ((if_neg h2').trans ((if_neg h3').trans ((if_neg h40).trans ?_)))
                  rw [hj]
                  show (match pR T f 0 (o + 1) (j + 1) with | .inl _ => ((W, .inl (1, 0)) : DR) | .inr k => dB (eE call T Nv x y cp f 0 (o + 1) (i + 1) zB W) (fun W c => if vk c ≠ 0 then dEr cp W 5 (tqP (T i) : Int) else if vn c 0 = 0 then eE call T Nv x y cp f 0 (o + 1) (k + 1) zB W else eE call T Nv x y cp f 0 (o + 1) (j + 1) zB W)) = _
                  rw [hj2]
                rw [e9] at hk
                refine DO_B hEk (by omega) (i0 (o + 1) (i + 1) j op (some c9) (by omega) hj hcA) k1 k2 k3 k4 (by omega) (by omega) hk (fun h2 W2 st2 sf2 q v g1 g2 g3 g4 g5 g6 g7 g8 gk => ?_)
                obtain ⟨hM2, hB2, h322, ⟨pl, ou, lv, lf, rt, h162, hcp⟩, hc0⟩ := g4
                have ha2 := fzC_k g1 ha
                have hp127 := fz_127 hM2 ha2
                have hn16 := n16A hM2
                obtain ⟨z0, hz0⟩ : ∃ z0, z0 = mcC ((t : Nat) : Int) (dq : Int) (ca : Int) ou (W2 : Int) 0 pl (oV (some y9)) (oV bx) (oV by_) .null lv lf rt := ⟨_, rfl⟩
                have hMz := MH_s16 hM2 z0
                have hBz := BI_s16 hB2 h162 (c := z0) (by rw [hz0]; rfl)
                have h16z : (h2.set 16 z0)[16]? = some z0 := List.getElem?_set_self (hl_lt h162)
                have h32z : (h2.set 16 z0)[32]? = some (cA 4 8192 sf2) := by rw [List.getElem?_set_ne (by decide)]; exact h322
                have hpz := fz_s16 (z := z0) hM2 ha2
                have hvz := gv_s16 (z := z0) hM2 g7
                have gkz := Kon_s16 (z := z0) (st2 := st2) (W2 := W2) (c2 := 4 * ((k : Int) - i) - 3 - 4 * ((j : Int) - (i + 1 : Nat))) gk (by omega)
                have g1z : kpA A1 h1 (newA A h h2) (h2.set 16 z0) := fun a e p q => ⟨(g1 a e p q).1, by rw [List.getElem?_set_ne (fun w => hn16 (by rw [w]; exact (g1 a e p q).1))]; exact (g1 a e p q).2⟩
                have g2z := EN_s16 (z := z0) hEk hM2 g2
                have g5z : TF (h2.set 16 z0) dq := TF_MF hM2.1 (by omega) (MF_set (Or.inr (Or.inl rfl))) g5
                by_cases hv0 : vk v ≠ 0
                · rw [if_pos hv0] at gkz
                  refine run_stp hM2 h162 g5 (by omega) (by omega) (m_st6 (t := t) (onx := some y9) (by omega) h162 ha2.2.2 hp127 h322 (by omega) g6 (by rw [← hz0]; exact m_chooseE (e := 6) (by omega) (by rw [h16z, hz0]) hvz.1 hpz.2.2 hp127 (by omega) hv0 rfl)) (fun h3 hq => ?_)
                  subst hq
                  exact err_s16 (e := 5) (by omega) hMz hBz (by omega) (Nat.le_refl _) (by omega) h16z h32z (by rw [hz0]; rfl) hcp hc0 gkz
                · rw [if_neg hv0] at gkz
                  have hv0 : vk v = 0 := by omega
                  have hcn : cnum v = vn v 0 := by unfold cnum; rw [if_pos (by omega)]
                  by_cases hz : vn v 0 = 0
                  · rw [if_pos hz] at gkz
                    refine run_stp hM2 h162 g5 (by omega) (by omega) (m_st6 (t := t) (onx := some y9) (by omega) h162 ha2.2.2 hp127 h322 (by omega) g6 (by rw [← hz0]; exact m_chooseZ (e := 6) (by omega) (by rw [h16z, hz0]) hvz.1 hpz.2.2 hp127 (by omega) ⟨hv0, by rw [hcn, hz]; rfl⟩ rfl)) (fun h3 hq => ?_)
                    subst hq
                    have hMy := MH_s16 hMz (mcC ((t : Nat) : Int) (dq : Int) (ca : Int) ou (W2 : Int) 0 pl (oV (some z9)) (oV bx) (oV by_) .null lv lf rt)
                    refine i0 (o + 1) (k' + 1) l z9 b (by omega) hj3 hcC (newA A h h2) _ t W2 (st2 + 1) sf2 (fun a e p q => ⟨(g1z a e p q).1, by rw [List.getElem?_set_ne (fun w => hn16 (by rw [w]; exact (g1z a e p q).1))]; exact (g1z a e p q).2⟩) (EN_s16 hEk hMz g2z) (MR_s16 (t' := t) (nw := none) (nw' := some z9) (pl := pl) (ou := ou) (lv := lv) (lf := lf) (rt := rt) hMz hBz h32z hcp hc0 h16z (by rw [hz0]; first | done | rfl)) (TF_MF hMz.1 (by omega) (MF_set (Or.inr (Or.inl rfl))) g5z) (by omega) (by omega) (Kon_s16 gkz (by omega))
                  · rw [if_neg hz] at gkz
                    refine run_stp hM2 h162 g5 (by omega) (by omega) (m_st6 (t := t) (onx := some y9) (by omega) h162 ha2.2.2 hp127 h322 (by omega) g6 (by rw [← hz0]; exact m_chooseN (e := 6) (by omega) (by rw [h16z, hz0]) hvz.1 hpz.2.2 hp127 (by omega) ⟨hv0, by rw [hcn]; exact hz⟩ rfl)) (fun h3 hq => ?_)
                    subst hq
                    have gky := Kon_tr gkz (MF_rf dq (h2.set 16 z0)) (sf2 := sf2) (fun _ _ => rfl) (st2 := st2 + 1) (W2 := W2) (c2 := 4 * ((k' : Int) - (j + 1 : Nat))) (by omega)
                    rw [newA_same rfl] at gky
                    exact i0 (o + 1) (j + 1) k' y9 b (by omega) hj2 hcB (newA A h h2) (h2.set 16 z0) t W2 (st2 + 1) sf2 g1z g2z ⟨hMz, hBz, h32z, ⟨pl, ou, lv, lf, rt, by rw [h16z, hz0], hcp⟩, hc0⟩ g5z (by omega) (by omega) gky
/-- all that is read -/
theorem SX_all (hx1 : xt 1 = some (.long, 0, f1)) (hRT : RMT) (hd : 82 ≤ d) (hca : ca ≤ 10) (hW0 : W0 ≤ 500000) (hK : TOKS T mk ln) (hEk : ENk EN) (hdq : dq + 4 + 5 * (10 - ca) ≤ 64) (hLK : LKP xt d fi P A0 h0 W0 EN dq ca cp bx by_ T Nv x y) (hAP : ∀ i, isDs T i → AP xt d fi P A0 h0 W0 EN ca cp bx by_ T i (avM T i) (dAp call T i cp (avM T i))) : ∀ f, SX xt d fi P A0 h0 W0 EN dq ca cp bx by_ A1 h1 T mk call Nv x y f := by
  intro f
  induction f with
  | zero => exact SX_0
  | succ f ih => exact ⟨SX_m0 hd hK hEk hdq hAP ih, SX_m1 hK ih, SX_m2 hx1 hRT hd hca hW0 hK hEk hdq ih, SX_m3 hx1 hd hca hW0 hK hEk hdq hLK ih, SX_m4 hK hEk hdq ih⟩
end ex2
