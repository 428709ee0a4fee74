/-! line: what both sides leave -/
section lines
variable {xt : mj_X} {f1 : Nat → Value} {d : Nat}
/-- a line that is read is run -/
theorem M_run {A : Nat → Prop} {h : mj_H} {W op a mk ln : Nat} {tp dp ca ou er pl lv : Int} {nw vx vy dg lf rt : Value} {sf0 : Nat → Option Nat} {Nv : Int → Option VV} {Fn : Int → Option (Nat → Tok)} {T : Nat → Tok} (hx1 : xt 1 = some (.long, 0, f1)) (hRO : RMO) (hRT : RMT) (hd : 90 ≤ d) (hM : MH A h) (h16 : h[16]? = some (mcC tp dp ca ou (W : Int) er pl nw vx vy dg lv lf rt)) (h32 : h[32]? = some (cA 4 8192 sf0)) (hE : NVF Nv Fn A h) (hW : W ≤ 500000) (hK : TOKS T mk ln) (hTK : TKO T) (hR : liR T = .inr a) (h2 : liS T ≠ 2) (hcL : cL A h T a op) : pgV xt d 70 [.ref 16, .ref op] h (RUN A h W (lnD Nv Fn T a W)) := by
  have hla := liR_in hK hR
  obtain ⟨⟨j, hj⟩, h3⟩ := hla.2.2.1 h2
  have hmk := hK.1
  unfold cL at hcL
  unfold lnD
  by_cases s3 : liS T = 3
  · rw [if_pos s3] at hcL ⊢
    obtain ⟨op1, am, am2, q1, q2, q3, q4⟩ := hcL
    obtain ⟨⟨j2, hj2⟩, hmk3⟩ := h3 s3
    exact m_runA hx1 hRO hRT rma (by omega) hM h16 h32 hE hW hK hTK.1 hmk3 hla.1 hj hj2 q4 q3 q1 q2
  · rw [if_neg s3] at hcL ⊢
    rw [if_neg h2] at hcL
    have hjm := pR_mk hK fuR 0 0 a j hla.1 hj
    have kz : kpA A h A (h.set 16 (rz W op ou pl lv lf rt)) := fun b e hb hg => ⟨hb, hl_ne (fun z => nA hM.2.1 (Or.inl (by decide)) (z ▸ hb)) hg⟩
    refine m_runD (EN := ENV Nv Fn none none none none) (c := 4 * ((j : Int) - (a : Int))) (need := j - a) (F := eE (eC Nv Fn 10) T Nv none none none fuR 0 0 a zB) (by omega) ENV_k hM h16 h32 ⟨hE, trivial, trivial⟩ (by omega) ⟨by omega, by omega⟩ hW (fun P => ?_)
    exact BDY_do (k := 10) (ca := 0) (dq := 0) (cp := none) (bx := none) (by_ := none) (x := none) (y := none) (i := a) (j := j) hx1 hRT (by omega) hW (by omega) (by omega) hK hTK.1 (CLL_all hx1 hRO hRT (by omega) hW 10) hla.1 hj (cR_k kz _ _ _ _ _ _ _ _ hcL)
/-- what the reference's state is behind a line -/
def REF (s : RS) (A : Nat → Prop) (h : mj_H) (ln W W' : Nat) (le lp lw : Int) (v : VV) (n m : Nat) (kf jf : Nat → Int64) (vf of : Nat → Option Nat) (t : RS) : Prop := LF s t ∧ s.1 50 ≤ t.1 50 ∧ (t.1 5 = le ∧ t.1 6 = lp ∧ t.1 7 = lw ∧ t.1 8 = (W' : Int)) ∧ t.1 3 + (W' : Int) ≤ s.1 3 + (ln : Int) + (W : Int) ∧ 10 * t.1 4 + 6 * (W' : Int) ≤ 10 * s.1 4 + 5 * (ln : Int) + 5 + 6 * (W : Int) ∧ t.1 50 ≤ s.1 50 + 2 * (ln : Int) ∧ (∃ pr : Nat, t.1 30 = (pr : Int) ∧ gr t pr v) ∧ NMT A h t 4 5 6 7 8 (t.1 23) (t.1 24) (t.2.2.2 19) (t.2.2.2 20) (t.2.2.1 21) (t.2.2.1 22) n m kf jf vf of
theorem L_fin {A A' : Nat → Prop} {h hF pre post : mj_H} {s : RS} {fd W W' qr' pm n' m' r ln b1 b2 : Nat} {le lp lw le' lp' lw' z0 : Int} {bf pf : Nat → Int} {v' : VV} {g vf' of' : Nat → Option Nat} {kf' jf' : Nat → Int64} (e : h = rS pre post s) (hm : pre.length = 102) (h127 : 127 ≤ h.length) (hIR : IRF s fd W le lp lw bf pm pf) (hK : KEP A h s g) (hRo : ROOM h s fd W (r + 1)) (hln : ln ≤ fd) (hW5 : W ≤ 500000) (hl : h.length ≤ hF.length) (r1 : 7 * hF.length + 6 * W' ≤ 7 * h.length + 6 * W + b1) (r2 : mj_sl hF + 8 * W' ≤ mj_sl h + 8 * W + b2) (hb1 : b1 ≤ 60 * fd + 1200) (hb2 : b2 ≤ 100 * fd + 2000) (hx : ∀ x, 102 ≤ x → x < h.length → hF[x]? = h[x]?) (hk : kpA A h A' hF) (hA : ∀ a, A' a → A a ∨ h.length ≤ a) (hC : ICL A' hF 0 W' qr' qr' le' lp' lw' bf pm pf g) (hv : gv A' hF qr' v') (hW : W' ≤ W) (hq : ∀ p q : mj_H, p.length = 102 → pgV xt d 202 [.ref 102, ii (ln : Int)] (rS p q s) (RL2 p q (fun t z => z = z0 ∧ REF s A' hF ln W W' le' lp' lw' v' n' m' kf' jf' vf' of' t))) : pgV xt d 202 [.ref 102, ii (ln : Int)] hF (fun y2 h2 => y2 = ii z0 ∧ INV r h2) ∧ ∃ c, hF[102]? = some (cO 12 c) := by
  obtain ⟨pre1, post1, p1, p2⟩ := rS_split (s := s) hm (show 127 ≤ hF.length by omega) (fun x q1 q2 => (hx x q1 (by omega)).trans (by rw [e]))
  refine ⟨?_, by rw [p2]; exact rS_102 p1⟩
  have hq2 := hq pre1 post1 p1
  rw [← p2] at hq2
  refine pgV_mono hq2 (fun y2 h2 q => ?_)
  obtain ⟨t, z, hy, hh, hz, ⟨l1, l2, ⟨l3, l4, l5, l6⟩, l7, l8, l9, ⟨pr, l10, l11⟩, l12⟩⟩ := q
  refine ⟨by rw [hy, hz], ?_⟩
  have f : ∀ x, x < 102 ∨ 127 ≤ x → h2[x]? = hF[x]? := fun x q => by rw [hh, p2]; exact rS_fr p1 q
  have hlen : h2.length = hF.length := by rw [hh, p2, rS_len, rS_len]
  have hsl : mj_sl h2 = mj_sl hF := by rw [hh, p2]; exact rS_sl
  have okF := hC.2.1.2.1
  have k2 : kpA A' hF A' h2 := fun a e' ha hg => ⟨ha, by rw [f a (by have := okF a ha; omega)]; exact hg⟩
  have hM2 : MH A' h2 := MH_e (by omega) (fun x q => f x (by omega)) k2 (okA_len okF (by omega)) hC.2.1
  obtain ⟨⟨i1, i2, i3, i4, i5⟩, i6, i7, ⟨i8, i9⟩, i10⟩ := hIR
  obtain ⟨o1, o2, ⟨o3, o4⟩, ⟨o5, o6⟩, ⟨o7, o8⟩⟩ := hRo
  have x3 := l1.1.2.1
  have x4 := l1.1.1
  refine ⟨A', pre1, post1, t, 0, W', qr', qr', pr, pr, pm, n', m', le', lp', lw', bf, pf, v', v', g, vf', of', kf', jf', ⟨hh, p1⟩, ⟨by omega, Or.inl rfl, by omega⟩, ICL_e hM2 (fun x q1 q2 => f x (by omega)) hC, ⟨⟨by rw [l1.2.2.2.2.2.2.1]; rfl, l6, l3, l4, l5⟩, by rw [l1.2.2.1 32 (by omega)]; exact i6, by rw [l1.2.2.1 32 (by omega)]; exact i7, ⟨l1.2.1.trans i8, i9⟩, by rw [l1.2.2.1 16 (by omega)]; exact i10⟩, ⟨⟨l10, l1.2.2.2.2.2.2.2.trans l10⟩, gv_k k2 hv, l11, (gv_k k2 hv).1, l11.2.1⟩, NMT_k l12 k2 (RXX_rf t) (NS_e l12.1 (f 4 (by omega)) (f 5 (by omega)) (f 6 (by omega)) (f 7 (by omega)) (f 8 (by omega))) rfl rfl rfl rfl rfl rfl, KEP_k (by omega) (fun x q1 q2 => (f x (by omega)).trans (hx x (by omega) q2)) (kpA_tr hk k2) hA (RXX_LF l1 l2) l1.2.2.2.1 (l1.2.2.1 26 (by omega)) (l1.2.2.1 27 (by omega)) (l1.2.2.1 28 (by omega)) (l1.2.2.1 29 (by omega)) hK, by omega, by omega, ⟨by omega, by omega⟩, ⟨by omega, by omega⟩, ⟨by omega, by omega⟩⟩
/-- the names as they were -/
theorem NMT_NF {A A' : Nat → Prop} {h h' : mj_H} {s t : RS} {n m : Nat} {kf jf : Nat → Int64} {vf of : Nat → Option Nat} (hN : NMT A h s 4 5 6 7 8 (s.1 23) (s.1 24) (s.2.2.2 19) (s.2.2.2 20) (s.2.2.1 21) (s.2.2.1 22) n m kf jf vf of) (hk : kpA A h A' h') (hx : RXX s t) (hF : NF s t) (hS : NS h' 4 5 6 7 8 n kf vf m jf of) : NMT A' h' t 4 5 6 7 8 (t.1 23) (t.1 24) (t.2.2.2 19) (t.2.2.2 20) (t.2.2.1 21) (t.2.2.1 22) n m kf jf vf of := NMT_k hN hk hx hS hF.1 hF.2.1 hF.2.2.2.2.1 hF.2.2.2.2.2 hF.2.2.1 hF.2.2.2.1
/-- an error leaves the reference so -/
theorem REF_e {A A' : Nat → Prop} {h h' : mj_H} {s t : RS} {n m ln W W' e : Nat} {pl : Int} {kf jf : Nat → Int64} {vf of : Nat → Option Nat} {pr : Nat} {v : VV} (hN : NMT A h s 4 5 6 7 8 (s.1 23) (s.1 24) (s.2.2.2 19) (s.2.2.2 20) (s.2.2.1 21) (s.2.2.1 22) n m kf jf vf of) (hk : kpA A h A' h') (hS : NS h' 4 5 6 7 8 n kf vf m jf of) (hp : s.1 30 = (pr : Int)) (hg : gr s pr v) (hW : W' ≤ W) (hL : LNE s t W W' e pl) : REF s A' h' ln W W' (e : Int) pl ((W : Int) - (W' : Int)) v n m kf jf vf of t := by
  obtain ⟨a1, a2, a3, a4, a5, a6, a7, a8, a9, a10⟩ := hL
  have rx := RXX_LF a1 (by omega)
  exact ⟨a1, by omega, ⟨a4, a5, by omega, a7⟩, by omega, by omega, by omega, ⟨pr, a3.trans hp, gr_x a1.1 hg⟩, NMT_NF hN hk rx a2 hS⟩
/-- a value is given to a name -/
theorem NMT_give {A A' : Nat → Prop} {h h' : mj_H} {s t : RS} {n m q p : Nat} {c r : Int} {kf jf : Nat → Int64} {vf of : Nat → Option Nat} {fs : List Value} (hN : NMT A h s 4 5 6 7 8 (s.1 23) (s.1 24) (s.2.2.2 19) (s.2.2.2 20) (s.2.2.1 21) (s.2.2.1 22) n m kf jf vf of) (hk : kpA A h A' h') (hx : RXX s t) (hc : nmR c r) (h40 : max n (fndK kf n (Int64.ofInt c) + 1) + delN m (fndK jf m (Int64.ofInt c)) ≤ 40) (hV : VP A' h' t q p) (hq : 2 ≤ q ∧ A' q ∧ h'[q]? = some (cO 10 fs)) (hS : NS h' 4 5 6 7 8 (max n (fndK kf n (Int64.ofInt c) + 1)) (va_up kf (fndK kf n (Int64.ofInt c)) (Int64.ofInt c)) (va_up vf (fndK kf n (Int64.ofInt c)) (some q)) (delN m (fndK jf m (Int64.ofInt c))) (delF jf m (fndK jf m (Int64.ofInt c))) (delF of m (fndK jf m (Int64.ofInt c)))) (e1 : t.1 23 = ((max n (fndK (s.2.2.2 19) n (Int64.ofInt r) + 1) : Nat) : Int)) (e2 : t.1 24 = ((delN m (fndK (s.2.2.2 20) m (Int64.ofInt r)) : Nat) : Int)) (e3 : t.2.2.1 21 = va_up (s.2.2.1 21) (fndK (s.2.2.2 19) n (Int64.ofInt r)) (p : Int)) (e4 : t.2.2.1 22 = delF (s.2.2.1 22) m (fndK (s.2.2.2 20) m (Int64.ofInt r))) (e5 : t.2.2.2 19 = va_up (s.2.2.2 19) (fndK (s.2.2.2 19) n (Int64.ofInt r)) (Int64.ofInt r)) (e6 : t.2.2.2 20 = delF (s.2.2.2 20) m (fndK (s.2.2.2 20) m (Int64.ofInt r))) : NMT A' h' t 4 5 6 7 8 (t.1 23) (t.1 24) (t.2.2.2 19) (t.2.2.2 20) (t.2.2.1 21) (t.2.2.1 22) (max n (fndK kf n (Int64.ofInt c) + 1)) (delN m (fndK jf m (Int64.ofInt c))) (va_up kf (fndK kf n (Int64.ofInt c)) (Int64.ofInt c)) (delF jf m (fndK jf m (Int64.ofInt c))) (va_up vf (fndK kf n (Int64.ofInt c)) (some q)) (delF of m (fndK jf m (Int64.ofInt c))) := by
  obtain ⟨-, ⟨b1, b2, b3⟩, c1, c2, c3, c4⟩ := hN
  have i1 := TBL_fnd c1 hc
  have i2 := TBL_fnd c2 hc
  rw [e1, e2, e3, e4, e5, e6, ← i1, ← i2]
  exact ⟨hS, ⟨h40, rfl, rfl⟩, TBL_give (TBL_mono c1 (fun q p z => VP_k hk hx z)) hc (fstN_le _ _) hV, TBL_del (TBL_mono c2 (fun q p z => FP_k hk hx z)) _, ENA_up (ENA_k hk c3) hq.1 hq.2.1 hq.2.2, ENA_del (ENA_k hk c4) (by omega)⟩
theorem NMT_tell {A A' : Nat → Prop} {h h' : mj_H} {s t : RS} {n m q p : Nat} {c r : Int} {kf jf : Nat → Int64} {vf of : Nat → Option Nat} {fs : List Value} (hN : NMT A h s 4 5 6 7 8 (s.1 23) (s.1 24) (s.2.2.2 19) (s.2.2.2 20) (s.2.2.1 21) (s.2.2.1 22) n m kf jf vf of) (hk : kpA A h A' h') (hx : RXX s t) (hc : nmR c r) (h40 : delN n (fndK kf n (Int64.ofInt c)) + max m (fndK jf m (Int64.ofInt c) + 1) ≤ 40) (hV : FP A' h' t q p) (hq : 2 ≤ q ∧ A' q ∧ h'[q]? = some (cO 4 fs)) (hS : NS h' 4 5 6 7 8 (delN n (fndK kf n (Int64.ofInt c))) (delF kf n (fndK kf n (Int64.ofInt c))) (delF vf n (fndK kf n (Int64.ofInt c))) (max m (fndK jf m (Int64.ofInt c) + 1)) (va_up jf (fndK jf m (Int64.ofInt c)) (Int64.ofInt c)) (va_up of (fndK jf m (Int64.ofInt c)) (some q))) (e1 : t.1 24 = ((max m (fndK (s.2.2.2 20) m (Int64.ofInt r) + 1) : Nat) : Int)) (e2 : t.1 23 = ((delN n (fndK (s.2.2.2 19) n (Int64.ofInt r)) : Nat) : Int)) (e3 : t.2.2.1 22 = va_up (s.2.2.1 22) (fndK (s.2.2.2 20) m (Int64.ofInt r)) (p : Int)) (e4 : t.2.2.1 21 = delF (s.2.2.1 21) n (fndK (s.2.2.2 19) n (Int64.ofInt r))) (e5 : t.2.2.2 20 = va_up (s.2.2.2 20) (fndK (s.2.2.2 20) m (Int64.ofInt r)) (Int64.ofInt r)) (e6 : t.2.2.2 19 = delF (s.2.2.2 19) n (fndK (s.2.2.2 19) n (Int64.ofInt r))) : NMT A' h' t 4 5 6 7 8 (t.1 23) (t.1 24) (t.2.2.2 19) (t.2.2.2 20) (t.2.2.1 21) (t.2.2.1 22) (delN n (fndK kf n (Int64.ofInt c))) (max m (fndK jf m (Int64.ofInt c) + 1)) (delF kf n (fndK kf n (Int64.ofInt c))) (va_up jf (fndK jf m (Int64.ofInt c)) (Int64.ofInt c)) (delF vf n (fndK kf n (Int64.ofInt c))) (va_up of (fndK jf m (Int64.ofInt c)) (some q)) := by
  obtain ⟨-, ⟨b1, b2, b3⟩, c1, c2, c3, c4⟩ := hN
  have i1 := TBL_fnd c1 hc
  have i2 := TBL_fnd c2 hc
  rw [e1, e2, e3, e4, e5, e6, ← i1, ← i2]
  exact ⟨hS, ⟨h40, rfl, rfl⟩, TBL_del (TBL_mono c1 (fun q p z => VP_k hk hx z)) _, TBL_give (TBL_mono c2 (fun q p z => FP_k hk hx z)) hc (fstN_le _ _) hV, ENA_del (ENA_k hk c3) (by omega), ENA_up (ENA_k hk c4) hq.1 hq.2.1 hq.2.2⟩
end lines
