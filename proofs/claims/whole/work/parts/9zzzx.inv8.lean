/-! line -/
theorem rdC_inj {a w l a' w' l' : Int} {n n' : Int64} {s t s' t' : Value} (h : some (rdC a w l n s t) = some (rdC a' w' l' n' s' t')) : ii w = ii w' ∧ s = s' := by
  have h1 := congrArg (fun z : Option mj_E => match z with
    | some (.inr (_, _ :: _ :: x :: _ :: _ :: y :: _)) => some (x, y)
    | _ => none) h
  have h2 : some (ii w, s) = some (ii w', s') := h1
  injection h2 with h3
  injection h3 with h4 h5
  exact ⟨h4, h5⟩
theorem mcC_inj {tp dp ca ou wk er pl lv tp' dp' ca' ou' wk' er' pl' lv' : Int} {nw vx vy dg lf rt nw' vx' vy' dg' lf' rt' : Value} (h : some (mcC tp dp ca ou wk er pl nw vx vy dg lv lf rt) = some (mcC tp' dp' ca' ou' wk' er' pl' nw' vx' vy' dg' lv' lf' rt')) : ii wk = ii wk' ∧ ii er = ii er' ∧ ii pl = ii pl' := by
  have h1 := congrArg (fun z : Option mj_E => match z with
    | some (.inr (_, _ :: _ :: _ :: _ :: _ :: _ :: _ :: _ :: _ :: x :: y :: w :: _)) => some (x, y, w)
    | _ => none) h
  have h2 : some (ii wk, ii er, ii pl) = some (ii wk', ii er', ii pl') := h1
  injection h2 with h3
  injection h3 with h4 h5
  injection h5 with h5 h6
  exact ⟨h4, h5, h6⟩
theorem acC_inj {fd le lp lw fd' le' lp' lw' : Int} {qr qp qr' qp' : Nat} (h : some (acC fd qr qp le lp lw) = some (acC fd' qr' qp' le' lp' lw')) : qr = qr' ∧ ii le = ii le' ∧ ii lp = ii lp' := by
  have h1 := congrArg (fun z : Option mj_E => match z with
    | some (.inr (_, _ :: _ :: _ :: _ :: _ :: _ :: _ :: _ :: x :: _ :: y :: w :: _)) => some (x, y, w)
    | _ => none) h
  have h2 : some (Value.ref qr, ii le, ii lp) = some (Value.ref qr', ii le', ii lp') := h1
  injection h2 with h3
  injection h3 with h4 h5
  injection h4 with h4
  injection h5 with h5 h6
  exact ⟨h4, h5, h6⟩
theorem ii_sub {a b c : Int} (h : ii a = ii b) : ii (c - a) = ii (c - b) := by
  have h1 : Int32.ofInt a = Int32.ofInt b := by injection h
  show Value.int (Int32.ofInt (c - a)) = Value.int (Int32.ofInt (c - b))
  rw [Int32.ofInt_sub, Int32.ofInt_sub, h1]
theorem ii_neg {a b : Int} (h : ii a = ii b) : ii (-a) = ii (-b) := by
  have h1 : Int32.ofInt a = Int32.ofInt b := by injection h
  show Value.int (Int32.ofInt (-a)) = Value.int (Int32.ofInt (-b))
  rw [Int32.ofInt_neg, Int32.ofInt_neg, h1]
theorem acC_cg {fd le lp lw le' lp' lw' : Int} {qr qp : Nat} (h1 : ii le = ii le') (h2 : ii lp = ii lp') (h3 : ii lw = ii lw') : acC fd qr qp le lp lw = acC fd qr qp le' lp' lw' := by
  show cO 11 [.ref 3, ii fd, .ref 4, .ref 9, .ref 13, .ref 15, .ref 16, .ref 98, .ref qr, .ref qp, ii le, ii lp, ii lw] = cO 11 [.ref 3, ii fd, .ref 4, .ref 9, .ref 13, .ref 15, .ref 16, .ref 98, .ref qr, .ref qp, ii le', ii lp', ii lw']
  rw [h1, h2, h3]
theorem lnD_nm {Nv : Int → Option VV} {Fn : Int → Option (Nat → Tok)} {T : Nat → Tok} {a W W' : Nat} {v : VV} (h3 : liS T = 3) (ho : tqD (T 0) ≠ 24 ∧ tqD (T 0) ≠ 25) (h : lnD Nv Fn T a W = (W', .inr v)) : Nv (tqD (T 0)) ≠ none := fun z2 => by
  unfold lnD at h
  rw [if_pos h3] at h
  unfold dAL at h
  rcases hs1 : eE (eC Nv Fn 10) T Nv none none none fuR 0 0 a zB W with ⟨W1, ⟨e, pl⟩ | u⟩
  · rw [dBe hs1] at h; injection h with _ y; cases y
  rw [dBv hs1] at h
  rcases hs3 : eE (eC Nv Fn 10) T Nv none none none fuR 0 1 3 zB W1 with ⟨W3, ⟨e, pl⟩ | w⟩
  · rw [dBe hs3] at h; injection h with _ y; cases y
  rw [dBv hs3, dNm_o, if_neg ho.1, if_neg ho.2, z2] at h
  injection h with _ y; cases y
theorem NVF_t {Nv : Int → Option VV} {Fn : Int → Option (Nat → Tok)} {A A' : Nat → Prop} {h h' : mj_H} (hE : NVF Nv Fn A h) (hk : kpA A h A' h') (hx : ∀ x, 4 ≤ x → x ≤ 8 → h'[x]? = h[x]?) : NVF Nv Fn A' h' := by
  obtain ⟨n, m, kf, jf, vf, of, ⟨a1, a2, a3, a4, a5, a6, a7, a8, a9⟩, b, c⟩ := hE
  refine ⟨n, m, kf, jf, vf, of, ⟨by rw [hx 4 (by omega) (by omega)]; exact a1, by rw [hx 5 (by omega) (by omega)]; exact a2, by rw [hx 6 (by omega) (by omega)]; exact a3, by rw [hx 7 (by omega) (by omega)]; exact a4, by rw [hx 8 (by omega) (by omega)]; exact a5, a6, a7, a8, a9⟩, fun k => ?_, fun k => ?_⟩
  · rcases b k with z | ⟨z, q, v, e1, e2, e3⟩
    · exact Or.inl z
    · exact Or.inr ⟨z, q, v, e1, e2, gv_k hk e3⟩
  · rcases c k with z | ⟨z, q, v, e1, e2, e3⟩
    · exact Or.inl z
    · exact Or.inr ⟨z, q, v, e1, e2, BDY_k hk e3⟩
theorem ICL_L {A A' : Nat → Prop} {h hF : mj_H} {fd W W' qr qp qr' pm : Nat} {le lp lw le' lp' lw' : Int} {bf pf : Nat → Int} {g : Nat → Option Nat} (hC : ICL A h fd W qr qp le lp lw bf pm pf g) (hM : MH A' hF) (c2 : hF[2]? = some (acC 0 qr' qr' le' lp' lw')) (hTK : ∃ (mk ln : Nat) (le_ : Int) (gd : Bool) (sf pf' : Nat → Int) (df : Nat → Int64), TK hF mk le_ ln gd sf pf' bf df ∧ ∀ j, 0 ≤ sf j ∧ sf j ≤ 7) (h13 : ∃ (at_ wr ls : Int) (nm : Int64) (st tl : Value), hF[13]? = some (rdC at_ wr ls nm st tl)) (h16 : ∃ (tp dp ca ou er pl lv : Int) (nw vx vy dg lf rt : Value), hF[16]? = some (mcC tp dp ca ou (W' : Int) er pl nw vx vy dg lv lf rt)) (h32 : ∃ sf, hF[32]? = some (cA 4 8192 sf)) (hx : ∀ x, x = 15 ∨ (98 ≤ x ∧ x ≤ 100) → hF[x]? = h[x]?) : ICL A' hF 0 W' qr' qr' le' lp' lw' bf pm pf g := by
  obtain ⟨-, -, -, -, -, -, ⟨c7, c8, c9⟩, c10⟩ := hC
  exact ⟨c2, hM, hTK, h13, h16, h32, ⟨by rw [hx 98 (by omega)]; exact c7, by rw [hx 99 (by omega)]; exact c8, by rw [hx 100 (by omega)]; exact c9⟩, by rw [hx 15 (by omega)]; exact c10⟩
theorem TK_e {h h' : mj_H} {mk ln : Nat} {le_ : Int} {gd : Bool} {sf pf bf : Nat → Int} {df : Nat → Int64} (hT : TK h mk le_ ln gd sf pf bf df) (h9 : h'[9]? = h[9]?) (h10 : h'[10]? = h[10]?) (h11 : h'[11]? = h[11]?) (h12 : h'[12]? = h[12]?) (h3 : h'[3]? = h[3]?) : TK h' mk le_ ln gd sf pf bf df := by
  unfold TK at hT ⊢
  rw [h9, h10, h11, h12, h3]
  exact hT
theorem gv_cell {A : Nat → Prop} {h : mj_H} {q : Nat} {v : VV} (hg : gv A h q v) : 2 ≤ q ∧ A q ∧ ∃ fs, h[q]? = some (cO 10 fs) := by
  obtain ⟨-, ⟨a1, a2⟩, -, -, row, fr, vals, a3, -⟩ := hg.1
  exact ⟨a1, a2, _, a3⟩
section lines
variable {xt : mj_X} {f1 : Nat → Value} {d r : Nat} {h : mj_H}
set_option maxRecDepth 20000 in
set_option maxHeartbeats 4000000 in
theorem S_line {x : Int} (hx1 : xt 1 = some (.long, 0, f1)) (hRO : RMO) (hRT : RMT) (hRS : RSO) (hRT2 : RST2) (hd : 1500 ≤ d) (hx : -2147483648 ≤ x ∧ x ≤ 2147483647) (hI : INV (r + 1) h) : ∃ z : Int, STEP xt d 15 202 [ii x] r h (ii z) := by
  have hI0 := hI
  obtain ⟨A, pre, post, s, fd, W, qr, qp, pr, pp, pm, n, m, le, lp, lw, bf, pf, v, w, g, vf, of, kf, jf, ⟨e, hm⟩, ⟨q1, q2, q3⟩, hC, hIR, hV, hN, hK, hRo⟩ := hI
  have hC0 := hC
  have hIR0 := hIR
  have hRo0 := hRo
  obtain ⟨c1, hM, ⟨mk0, ln0, le0, gd0, sf0, pf0, df0, hTK0, hsf0⟩, ⟨at0, wr0, ls0, nm0, st0, tl0, c13⟩, ⟨tp, dp, ca, ou, er, pl, lv, nw, vx, vy, dg, lf, rt, c16⟩, ⟨sk, c32⟩, ⟨c98, c99, c100⟩, c15⟩ := hC
  obtain ⟨⟨i33, i8, i5, i6, i7⟩, i32, ibf, ⟨i18, ipm⟩, ipf⟩ := hIR
  obtain ⟨ro1, ro2, ⟨ro3, ro4⟩, ⟨ro5, ro6⟩, ⟨ro7, ro8⟩⟩ := hRo
  have m127 := hM.1
  by_cases hno : x < 0 ∨ (fd : Int) < x
  · refine ⟨-100, S_pureV hI0 (cl_no (by omega) c1 hx (by omega) hno ⟨rfl, rfl⟩) ?_⟩
    have := li_no (xt := xt) (d := d) (post := post) (t := s) hm (by omega) (Q := fun t z => t = s ∧ z = -100) hx (by omega) (by omega) ⟨rfl, rfl⟩
    rw [← e] at this
    exact pgV_mono this (fun y h2 q => by
      obtain ⟨t, z, z1, z2, z3, z4⟩ := q
      exact ⟨by rw [z1, z4], by rw [z2, z3, ← e]⟩)
  obtain ⟨ln, rfl⟩ : ∃ ln : Nat, x = (ln : Int) := ⟨x.toNat, by omega⟩
  have hlf : ln ≤ fd := by omega
  obtain ⟨Nv, Fn, hNVF, hRNC, hFn⟩ := NMT_E hN
  have hNS := NMT_S hN
  have hnm := hN.2.1
  obtain ⟨fn, hfn⟩ : ∃ fn : Int → Bool, ∀ k, fn k = decide (fndK jf m (Int64.ofInt k) < m) := ⟨_, fun _ => rfl⟩
  obtain ⟨T, hT⟩ : ∃ T, T = tkI bf ln (tkG bf ln fn) := ⟨_, rfl⟩
  have hTKO : TKO T := by rw [hT]; exact tkI_TKO
  have hbf : ∀ j, 0 ≤ bf j ∧ bf j ≤ 255 := fun j => by rw [← ibf j]; omega
  -- the class splits the line
  obtain ⟨hs, hhs⟩ : ∃ hs, hs = h.set 2 (acC 0 qr qp le lp lw) := ⟨_, rfl⟩
  have s2 : hs[2]? = some (acC 0 qr qp le lp lw) := by rw [hhs]; exact hl_set (hl_lt c1)
  have sx : ∀ x, x ≠ 2 → hs[x]? = h[x]? := fun x q => by rw [hhs, List.getElem?_set_ne (by omega)]
  have sl : hs.length = h.length := by rw [hhs, List.length_set]
  have ssl : mj_sl hs = mj_sl h := by rw [hhs]; exact sl_set c1 rfl
  have sTK : TK hs mk0 le0 ln0 gd0 sf0 pf0 bf df0 := TK_e hTK0 (sx 9 (by decide)) (sx 10 (by decide)) (sx 11 (by decide)) (sx 12 (by decide)) (sx 3 (by decide))
  have sNS : NMS hs n m kf jf vf of := by
    obtain ⟨a1, a2, a3, a4, a5, a6⟩ := hNS
    exact ⟨by rw [sx 4 (by decide)]; exact a1, by rw [sx 5 (by decide)]; exact a2, by rw [sx 6 (by decide)]; exact a3, by rw [sx 7 (by decide)]; exact a4, by rw [sx 8 (by decide)]; exact a5, a6⟩
  obtain ⟨r1, h1, hc1, hr1, mk, le1, gd1, sf1, pf1, df1, t1, t2, l1, l2, l3⟩ := x_splitT (xt := xt) (d := d - 1) (n := ln) (by omega) sTK sNS (by omega) hbf hsf0 hfn
  have hsp : pgN xt (d - 1) 17 [.ref 9, ii (ln : Int)] (h.set 2 (acC 0 qr qp le lp lw)) (fun z => z = h1) := ⟨r1, h1, by rw [← hhs]; exact hc1, hr1, rfl⟩
  obtain ⟨hTT, hTOK⟩ : TT h1 T mk ln ∧ TOKS T mk ln := by rw [hT]; exact tkM_TT hbf (by omega) t2 t1
  have hpf0 : pf1 0 = (tqP (T 0) : Int) := by
    rw [hT]
    by_cases y : mk = 0
    · have := t2.2.2.1
      rw [y] at this
      exact this
    · exact (t2.1 0 (by omega)).2.1
  have hX1 : ∀ z, z = h1 → z[2]? = some (acC 0 qr qp le lp lw) ∧ ∃ c, z[13]? = some (cO 7 c) := fun z q => by
    rw [q]
    exact ⟨(l3 2 (by omega)).trans s2, _, ((l3 13 (by omega)).trans (sx 13 (by decide))).trans c13⟩
  -- the class reads it
  obtain ⟨r3, h3, hc3, x3, hr3, at3, wr3, st3, tl3, g13, ⟨z3, z4⟩, z5, z6, hM3⟩ := d_read (xt := xt) (d := d - 1) (A := A) (T := T) (mk := mk) (ln := ln) (h := h1) hx1 (by omega) (by omega) (okA_len hM.2.1 (by omega)) hTOK hTT (((l3 13 (by omega)).trans (sx 13 (by decide))).trans c13)
  have l2' : h1.length = h.length := by omega
  have nA3 : newA A h1 h3 = newA A h h3 := by unfold newA; rw [l2']
  rw [l2', nA3] at hM3
  have hrd : ∀ (x : Value), x3 = x → ∀ z, z = h1 → pgV xt (d - 1) 35 [.ref 13] z (fun y z => y = x ∧ z = h3) := fun x q z q2 => by
    rw [q2]
    exact ⟨r3, h3, hc3, x3, hr3, q, rfl⟩
  have fx3 : ∀ x, x < h.length → x ≠ 13 → h3[x]? = h1[x]? := fun x y1 y2 => z4 x (by omega) y2 y2
  have g1 : h.length ≤ h3.length ∧ h3.length ≤ h.length + 4 * ln + 3 ∧ mj_sl h3 ≤ mj_sl h + 40 * ln + 30 := ⟨by omega, by omega, by omega⟩
  have g2 : h3[2]? = some (acC 0 qr qp le lp lw) := ((fx3 2 (by omega) (by decide)).trans (l3 2 (by omega))).trans s2
  have g5 : ∀ x, x < h.length → x ≠ 2 → x ≠ 13 → ¬ (9 ≤ x ∧ x ≤ 12) → h3[x]? = h[x]? := fun x y1 y2 y3 y4 => ((fx3 x y1 y3).trans (l3 x y4)).trans (sx x y2)
  have gTK : TK h3 (mk + 1) le1 ln gd1 sf1 pf1 bf df1 := TK_e t1 (fx3 9 (by omega) (by decide)) (fx3 10 (by omega) (by decide)) (fx3 11 (by omega) (by decide)) (fx3 12 (by omega) (by decide)) (fx3 3 (by omega) (by decide))
  have gsf : ∀ j, 0 ≤ sf1 j ∧ sf1 j ≤ 7 := t2.2.2.2.2.2.2.2
  have lo : ∀ x, x < 102 → x ≠ 2 → x ≠ 13 → ¬ (9 ≤ x ∧ x ≤ 12) → h3[x]? = h[x]? := fun x y1 y2 y3 y4 => g5 x (by omega) y2 y3 y4
  have k3 : kpA A h (newA A h h3) h3 := fun a e' ha hg => ⟨Or.inl ha, (g5 a (hM.2.1 a ha).1 (by have := hM.2.1 a ha; omega) (by have := hM.2.1 a ha; omega) (by have := hM.2.1 a ha; omega)).trans hg⟩
  have ok3 : okA (newA A h h3) h3 := okA_new hM.2.1 m127 g1.1
  have M3 : MH (newA A h h3) h3 := MH_e g1.1 (fun x y => lo x (by omega) (by omega) (by omega) (by omega)) k3 ok3 hM
  have NS3 : NS h3 4 5 6 7 8 n kf vf m jf of := NS_e hN.1 (lo 4 (by omega) (by omega) (by omega) (by omega)) (lo 5 (by omega) (by omega) (by omega) (by omega)) (lo 6 (by omega) (by omega) (by omega) (by omega)) (lo 7 (by omega) (by omega) (by omega) (by omega)) (lo 8 (by omega) (by omega) (by omega) (by omega))
  have hNVF3 : NVF Nv Fn (newA A h h3) h3 := NVF_t hNVF k3 (fun x y1 y2 => lo x (by omega) (by omega) (by omega) (by omega))
  have c16' : h3[16]? = some (mcC tp dp ca ou (W : Int) er pl nw vx vy dg lv lf rt) := (lo 16 (by omega) (by omega) (by omega) (by omega)).trans c16
  have c32' : h3[32]? = some (cA 4 8192 sk) := (lo 32 (by omega) (by omega) (by omega) (by omega)).trans c32
  have A3h : ∀ a, newA A h h3 a → A a ∨ h.length ≤ a := fun a ha => ha.elim Or.inl (fun y => Or.inr y.1)
  -- the reference
  have hk3 := li0_k (s := s) (k := 3) (by omega)
  have hk4 := li0_k (s := s) (k := 4) (by omega)
  have hk50 := li0_k (s := s) (k := 50) (by omega)
  have hk23 := li0_k (s := s) (k := 23) (by omega)
  have hk24 := li0_k (s := s) (k := 24) (by omega)
  have hLOK : LOK s W ln := ⟨⟨i8, q3⟩, ⟨ro3, by omega⟩, ⟨ro5, by omega⟩, ⟨ro7, by omega⟩, by omega⟩
  have hTN : TN bf ln n m (li0 s) := ⟨by omega, i32, ibf, by omega, by omega, by omega, by omega⟩
  have hRM : RM T ln (li0 s) 0 := ⟨by omega, by omega, by omega, by omega, by omega, by omega⟩
  obtain ⟨hFa, hFb, hFc⟩ := FN_all (s := s) (T := T) hN.2.2.2.1 hfn hT
  have hTX : ∀ i, tqS (tkI bf ln (tkG bf ln fn) i) = 2 → ∀ k : Nat, (k : Int) < tqD (tkI bf ln (tkG bf ln fn) i) → tqP (tkI bf ln (tkG bf ln fn) i) + 1 + k < ln ∧ bf (tqP (tkI bf ln (tkG bf ln fn) i) + 1 + k) = tqX (tkI bf ln (tkG bf ln fn) i) k := by
    have hTO2 := hTOK
    rw [hT] at hTO2
    intro i hi
    have hlt := TOKS_lt hTO2 (i := i) (by omega)
    exact (tkI_TOKS hbf hTO2.1 (by omega) (fun j hj => by have := hTO2.2.2.1 j hj; omega) hTO2.2.2.2.2.1).2 i hlt hi
  have hRL : ∀ p q : mj_H, p.length = 102 → pgV xt d 202 [.ref 102, ii (ln : Int)] (rS p q s) (RL2 p q (lnP Nv Fn s T n m ln W)) := fun p q hp => R_line hp hRS hRT2 rpa rma ram (by omega) hT hTOK hTN hRM hFa hFb hFc hTX hLOK hRNC hnm.1 (by omega) (by omega)
  have hRLm : ∀ (G : RS → Int → Prop), (∀ t z, lnP Nv Fn s T n m ln W t z → G t z) → ∀ p q : mj_H, p.length = 102 → pgV xt d 202 [.ref 102, ii (ln : Int)] (rS p q s) (RL2 p q G) := fun G hG p q hp => pgV_mono (hRL p q hp) (fun y h2 z => by
    obtain ⟨t, z1, z2, z3, z4⟩ := z
    exact ⟨t, z1, z2, z3, hG t z1 z4⟩)
  clear hFa hFb hFc hTX hRM hTN
  -- the end: hF is the class's heap, h5 that ahead of the last change
  have fin : ∀ (A' : Nat → Prop) (h5 hF : mj_H) (W' qr' b1 b2 n' m' : Nat) (le' lp' z0 : Int) (v' : VV) (kf' jf' : Nat → Int64) (vf' of' : Nat → Option Nat), h.length ≤ h5.length → 7 * h5.length + 6 * W' ≤ 7 * h.length + 6 * W + b1 → mj_sl h5 + 8 * W' ≤ mj_sl h + 8 * W + b2 → b1 ≤ 60 * fd + 1200 → b2 ≤ 100 * fd + 2000 → (∀ x, x < h.length → x = 15 ∨ (98 ≤ x ∧ x ≤ 100) ∨ 102 ≤ x → h5[x]? = h[x]?) → kpA A h A' h5 → (∀ a, A' a → A a ∨ h.length ≤ a) → MH A' h5 → (∃ cc, h5[2]? = some (cO 11 cc) ∧ cc.length = 13) → (TK h5 (mk + 1) le1 ln gd1 sf1 pf1 bf df1) → (∃ (at_ wr ls : Int) (nm : Int64) (st tl : Value), h5[13]? = some (rdC at_ wr ls nm st tl)) → (∃ (tp dp ca ou er pl lv : Int) (nw vx vy dg lf rt : Value), h5[16]? = some (mcC tp dp ca ou (W' : Int) er pl nw vx vy dg lv lf rt)) → (∃ sf, h5[32]? = some (cA 4 8192 sf)) → hF = h5.set 2 (acC 0 qr' qr' le' lp' ((W : Int) - (W' : Int))) → W' ≤ W → gv A' h5 qr' v' → (kpA A' h5 A' hF → (∀ x, x ≠ 2 → hF[x]? = h5[x]?) → ∀ t z, lnP Nv Fn s T n m ln W t z → z = z0 ∧ REF s A' hF ln W W' le' lp' ((W : Int) - (W' : Int)) v' n' m' kf' jf' vf' of' t) → pgV xt d 202 [.ref 102, ii (ln : Int)] hF (fun y2 h2 => y2 = ii z0 ∧ INV r h2) ∧ ∃ c, hF[102]? = some (cO 12 c) := by
    intro A' h5 hF W' qr' b1 b2 n' m' le' lp' z0 v' kf' jf' vf' of' l1 l2 l3 l4 l5 l6 l7 l8 l9 l10 l11 l12 l13 l14 l15 l16 lv l17
    obtain ⟨cc, l10, l10'⟩ := l10
    have fx : ∀ x, x ≠ 2 → hF[x]? = h5[x]? := fun x y => by rw [l15, List.getElem?_set_ne (by omega)]
    have fl : hF.length = h5.length := by rw [l15, List.length_set]
    have fsl : mj_sl hF = mj_sl h5 := by
      rw [l15, sl_set l10 ?_]
      show 13 = cc.length
      omega
    have ok5 := l9.2.1
    have k5 : kpA A' h5 A' hF := kp_lo ok5 (fun x _ y => fx x (by omega))
    have M5 : MH A' hF := MH_e (by omega) (fun x y => fx x (by omega)) k5 (okA_len ok5 (by omega)) l9
    have g2 : hF[2]? = some (acC 0 qr' qr' le' lp' ((W : Int) - (W' : Int))) := by rw [l15]; exact hl_set (hl_lt l10)
    exact L_fin e hm m127 hIR0 hK hRo0 hlf q3 (by omega) (by omega) (by omega) l4 l5 (fun x y1 y2 => (fx x (by omega)).trans (l6 x y2 (by omega))) (kpA_tr l7 k5) l8 (ICL_L hC0 M5 g2 ⟨_, _, _, _, _, _, _, TK_e l11 (fx 9 (by decide)) (fx 10 (by decide)) (fx 11 (by decide)) (fx 12 (by decide)) (fx 3 (by decide)), gsf⟩ (by rw [fx 13 (by decide)]; exact l12) (by rw [fx 16 (by decide)]; exact l13) (by rw [fx 32 (by decide)]; exact l14) (fun x y => (fx x (by omega)).trans (l6 x (by omega) (by omega)))) (gv_k k5 lv) l16 (hRLm _ (l17 k5 fx))
  -- an error straight behind reading
  have fin_r : ∀ (hF : mj_H) (er' : Nat) (pl' z0 : Int), hF = h3.set 2 (acC 0 qr qr (er' : Int) pl' ((W : Int) - (W : Int))) → (∀ t z, lnP Nv Fn s T n m ln W t z → z = z0 ∧ LNE s t W W er' pl') → pgV xt d 202 [.ref 102, ii (ln : Int)] hF (fun y2 h2 => y2 = ii z0 ∧ INV r h2) ∧ ∃ c, hF[102]? = some (cO 12 c) := by
    intro hF er' pl' z0 z2 z3
    refine fin (newA A h h3) h3 hF W qr (28 * ln + 21) (40 * ln + 30) n m (er' : Int) pl' z0 v kf jf vf of g1.1 (by omega) (by omega) (by omega) (by omega) (fun x y1 y2 => g5 x y1 (by omega) (by omega) (by omega)) k3 A3h M3 ⟨_, g2, rfl⟩ gTK ⟨_, _, _, _, _, _, g13⟩ ⟨_, _, _, _, _, _, _, _, _, _, _, _, _, c16'⟩ ⟨_, c32'⟩ z2 (Nat.le_refl _) (gv_k k3 hV.2.1) (fun kF fx t z y => ⟨(z3 t z y).1, ?_⟩)
    exact REF_e hN (kpA_tr k3 kF) (NS_e NS3 (fx 4 (by decide)) (fx 5 (by decide)) (fx 6 (by decide)) (fx 7 (by decide)) (fx 8 (by decide))) hV.1.1 hV.2.2.1 (Nat.le_refl _) (z3 t z y).2
  have hX3 : h3[2]? = some (acC 0 qr qp le lp lw) ∧ (∃ c, h3[9]? = some (cO 8 c)) ∧ (∃ c, h3[4]? = some (cO 2 c)) := ⟨g2, ⟨_, gTK.1⟩, _, NS3.1⟩
  have hfd3 : 0 ≤ (fd : Int) ∧ (fd : Int) ≤ 300 := by omega
  have hln3 : ((ln : Nat) : Int) ≤ (fd : Int) := by omega
  rcases hR : liR T with p | a
  · -- it can't be read
    rw [hR] at hM3
    refine ⟨-1, cl_bad (by omega) c1 c16 hTK0.1 hfd3 hln3 hsp hX1 (Q3 := fun z => z = h3) (hrd _ hM3.1) (fun z q => ?_) (fun z at_ wr ls nm st tl tp2 dp2 ca2 ou2 wk2 er2 pl2 lv2 nw2 vx2 vy2 dg2 lf2 rt2 z1 z2 z3 => ⟨rfl, ?_⟩)⟩
    · rw [q]
      exact ⟨hX3.1, hX3.2.1, hX3.2.2, _, _, _, _, _, _, g13, _, _, _, _, _, _, _, _, _, _, _, _, _, _, c16'⟩
    · rw [z1] at z2 z3 ⊢
      have j1 := rdC_inj (z2.symm.trans g13)
      have j2 := mcC_inj (z3.symm.trans c16')
      rw [hM3.2] at j1
      refine fin_r _ 1 (p : Int) (-1) (congrArg (h3.set 2) (acC_cg rfl j1.1 (ii_sub j2.1))) (fun t z y => ?_)
      unfold lnP at y
      rw [hR] at y
      exact y
  -- it can be read
  rw [hR] at hM3
  obtain ⟨hx3, op, hst, hop, hcL⟩ := hM3
  rw [hst] at g13
  have hla := liR_in hTOK hR
  have hS3 := liS_le T
  have hone0 : pgP xt (d - 1) 60 [.ref 2] h3 (ii (if (((liS T : Nat) : Int) = 1 ∨ ((liS T : Nat) : Int) = 2) ∧ 40 ≤ n + m ∧ ¬ (fndK kf n (Int64.ofInt (tqD (T 0))) < n ∨ fndK jf m (Int64.ofInt (tqD (T 0))) < m) then 1 else 0)) := a_oneMore (by omega) g2 ⟨NS3.1, NS3.2.1, NS3.2.2.1, NS3.2.2.2.1, NS3.2.2.2.2, hNS.2.2.2.2.2⟩ g13 (by omega)
  have hnmT : liS T ≠ 0 → nmR (tqD (T 0)) (tqR (T 0)) := fun z => hTKO.2.2 0 (liS_n0 z)
  have hFiff : lnF s T n m ↔ ((((liS T : Nat) : Int) = 1 ∨ ((liS T : Nat) : Int) = 2) ∧ 40 ≤ n + m ∧ ¬ (fndK kf n (Int64.ofInt (tqD (T 0))) < n ∨ fndK jf m (Int64.ofInt (tqD (T 0))) < m)) := by
    unfold lnF
    constructor
    · rintro ⟨z1, z2, z3⟩
      have y := hnmT (by omega)
      have w1 := fn_R hN.2.2.1 y
      have w2 := fn_R hN.2.2.2.1 y
      exact ⟨by omega, by omega, fun z => z2 (z.elim (fun z => Or.inl (w1.mp z)) (fun z => Or.inr (w2.mp z)))⟩
    · rintro ⟨z1, z2, z3⟩
      have y := hnmT (by omega)
      have w1 := fn_R hN.2.2.1 y
      have w2 := fn_R hN.2.2.2.1 y
      exact ⟨by omega, fun z => z3 (z.elim (fun z => Or.inl (w1.mpr z)) (fun z => Or.inr (w2.mpr z))), by omega⟩
  by_cases hFl : lnF s T n m
  · -- one name more than may be known
    refine ⟨-8, cl_full (by omega) c1 c16 hTK0.1 hfd3 hln3 hsp hX1 (Q3 := fun z => z = h3) (hrd _ hx3) (fun z q => ?_) (fun z q => ?_) (p0 := (tqP (T 0) : Int)) (fun z q => ?_) (fun z tp2 dp2 ca2 ou2 wk2 er2 pl2 lv2 nw2 vx2 vy2 dg2 lf2 rt2 z1 z3 => ⟨rfl, ?_⟩)⟩
    · rw [q]
      exact ⟨hX3.1, hX3.2.1, hX3.2.2, _, _, _, _, _, _, g13, _, _, _, _, _, _, _, _, _, _, _, _, _, _, c16'⟩
    · rw [q]
      have := hone0
      rw [if_pos (hFiff.mp hFl)] at this
      exact this
    · rw [q]
      have := x_placeAtT (xt := xt) (d := d - 1) (by omega) gTK (i := 0) (by omega)
      rw [if_pos (by omega), show (0 : Int).toNat = 0 from rfl, hpf0] at this
      exact this
    · rw [z1] at z3 ⊢
      have j2 := mcC_inj (z3.symm.trans c16')
      refine fin_r _ 8 (tqP (T 0) : Int) (-8) (congrArg (h3.set 2) (acC_cg rfl rfl (ii_sub j2.1))) (fun t z y => ?_)
      unfold lnP at y
      rw [hR] at y
      rcases y with ⟨-, y1, y2⟩ | ⟨y, -⟩ | ⟨y, -⟩
      · exact ⟨y1, y2⟩
      · exact absurd hFl y
      · exact absurd hFl y
  have hone : ∀ z, z = h3 → pgP xt (d - 1) 60 [.ref 2] z (ii 0) := fun z q => by
    rw [q]
    have := hone0
    rw [if_neg (fun y => hFl (hFiff.mpr y))] at this
    exact this
  have hX3' : ∀ z, z = h3 → z[2]? = some (acC 0 qr qp le lp lw) ∧ (∃ c, z[9]? = some (cO 8 c)) ∧ (∃ c, z[4]? = some (cO 2 c)) ∧ ∃ (at_ wr : Int) (tl : Value), z[13]? = some (rdC at_ wr ((liS T : Nat) : Int) (Int64.ofInt (tqD (T 0))) (.ref op) tl) ∧ ∃ (tp2 dp2 ca2 ou2 wk2 er2 pl2 lv2 : Int) (nw2 vx2 vy2 dg2 lf2 rt2 : Value), z[16]? = some (mcC tp2 dp2 ca2 ou2 wk2 er2 pl2 nw2 vx2 vy2 dg2 lv2 lf2 rt2) := fun z q => by
    rw [q]
    exact ⟨hX3.1, hX3.2.1, hX3.2.2, _, _, _, g13, _, _, _, _, _, _, _, _, _, _, _, _, _, _, c16'⟩
  -- where the name's place in a table is
  have fl1 : fndK kf n (Int64.ofInt (tqD (T 0))) ≤ n := fstN_le _ _
  have fl2 : fndK jf m (Int64.ofInt (tqD (T 0))) ≤ m := fstN_le _ _
  have dl : ∀ a b : Nat, (b < a ∧ delN a b = a - 1) ∨ (¬ b < a ∧ delN a b = a) := fun a b => by
    unfold delN
    by_cases z : b < a
    · exact Or.inl ⟨z, if_pos z⟩
    · exact Or.inr ⟨z, if_neg z⟩
  have dl1 := dl n (fndK kf n (Int64.ofInt (tqD (T 0))))
  have dl2 := dl m (fndK jf m (Int64.ofInt (tqD (T 0))))
  have hNDis : NDis 4 5 6 7 8 := by unfold NDis; decide
  by_cases h2 : liS T = 2
  · -- a function is told
    have hopc := cR_op _ _ _ _ _ _ _ _ (by unfold cL at hcL; rw [if_neg (by omega)] at hcL; exact hcL) (fun y => by cases y)
    obtain ⟨-, op2, fso, hopo⟩ := hopc
    have hla2 := hla.2.1 h2
    have hnk : (fndK kf n (Int64.ofInt (tqD (T 0))) < n ∨ fndK jf m (Int64.ofInt (tqD (T 0))) < m) ∨ n + m < 40 := by
      refine Classical.byContradiction fun z => hFl (hFiff.mpr ⟨by omega, by omega, fun y => z (Or.inl y)⟩)
    obtain ⟨r5, h5, hc5, hr5, i5, hi5, ⟨n1, n2, n3⟩, hS5⟩ := n_tell (xt := xt) (d := d - 1) (key := Int64.ofInt (tqD (T 0))) (by omega) NS3 hNDis (by decide) (by omega) (by omega) (fun k hk => by
      obtain ⟨_, _, q, _, _, _, _, z4, _, u, z6, _⟩ := hN.2.2.1 k hk
      obtain ⟨w1, w2, fs, w3⟩ := gv_cell (gv_k k3 z6)
      exact ⟨q, fs, z4, w1, w3⟩) (by omega) hopo hop.1 (by omega)
    rw [hi5] at hS5
    have k5 : kpA (newA A h h3) h3 (newA A h h3) h5 := kp_lo ok3 (fun x _ y => n3 x (by omega) (by omega) (by omega) (by omega) (by omega))
    have M5 : MH (newA A h h3) h5 := MH_e (by omega) (fun x y => n3 x (by omega) (by omega) (by omega) (by omega) (by omega)) k5 (okA_len ok3 (by omega)) M3
    have f5 : ∀ x, ¬ (4 ≤ x ∧ x ≤ 8) → h5[x]? = h3[x]? := fun x y => n3 x (by omega) (by omega) (by omega) (by omega) (by omega)
    refine ⟨0, cl_tell (by omega) c1 c16 hTK0.1 hfd3 hln3 hsp hX1 (op := op) (ls := ((liS T : Nat) : Int)) (nm := Int64.ofInt (tqD (T 0))) (Q3 := fun z => z = h3) (hrd _ hx3) hX3' hone (by omega) (Q5 := fun z => z = h5) (fun z q => by rw [q]; exact ⟨r5, h5, hc5, hr5, rfl⟩) (fun z q => ?_) (fun z tp3 dp3 ca3 ou3 wk3 er3 pl3 lv3 nw3 vx3 vy3 dg3 lf3 rt3 z1 z3 => ⟨rfl, ?_⟩)⟩
    · rw [q]
      exact ⟨(f5 2 (by omega)).trans g2, _, _, _, _, _, _, _, _, _, _, _, _, _, _, (f5 16 (by omega)).trans c16'⟩
    · rw [z1] at z3 ⊢
      have j2 := mcC_inj (z3.symm.trans ((f5 16 (by omega)).trans c16'))
      refine fin (newA A h h3) h5 _ W qr (28 * ln + 21) (40 * ln + 30) (delN n (fndK kf n (Int64.ofInt (tqD (T 0))))) (max m (fndK jf m (Int64.ofInt (tqD (T 0))) + 1)) 0 (-1) 0 v (delF kf n (fndK kf n (Int64.ofInt (tqD (T 0))))) (va_up jf (fndK jf m (Int64.ofInt (tqD (T 0)))) (Int64.ofInt (tqD (T 0)))) (delF vf n (fndK kf n (Int64.ofInt (tqD (T 0))))) (va_up of (fndK jf m (Int64.ofInt (tqD (T 0)))) (some op)) (by omega) (by omega) (by omega) (by omega) (by omega) (fun x y1 y2 => (f5 x (by omega)).trans (g5 x y1 (by omega) (by omega) (by omega))) (kpA_tr k3 k5) A3h M5 ⟨_, (f5 2 (by omega)).trans g2, rfl⟩ (TK_e gTK (f5 9 (by omega)) (f5 10 (by omega)) (f5 11 (by omega)) (f5 12 (by omega)) (f5 3 (by omega))) ⟨_, _, _, _, _, _, (f5 13 (by omega)).trans g13⟩ ⟨_, _, _, _, _, _, _, _, _, _, _, _, _, (f5 16 (by omega)).trans c16'⟩ ⟨_, (f5 32 (by omega)).trans c32'⟩ (congrArg (h5.set 2) (acC_cg rfl rfl (ii_sub j2.1))) (Nat.le_refl _) (gv_k (kpA_tr k3 k5) hV.2.1) (fun kF fx t z y => ?_)
      unfold lnP at y
      rw [hR] at y
      rcases y with ⟨y, -⟩ | ⟨-, -, y1, y2⟩ | ⟨-, y, -⟩
      · exact absurd y hFl
      · refine ⟨y1, ?_⟩
        obtain ⟨w1, w2, w3, w4, w5, w6, w7, w8, w9, rt', w10, w11, w12, w13, w14, w15, w16⟩ := y2
        have x50 : s.1 50 ≤ t.1 50 := w9.1
        have rx := RXX_LF w1 x50
        have kA := kpA_tr k3 (kpA_tr k5 kF)
        have hbd : BDY (newA A h h3) h3 T op := by
          unfold cL at hcL
          rw [if_neg (by omega), if_pos h2, hla2.1] at hcL
          obtain ⟨j3, hj3⟩ := hla2.2.1
          exact ⟨mk, ln, j3, hTOK, hla2.2.2, hTKO.1, hj3, hcL⟩
        refine ⟨w1, x50, ⟨w3, w4, by omega, w6⟩, by omega, by omega, w9.2, ⟨pr, w2.trans hV.1.1, gr_x w1.1 hV.2.2.1⟩, ?_⟩
        have ok5 := okA_len ok3 (show h3.length ≤ h5.length by omega)
        have opF := (kpA_tr k5 kF) op _ op2 hopo
        exact NMT_tell hN kA rx (hnmT (by omega)) (by omega) ⟨T, BDY_k (kpA_tr k5 kF) hbd, w10⟩ ⟨hop.1, opF.1, opF.2⟩ (NS_e hS5 (fx 4 (by decide)) (fx 5 (by decide)) (fx 6 (by decide)) (fx 7 (by decide)) (fx 8 (by decide))) w11 w12 w13 w14 w15 w16
      · exact absurd h2 y
  -- it is run
  obtain ⟨r5, h5, hc5, x5, hr5, hRUN⟩ := M_run (xt := xt) (d := d - 1) (A := newA A h h3) (h := h3) (op := op) (a := a) hx1 hRO hRT (by omega) M3 c16' c32' hNVF3 q3 hTOK hTKO hR h2 hcL
  have hWle := lnD_W (Nv := Nv) (Fn := Fn) (T := T) (a := a) (W := W)
  have hln1 : 20 ≤ fd := by
    rcases q2 with y | y
    · exfalso
      obtain ⟨j, hj⟩ := (hla.2.2.1 h2).1
      have hjm := pR_mk hTOK fuR 0 0 a j hla.1 hj
      have hja := hjm.2.2 (by decide)
      have p1 := hTOK.2.2.2.2.2.2.1 0 (by omega)
      have p2 := hTOK.2.2.2.2.2.2.2.2.1 (0 + 1)
      omega
    · exact y
  rcases hD : lnD Nv Fn T a W with ⟨W', ⟨er', pe⟩ | u⟩
  · -- it ends in an error
    rw [hD] at hRUN hWle
    obtain ⟨hnl, M5, F5, b1, b2, ⟨tp5, dp5, ca5, ou5, nw5, vx5, vy5, dg5, lv5, lf5, rt5, c5⟩, ⟨sf5, c325⟩, he5⟩ := hRUN
    have b1 : 7 * h5.length + 6 * W' ≤ 7 * h3.length + 6 * W + 1800 := b1
    have b2 : mj_sl h5 + 8 * W' ≤ mj_sl h3 + 8 * W + 3100 := b2
    have c5 : h5[16]? = some (mcC tp5 dp5 ca5 ou5 (W' : Int) (er' : Int) pe nw5 vx5 vy5 dg5 lv5 lf5 rt5) := c5
    have hWle : W' ≤ W := hWle
    have nA5 : newA (newA A h h3) h3 h5 = newA A h h5 := newA_tr g1.1 F5.1
    rw [nA5] at M5
    have k5 : kpA (newA A h h3) h3 (newA A h h5) h5 := by rw [← nA5]; exact MF_kp ok3 F5
    have f5 : ∀ x, x < h3.length → ¬ mcS 0 x → h5[x]? = h3[x]? := F5.2
    have nm : ∀ x, x ≤ 15 ∨ 98 ≤ x → ¬ mcS 0 x := fun x y => by unfold mcS scr; omega
    refine ⟨-(er' : Int), cl_err (by omega) c1 c16 hTK0.1 hfd3 hln3 hsp hX1 (op := op) (ls := ((liS T : Nat) : Int)) (nm := Int64.ofInt (tqD (T 0))) (Q3 := fun z => z = h3) (hrd _ hx3) hX3' hone (by omega) (Q5 := fun z => z = h5) (fun z q => by rw [q]; exact ⟨r5, h5, hc5, x5, hr5, hnl, rfl⟩) (fun z q => ?_) (Q6 := fun z => z = h5.set 2 (acC 0 qr qp (er' : Int) pe lw)) (fun z q => ?_) (fun z q => ?_) (fun z qr6 qp6 le6 lp6 lw6 tp3 dp3 ca3 ou3 wk3 er3 pl3 lv3 nw3 vx3 vy3 dg3 lf3 rt3 z1 z2 z3 => ?_)⟩
    · rw [q]
      exact ⟨_, (f5 2 (by omega) (nm 2 (by omega))).trans g2⟩
    · rw [q]
      exact ti_err (by omega) ((f5 2 (by omega) (nm 2 (by omega))).trans g2) c5 rfl
    · rw [q]
      exact ⟨_, _, _, _, _, hl_set (hl_lt ((f5 2 (by omega) (nm 2 (by omega))).trans g2)), _, _, _, _, _, _, _, _, _, _, _, _, _, _, hl_ne (by decide) c5⟩
    · rw [z1] at z2 z3 ⊢
      have j1 := acC_inj (z2.symm.trans (hl_set (hl_lt ((f5 2 (by omega) (nm 2 (by omega))).trans g2))))
      have j2 := mcC_inj (z3.symm.trans (hl_ne (by decide) c5))
      refine ⟨ii_neg j1.2.1, ?_⟩
      rw [j1.1, List.set_set]
      refine fin (newA A h h5) h5 _ W' qr (28 * ln + 1821) (40 * ln + 3130) n m (er' : Int) pe (-(er' : Int)) v kf jf vf of (by have := F5.1; omega) (by omega) (by omega) (by omega) (by omega) (fun x y1 y2 => (f5 x (by omega) (nm x (by omega))).trans (g5 x y1 (by omega) (by omega) (by omega))) (kpA_tr k3 k5) (fun a ha => ha.elim Or.inl (fun y => Or.inr y.1)) M5 ⟨_, (f5 2 (by omega) (nm 2 (by omega))).trans g2, rfl⟩ (TK_e gTK (f5 9 (by omega) (nm 9 (by omega))) (f5 10 (by omega) (nm 10 (by omega))) (f5 11 (by omega) (nm 11 (by omega))) (f5 12 (by omega) (nm 12 (by omega))) (f5 3 (by omega) (nm 3 (by omega)))) ⟨_, _, _, _, _, _, (f5 13 (by omega) (nm 13 (by omega))).trans g13⟩ ⟨_, _, _, _, _, _, _, _, _, _, _, _, _, c5⟩ ⟨_, c325⟩ (congrArg (h5.set 2) (acC_cg j1.2.1 j1.2.2 (ii_sub j2.1))) hWle (gv_k (kpA_tr k3 k5) hV.2.1) (fun kF fx t z y => ?_)
      unfold lnP at y
      rw [hR] at y
      rcases y with ⟨y, -⟩ | ⟨-, y, -⟩ | ⟨-, -, y⟩
      · exact absurd y hFl
      · exact absurd y h2
      · rw [hD] at y
        have y : z = -(er' : Int) ∧ LNE s t W W' er' pe := y
        exact ⟨y.1, REF_e hN (kpA_tr k3 (kpA_tr k5 kF)) (NS_e NS3 ((fx 4 (by decide)).trans (f5 4 (by omega) (nm 4 (by omega)))) ((fx 5 (by decide)).trans (f5 5 (by omega) (nm 5 (by omega)))) ((fx 6 (by decide)).trans (f5 6 (by omega) (nm 6 (by omega)))) ((fx 7 (by decide)).trans (f5 7 (by omega) (nm 7 (by omega)))) ((fx 8 (by decide)).trans (f5 8 (by omega) (nm 8 (by omega))))) hV.1.1 hV.2.2.1 hWle y.2⟩
  · -- it comes to a value
    rw [hD] at hRUN hWle
    obtain ⟨q5, hq5, hgv, M5, F5, b1, b2, ⟨tp5, dp5, ca5, ou5, pl5, nw5, vx5, vy5, dg5, lv5, lf5, rt5, c5⟩, sf5, c325⟩ := hRUN
    have b1 : 7 * h5.length + 6 * W' ≤ 7 * h3.length + 6 * W + 1800 := b1
    have b2 : mj_sl h5 + 8 * W' ≤ mj_sl h3 + 8 * W + 3100 := b2
    have c5 : h5[16]? = some (mcC tp5 dp5 ca5 ou5 (W' : Int) 0 pl5 nw5 vx5 vy5 dg5 lv5 lf5 rt5) := c5
    have hWle : W' ≤ W := hWle
    have hgv : gv (newA (newA A h h3) h3 h5) h5 q5 u := hgv
    have nA5 : newA (newA A h h3) h3 h5 = newA A h h5 := newA_tr g1.1 F5.1
    rw [nA5] at M5 hgv
    have k5 : kpA (newA A h h3) h3 (newA A h h5) h5 := by rw [← nA5]; exact MF_kp ok3 F5
    have ok5 := M5.2.1
    have f5 : ∀ x, x < h3.length → ¬ mcS 0 x → h5[x]? = h3[x]? := F5.2
    have nm : ∀ x, x ≤ 15 ∨ 98 ≤ x → ¬ mcS 0 x := fun x y => by unfold mcS scr; omega
    have NS5 : NS h5 4 5 6 7 8 n kf vf m jf of := NS_e NS3 (f5 4 (by omega) (nm 4 (by omega))) (f5 5 (by omega) (nm 5 (by omega))) (f5 6 (by omega) (nm 6 (by omega))) (f5 7 (by omega) (nm 7 (by omega))) (f5 8 (by omega) (nm 8 (by omega)))
    have g25 : h5[2]? = some (acC 0 qr qp le lp lw) := (f5 2 (by omega) (nm 2 (by omega))).trans g2
    have g135 := (f5 13 (by omega) (nm 13 (by omega))).trans g13
    obtain ⟨qv1, qv2, fsv, qv3⟩ := gv_cell hgv
    have q5h : 25 ≤ q5 := by have := ok5 q5 qv2; omega
    -- h6: behind takeIn
    have last : ∀ (h6 : mj_H) (n' m' : Nat) (kf' jf' : Nat → Int64) (vf' of' : Nat → Option Nat), nch 4 5 6 7 8 h5 h6 → pgN xt (d - 1) 176 [.ref 2, .ref q5] h5 (fun z => z = h6.set 2 (acC 0 q5 qp 0 (-1) lw)) → (∀ (hF : mj_H) (t : RS), kpA (newA A h h5) h6 (newA A h h5) hF → (∀ x, x ≠ 2 → hF[x]? = h6[x]?) → LNV s t T n m ln W W' u → NMT (newA A h h5) hF t 4 5 6 7 8 (t.1 23) (t.1 24) (t.2.2.2 19) (t.2.2.2 20) (t.2.2.1 21) (t.2.2.1 22) n' m' kf' jf' vf' of') → ∃ z : Int, STEP xt d 15 202 [ii (ln : Int)] r h (ii z) := by
      intro h6 n' m' kf' jf' vf' of' hnc hti hnmt
      obtain ⟨n1, n2, n3⟩ := hnc
      have f6 : ∀ x, ¬ (4 ≤ x ∧ x ≤ 8) → h6[x]? = h5[x]? := fun x y => n3 x (by omega) (by omega) (by omega) (by omega) (by omega)
      have g26 : h6[2]? = some (acC 0 qr qp le lp lw) := (f6 2 (by omega)).trans g25
      have c6 := (f6 16 (by omega)).trans c5
      have k6 : kpA (newA A h h5) h5 (newA A h h5) h6 := kp_lo ok5 (fun x _ y => f6 x (by omega))
      have M6 : MH (newA A h h5) h6 := MH_e (by omega) (fun x y => f6 x (by omega)) k6 (okA_len ok5 (by omega)) M5
      refine ⟨0, cl_val (by omega) c1 c16 hTK0.1 hfd3 hln3 hsp hX1 (op := op) (ls := ((liS T : Nat) : Int)) (nm := Int64.ofInt (tqD (T 0))) (Q3 := fun z => z = h3) (hrd _ hx3) hX3' hone (by omega) (Q5 := fun q z => q = q5 ∧ z = h5) (fun z q => by rw [q]; exact ⟨r5, h5, hc5, x5, hr5, q5, hq5, rfl, rfl⟩) (fun z q5' q => ?_) (Q6 := fun z => z = h6.set 2 (acC 0 q5 qp 0 (-1) lw)) (fun z q5' q => ?_) (fun z q => ?_) (fun z qr6 qp6 le6 lp6 lw6 tp3 dp3 ca3 ou3 wk3 er3 pl3 lv3 nw3 vx3 vy3 dg3 lf3 rt3 z1 z2 z3 => ?_)⟩
      · rw [q.2]
        exact ⟨_, g25⟩
      · rw [q.1, q.2]
        exact hti
      · rw [q]
        exact ⟨_, _, _, _, _, hl_set (hl_lt g26), _, _, _, _, _, _, _, _, _, _, _, _, _, _, hl_ne (by decide) c6⟩
      · rw [z1] at z2 z3 ⊢
        have j1 := acC_inj (z2.symm.trans (hl_set (hl_lt g26)))
        have j2 := mcC_inj (z3.symm.trans (hl_ne (by decide) c6))
        refine ⟨ii_neg j1.2.1, ?_⟩
        rw [j1.1, List.set_set]
        refine fin (newA A h h5) h6 _ W' q5 (28 * ln + 1821) (40 * ln + 3130) n' m' 0 (-1) 0 u kf' jf' vf' of' (by have := F5.1; omega) (by omega) (by omega) (by omega) (by omega) (fun x y1 y2 => ((f6 x (by omega)).trans (f5 x (by omega) (nm x (by omega)))).trans (g5 x y1 (by omega) (by omega) (by omega))) (kpA_tr k3 (kpA_tr k5 k6)) (fun a ha => ha.elim Or.inl (fun y => Or.inr y.1)) M6 ⟨_, g26, rfl⟩ (TK_e gTK ((f6 9 (by omega)).trans (f5 9 (by omega) (nm 9 (by omega)))) ((f6 10 (by omega)).trans (f5 10 (by omega) (nm 10 (by omega)))) ((f6 11 (by omega)).trans (f5 11 (by omega) (nm 11 (by omega)))) ((f6 12 (by omega)).trans (f5 12 (by omega) (nm 12 (by omega)))) ((f6 3 (by omega)).trans (f5 3 (by omega) (nm 3 (by omega))))) ⟨_, _, _, _, _, _, (f6 13 (by omega)).trans g135⟩ ⟨_, _, _, _, _, _, _, _, _, _, _, _, _, c6⟩ ⟨_, (f6 32 (by omega)).trans c325⟩ (congrArg (h6.set 2) (acC_cg j1.2.1 j1.2.2 (ii_sub j2.1))) hWle (gv_k k6 hgv) (fun kF fx t z y => ?_)
        unfold lnP at y
        rw [hR] at y
        rcases y with ⟨y, -⟩ | ⟨-, y, -⟩ | ⟨-, -, y⟩
        · exact absurd y hFl
        · exact absurd y h2
        · rw [hD] at y
          have y : z = 0 ∧ LNV s t T n m ln W W' u := y
          obtain ⟨y1, y2⟩ := y
          have hL := y2
          obtain ⟨w1, w2, w3, w4, w5, w6, w7, w8, q', w9, w10, -⟩ := y2
          exact ⟨y1, w1, by omega, ⟨w2, w3, by omega, w5⟩, w6, w7, by omega, ⟨q', w9, w10⟩, hnmt _ t kF fx hL⟩
    by_cases h0 : liS T = 0
    · refine last h5 n m kf jf vf of (nch_rf h5) (ti_plain (by omega) g25 g135 (by omega) rfl) (fun hF t kF fx hL => ?_)
      obtain ⟨w1, w2, w3, w4, w5, w6, w7, w8, q', w9, w10, w11⟩ := hL
      unfold NFm at w11
      rw [if_pos h0] at w11
      exact NMT_NF hN (kpA_tr k3 (kpA_tr k5 kF)) (RXX_LF w1 (by omega)) w11 (NS_e NS5 (fx 4 (by decide)) (fx 5 (by decide)) (fx 6 (by decide)) (fx 7 (by decide)) (fx 8 (by decide)))
    · have hnk : (fndK kf n (Int64.ofInt (tqD (T 0))) < n ∨ fndK jf m (Int64.ofInt (tqD (T 0))) < m) ∨ n + m < 40 := by
        by_cases h3' : liS T = 3
        · have y := lnD_nm h3' (hla.2.2.2 h0) hD
          rcases hRNC.2.2.2.2.1 _ _ (hnmT h0) with ⟨-, z⟩ | ⟨z, -⟩
          · exact absurd z y
          · exact Or.inl (Or.inl (by rw [TBL_fnd hN.2.2.1 (hnmT h0)]; exact z))
        · refine Classical.byContradiction fun z => hFl (hFiff.mpr ⟨by omega, by omega, fun y => z (Or.inl y)⟩)
      obtain ⟨r6, h6, hc6, hr6, i6, hi6, hnc, hS6⟩ := n_give (xt := xt) (d := d - 1 - 1) (key := Int64.ofInt (tqD (T 0))) (by omega) NS5 hNDis (by decide) (by omega) (by omega) (fun k hk => by
        obtain ⟨_, _, q, _, _, _, _, z4, _, T', z6, _⟩ := hN.2.2.2.1 k hk
        obtain ⟨mk9, ln9, j9, _, _, _, _, z7⟩ := BDY_k (kpA_tr k3 k5) z6
        obtain ⟨w1, w2, fs, w3⟩ := cR_op _ _ _ _ _ _ _ _ z7 (fun y => by cases y)
        exact ⟨q, fs, z4, w1, w3⟩) (by omega) qv3 qv1 (by omega)
      rw [hi6] at hS6
      have n3 := hnc.2.2
      refine last h6 (max n (fndK kf n (Int64.ofInt (tqD (T 0))) + 1)) (delN m (fndK jf m (Int64.ofInt (tqD (T 0))))) (va_up kf (fndK kf n (Int64.ofInt (tqD (T 0)))) (Int64.ofInt (tqD (T 0)))) (delF jf m (fndK jf m (Int64.ofInt (tqD (T 0))))) (va_up vf (fndK kf n (Int64.ofInt (tqD (T 0)))) (some q5)) (delF of m (fndK jf m (Int64.ofInt (tqD (T 0))))) hnc (ti_give (by omega) g25 g135 NS5.1 (by omega) (Q1 := fun z => z = h6) ⟨r6, h6, hc6, hr6, rfl⟩ (fun z q => by rw [q]; exact (n3 2 (by decide) (by decide) (by decide) (by decide) (by decide)).trans g25) (fun z q => by rw [q])) (fun hF t kF fx hL => ?_)
      obtain ⟨w1, w2, w3, w4, w5, w6, w7, w8, q', w9, w10, w11⟩ := hL
      unfold NFm at w11
      rw [if_neg h0] at w11
      obtain ⟨v1, v2, v3, v4, v5, v6⟩ := w11
      have k6 : kpA (newA A h h5) h5 (newA A h h5) h6 := kp_lo ok5 (fun x _ y => n3 x (by omega) (by omega) (by omega) (by omega) (by omega))
      have kA := kpA_tr k6 kF
      have qF := kA q5 _ qv2 qv3
      exact NMT_give hN (kpA_tr k3 (kpA_tr k5 kA)) (RXX_LF w1 (by omega)) (hnmT h0) (by omega) ⟨u, gv_k kA hgv, w10⟩ ⟨qv1, qF.1, qF.2⟩ (NS_e hS6 (fx 4 (by decide)) (fx 5 (by decide)) (fx 6 (by decide)) (fx 7 (by decide)) (fx 8 (by decide))) v1 v2 v3 v4 v5 v6
end lines
