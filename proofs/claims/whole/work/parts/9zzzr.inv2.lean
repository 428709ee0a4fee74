/-! reading: which names are functions -/
theorem nmR_run {bf : Nat → Int} {ln p : Nat} (hp : p < ln) (hl : isLtI (bf p)) : nmR (ckI bf p (rnL ltB bf ln 8 p)) (rkI bf p (rnL ltB bf ln 8 p)) := by
  refine ⟨bf, p, rnL ltB bf ln 8 p, ?_, (rnL_le 8 p).1, fun k hk => of_decide_eq_true (rnL_run (P := ltB) (f := bf) (ln := ln) 8 p (p + k) (by omega) (by omega)).2, rfl, rfl⟩
  show 1 ≤ (if p < ln ∧ ltB (bf p) = true then rnL ltB bf ln 7 (p + 1) + 1 else 0)
  rw [if_pos ⟨hp, decide_eq_true hl⟩]; omega
theorem nmR_rr {c r : Int} (h : nmR c r) : 97 ≤ r ∧ r < 9223372036854775808 := by
  obtain ⟨f, i, n, h1, h8, h3, -, e⟩ := h
  rw [e]
  exact rk_r8 h1 h8 h3
section fns
variable {P : Nat → Nat → Prop} {m : Nat} {jf J : Nat → Int64} {of : Nat → Option Nat} {Y : Nat → Int} {c r : Int} {bf : Nat → Int} {ln : Nat} {fn : Int → Bool}
theorem fn_R (hT : TBL P m jf of J Y) (h : nmR c r) : fndK jf m (Int64.ofInt c) < m ↔ 0 ≤ fndR J m (Int64.ofInt r) := by
  have e := TBL_fnd hT h
  have z := fndR_c J m (Int64.ofInt r)
  rw [e]
  omega
theorem FNp_0 {u : RS} (hT : TBL P m jf of (u.2.2.2 20) Y) (hfn : ∀ k, fn k = decide (fndK jf m (Int64.ofInt k) < m)) (h42 : u.2.1 42 = Int64.ofInt 0) : FNp bf ln fn u m := fun p hp hl => by
  have hn := nmR_run hp hl
  have hr := nmR_rr hn
  rw [hfn, decide_eq_true_iff, fn_R hT hn]
  unfold fnR
  constructor
  · exact Or.inr
  · intro z
    rcases z with z | z
    · exfalso
      rw [h42] at z
      have z2 := congrArg Int64.toInt z
      rw [n_toL (by omega) (by omega), n_toL (by omega) (by omega)] at z2
      omega
    · exact z
theorem FNp_1 {u : RS} {c0 r0 : Int} {G : Int → Bool} (hT : TBL P m jf of (u.2.2.2 20) Y) (hfn : ∀ k, fn k = decide (fndK jf m (Int64.ofInt k) < m)) (h0 : nmR c0 r0) (h42 : u.2.1 42 = Int64.ofInt r0) (hG : ∀ k, G k = true ↔ (fn k = true ∨ c0 = k)) : FNp bf ln G u m := fun p hp hl => by
  have hn := nmR_run hp hl
  rw [hG, hfn, decide_eq_true_iff, fn_R hT hn]
  unfold fnR
  rw [h42]
  have i1 := nmR_iff h0 hn
  have i2 := nmR_64 h0 hn
  constructor
  · rintro (z | z)
    · exact Or.inr z
    · exact Or.inl ((i1.trans i2).mp z).symm
  · rintro (z | z)
    · exact Or.inr ((i1.trans i2).mpr z.symm)
    · exact Or.inl z
theorem tkG_lo {j : Nat} (hj : j ≤ 2) : tkG bf ln fn j = fn := funext fun k => by
  unfold tkG
  rw [decide_eq_false (show ¬ 3 ≤ j by omega), Bool.false_and, Bool.or_false]
theorem tkG_I {i : Nat} (hi : i ≤ 2) : tkI bf ln (tkG bf ln fn) i = tkI bf ln (fun _ => fn) i := by
  have q : ∀ j, j ≤ 2 → tkQ bf ln (tkG bf ln fn) j = tkQ bf ln (fun _ => fn) j := by
    intro j
    induction j with
    | zero => intro _; rfl
    | succ j ih =>
      intro hj
      show tkN (tkQ bf ln (tkG bf ln fn) j) (tkA bf ln (tkG bf ln fn j) (tkQ bf ln (tkG bf ln fn) j)) = tkN (tkQ bf ln (fun _ => fn) j) (tkA bf ln fn (tkQ bf ln (fun _ => fn) j))
      rw [ih (by omega), tkG_lo (by omega)]
  unfold tkI
  rw [q i hi, tkG_lo hi]
/-- what r_read_ wants to know of the names -/
theorem FN_all {s : RS} {T : Nat → Tok} (hT : TBL P m jf of (s.2.2.2 20) Y) (hfn : ∀ k, fn k = decide (fndK jf m (Int64.ofInt k) < m)) (eT : T = tkI bf ln (tkG bf ln fn)) : (∀ j, j ≤ 2 → FNp bf ln (tkG bf ln fn j) (beS (li0 s)) m) ∧ (liS T ≠ 2 → ∀ j, FNp bf ln (tkG bf ln fn j) (beS (li0 s)) m) ∧ (liS T = 2 → ¬ liW T → ∀ j, 3 ≤ j → FNp bf ln (tkG bf ln fn j) (teS (li0 s) (Int64.ofInt (tqR (T 0)))) m) := by
  have e0 : tkI bf ln (fun _ => fn) 0 = T 0 := by rw [eT]; exact (tkG_I (by omega)).symm
  have e1 : tkI bf ln (fun _ => fn) 1 = T 1 := by rw [eT]; exact (tkG_I (by omega)).symm
  have e2 : tkI bf ln (fun _ => fn) 2 = T 2 := by rw [eT]; exact (tkG_I (by omega)).symm
  have hG : ∀ j k, tkG bf ln fn j k = (fn k || (decide (3 ≤ j) && tlK (T 0) (T 1) (T 2) k)) := fun j k => by
    unfold tkG
    rw [e0, e1, e2]
  have b0 : ∀ {G : Int → Bool}, G = fn → FNp bf ln G (beS (li0 s)) m := fun e => by
    rw [e]
    exact FNp_0 (u := beS (li0 s)) hT hfn (by show va_up (li0 s).2.1 42 (Int64.ofInt 0) 42 = _; rw [up_eq])
  refine ⟨fun j hj => b0 (tkG_lo hj), fun h2 j => b0 (funext fun k => ?_), fun h2 hw j hj => ?_⟩
  · rw [hG]
    have : tlK (T 0) (T 1) (T 2) k = false := by
      unfold tlK
      refine decide_eq_false (fun z => h2 ?_)
      unfold liS
      rw [if_pos z.1, if_pos (show isMk T 1 58 from z.2.2.1), if_pos (show isMk T 2 123 from z.2.2.2.1)]
    rw [this, Bool.and_false, Bool.or_false]
  · have hn0 : tqS (T 0) = 3 ∨ tqS (T 0) = 4 := liS_n0 (by omega)
    have hnm : nmR (tqD (T 0)) (tqR (T 0)) := by
      rw [eT] at hn0 ⊢
      exact tkI_nm hn0
    have hown : ¬ (tqD (T 0) = 24 ∨ tqD (T 0) = 25) := fun z => hw ⟨by omega, Or.inl z⟩
    have hm1 : isMk T 1 58 := by
      refine Classical.byContradiction fun z => ?_
      unfold liS at h2
      rw [if_pos hn0, if_neg z] at h2
      split at h2 <;> omega
    have hm2 : isMk T 2 123 := by
      refine Classical.byContradiction fun z => ?_
      unfold liS at h2
      rw [if_pos hn0, if_pos hm1, if_neg z] at h2
      omega
    refine FNp_1 (u := teS (li0 s) (Int64.ofInt (tqR (T 0)))) hT hfn hnm (by show va_up (li0 s).2.1 42 (Int64.ofInt (tqR (T 0))) 42 = _; rw [up_eq]) (fun k => ?_)
    rw [hG, decide_eq_true hj, Bool.true_and, Bool.or_eq_true]
    refine or_congr Iff.rfl ?_
    unfold tlK
    rw [decide_eq_true_iff]
    constructor
    · exact fun z => z.2.1
    · exact fun z => ⟨hn0, z, hm1, hm2, fun y => hown (Or.inl (z.trans y)), fun y => hown (Or.inr (z.trans y))⟩
end fns
/-! the state of both sides -/
/-- the class's cells -/
def ICL (A : Nat → Prop) (h : mj_H) (fd W qr qp : Nat) (le lp lw : Int) (bf : Nat → Int) (pm : Nat) (pf : Nat → Int) (g : Nat → Option Nat) : Prop := h[2]? = some (acC (fd : Int) qr qp le lp lw) ∧ MH A h ∧ (∃ (mk ln : Nat) (le_ : Int) (gd : Bool) (sf pf' : Nat → Int) (df : Nat → Int64), TK h mk le_ ln gd sf pf' bf df ∧ ∀ j, 0 ≤ sf j ∧ sf j ≤ 7) ∧ (∃ (at_ wr ls : Int) (nm : Int64) (st tl : Value), h[13]? = some (rdC at_ wr ls nm st tl)) ∧ (∃ (tp dp ca ou er pl lv : Int) (nw vx vy dg lf rt : Value), h[16]? = some (mcC tp dp ca ou (W : Int) er pl nw vx vy dg lv lf rt)) ∧ (∃ sf, h[32]? = some (cA 4 8192 sf)) ∧ (h[98]? = some (cO 6 [.ref 100, .ref 99, ii (pm : Int)]) ∧ (∃ dg, h[99]? = some (cB 20 dg)) ∧ h[100]? = some (cB 400 pf)) ∧ h[15]? = some (cA 6 4 g)
/-- the reference's fields -/
def IRF (s : RS) (fd W : Nat) (le lp lw : Int) (bf : Nat → Int) (pm : Nat) (pf : Nat → Int) : Prop := (s.1 33 = (fd : Int) ∧ s.1 8 = (W : Int) ∧ s.1 5 = le ∧ s.1 6 = lp ∧ s.1 7 = lw) ∧ (∀ j : Nat, -128 ≤ s.2.2.1 32 j ∧ s.2.2.1 32 j ≤ 127) ∧ (∀ j : Nat, s.2.2.1 32 j % 256 = bf j) ∧ (s.1 18 = (pm : Int) ∧ pm ≤ 400) ∧ (∀ j, j < pm → s.2.2.1 16 j = pf j)
/-- result and what is pointed at -/
def IVL (A : Nat → Prop) (h : mj_H) (s : RS) (qr qp pr pp : Nat) (v w : VV) : Prop := (s.1 30 = (pr : Int) ∧ s.1 31 = (pp : Int)) ∧ gv A h qr v ∧ gr s pr v ∧ cv A h 7 qp w ∧ rv s 7 pp w
/-- what is kept at k, at the cells from o on -/
def KPT (A : Nat → Prop) (h : mj_H) (s : RS) (k o : Nat) : Prop := (127 ≤ o ∧ o + 5 ≤ h.length) ∧ (∀ i, i < 5 → ¬ A (o + i)) ∧ ∃ n m kf jf vf of, NMT A h s o (o + 1) (o + 2) (o + 3) (o + 4) (s.2.2.1 27 k) (s.2.2.1 28 k) (fun j => s.2.2.2 25 (80 * k + j)) (fun j => s.2.2.2 25 (80 * k + 40 + j)) (fun j => s.2.2.1 26 (80 * k + j)) (fun j => s.2.2.1 26 (80 * k + 40 + j)) n m kf jf vf of
def KEP (A : Nat → Prop) (h : mj_H) (s : RS) (g : Nat → Option Nat) : Prop := ∃ ob : Nat → Nat, (∀ k, k < 4 → (g k = none ∧ s.2.2.1 29 k = 0) ∨ (g k = some (ob k) ∧ s.2.2.1 29 k = 1 ∧ KPT A h s k (ob k))) ∧ ∀ k k', k < 4 → k' < 4 → k ≠ k' → g k ≠ none → g k' ≠ none → ob k + 5 ≤ ob k' ∨ ob k' + 5 ≤ ob k
/-- the room that is left for r calls -/
def ROOM (h : mj_H) (s : RS) (fd W r : Nat) : Prop := 7 * h.length + 6 * W + 60 * fd + 1200 * r ≤ 4200000 ∧ mj_sl h + 8 * W + 100 * fd + 2000 * r ≤ 7302000 ∧ (0 ≤ s.1 3 ∧ s.1 3 + (W : Int) + (fd : Int) + 20 * (r : Int) ≤ 528000) ∧ (3 ≤ s.1 4 ∧ 10 * s.1 4 + 6 * (W : Int) + 5 * (fd : Int) + 105 * (r : Int) ≤ 3062000) ∧ (0 ≤ s.1 50 ∧ s.1 50 + 2 * (fd : Int) + 40 * (r : Int) ≤ 82000)
def INV (r : Nat) (h : mj_H) : Prop := ∃ (A : Nat → Prop) (pre post : mj_H) (s : RS) (fd W qr qp pr pp pm n m : Nat) (le lp lw : Int) (bf pf : Nat → Int) (v w : VV) (g vf of : Nat → Option Nat) (kf jf : Nat → Int64), (h = rS pre post s ∧ pre.length = 102) ∧ (fd ≤ 200 ∧ (fd = 0 ∨ 20 ≤ fd) ∧ W ≤ 500000) ∧ ICL A h fd W qr qp le lp lw bf pm pf g ∧ IRF s fd W le lp lw bf pm pf ∧ IVL A h s qr qp pr pp v w ∧ NMT A h s 4 5 6 7 8 (s.1 23) (s.1 24) (s.2.2.2 19) (s.2.2.2 20) (s.2.2.1 21) (s.2.2.1 22) n m kf jf vf of ∧ KEP A h s g ∧ ROOM h s fd W r
theorem INV_dn {r : Nat} {h : mj_H} (hI : INV (r + 1) h) : INV r h := by
  obtain ⟨A, pre, post, s, fd, W, qr, qp, pr, pp, pm, n, m, le, lp, lw, bf, pf, v, w, g, vf, of, kf, jf, a1, a2, a3, a4, a5, a6, a7, b1, b2, b3, b4, b5⟩ := hI
  exact ⟨A, pre, post, s, fd, W, qr, qp, pr, pp, pm, n, m, le, lp, lw, bf, pf, v, w, g, vf, of, kf, jf, a1, a2, a3, a4, a5, a6, a7, by omega, by omega, by omega, by omega, by omega⟩
/-- both answer the same, and the state is kept -/
def STEP (xt : mj_X) (d kc kr : Nat) (As : List Value) (r : Nat) (h : mj_H) (z : Value) : Prop := pgV xt d kc (.ref 2 :: As) h (fun y h1 => y = z ∧ pgV xt d kr (.ref 102 :: As) h1 (fun y2 h2 => y2 = z ∧ INV r h2) ∧ ∃ c, h1[102]? = some (cO 12 c))
/-! changes of the heap -/
section frs
variable {pre post h h' h1 : mj_H} {s t : RS} {A A' : Nat → Prop}
theorem app3 {C : mj_H} {x : Nat} (hm : pre.length = 102) (hC : C.length = 25) (hx : 127 ≤ x) : (pre ++ (C ++ post))[x]? = post[x - 127]? := by
  rw [List.getElem?_append_right (by omega), List.getElem?_append_right (by omega), hm, hC, show x - 102 - 25 = x - 127 by omega]
theorem rS_fr (hm : pre.length = 102) {x : Nat} (hx : x < 102 ∨ 127 ≤ x) : (rS pre post t)[x]? = (rS pre post s)[x]? := by
  by_cases z : x < 102
  · exact (List.getElem?_append_left (by omega)).trans (List.getElem?_append_left (by omega)).symm
  · exact (app3 hm rfl (by omega)).trans (app3 hm rfl (by omega)).symm
theorem rS_len : (rS pre post s).length = pre.length + (25 + post.length) := by
  show (pre ++ (rC _ _ _ _ _ ++ post)).length = _
  rw [List.length_append, List.length_append]
  rfl
theorem rC_sl {i : Nat → Int32} {l : Nat → Int64} {I : Nat → Nat → Int32} {J : Nat → Nat → Int64} {i' : Nat → Int32} {l' : Nat → Int64} {I' : Nat → Nat → Int32} {J' : Nat → Nat → Int64} : mj_sl (rC 102 i l I J) = mj_sl (rC 102 i' l' I' J') := rfl
theorem rS_sl : mj_sl (rS pre post t) = mj_sl (rS pre post s) := by
  show mj_sl (pre ++ (rC _ _ _ _ _ ++ post)) = mj_sl (pre ++ (rC _ _ _ _ _ ++ post))
  rw [sl_app, sl_app, sl_app, sl_app]
  exact congrArg (fun z => mj_sl pre + (z + mj_sl post)) rC_sl
theorem rS_102 (hm : pre.length = 102) : ∃ c, (rS pre post s)[102]? = some (cO 12 c) := by
  refine ⟨rF 102 (fun k => Int32.ofInt (s.1 k)) s.2.1, ?_⟩
  show (pre ++ (rC _ _ _ _ _ ++ post))[102]? = _
  rw [List.getElem?_append_right (by omega), hm]
  rfl
theorem rS_split (hm : pre.length = 102) (hl : 127 ≤ h1.length) (hx : ∀ x, 102 ≤ x → x < 127 → h1[x]? = (rS pre post s)[x]?) : ∃ pre1 post1, pre1.length = 102 ∧ h1 = rS pre1 post1 s := by
  refine ⟨h1.take 102, h1.drop 127, by rw [List.length_take]; omega, ?_⟩
  have hm1 : (h1.take 102).length = 102 := by rw [List.length_take]; omega
  have hR : ∀ (p q : mj_H), p.length = 102 → ∀ x, 102 ≤ x → x < 127 → (rS p q s)[x]? = (rC 102 (fun k => Int32.ofInt (s.1 k)) s.2.1 (fun k j => Int32.ofInt (s.2.2.1 k j)) s.2.2.2)[x - 102]? := fun p q hp x h1 h2 => by
    show (p ++ (rC _ _ _ _ _ ++ q))[x]? = _
    rw [List.getElem?_append_right (by omega), List.getElem?_append_left (by show _ < 25; omega), hp]
  apply List.ext_getElem?
  intro x
  by_cases z : x < 102
  · show h1[x]? = (h1.take 102 ++ (rC _ _ _ _ _ ++ h1.drop 127))[x]?
    rw [List.getElem?_append_left (by omega), List.getElem?_take, if_pos z]
  · by_cases y : x < 127
    · rw [hx x (by omega) y, hR _ _ hm x (by omega) y, hR _ _ hm1 x (by omega) y]
    · show h1[x]? = (h1.take 102 ++ (rC _ _ _ _ _ ++ h1.drop 127))[x]?
      rw [app3 hm1 rfl (by omega), List.getElem?_drop, show 127 + (x - 127) = x by omega]
theorem MH_e (hl : h.length ≤ h'.length) (hx : ∀ x, (17 ≤ x ∧ x ≤ 97) ∨ x = 101 → h'[x]? = h[x]?) (hk : kpA A h A' h') (hA : okA A' h') (hM : MH A h) : MH A' h' := by
  obtain ⟨m1, m2, m3, ⟨⟨ff, f1, f2⟩, f3⟩, m5, c, m6⟩ := hM
  refine ⟨by omega, hA, ?_, ⟨⟨ff, by rw [hx 33 (by omega)]; exact f1, f2⟩, fun i hi => by rw [hx (34 + i) (by omega)]; exact f3 i hi⟩, cv_keep hk m5, c, by rw [hx 101 (by omega)]; exact m6⟩
  unfold actH at m3 ⊢
  rw [hx 17 (by omega), hx 18 (by omega), hx 19 (by omega), hx 20 (by omega), hx 21 (by omega), hx 22 (by omega), hx 23 (by omega), hx 24 (by omega), hx 26 (by omega), hx 27 (by omega), hx 28 (by omega), hx 29 (by omega), hx 30 (by omega), hx 31 (by omega)]
  exact m3
theorem ICL_e {fd W qr qp pm : Nat} {le lp lw : Int} {bf pf : Nat → Int} {g : Nat → Option Nat} (hM : MH A' h') (hx : ∀ x, x < 102 → ¬ (4 ≤ x ∧ x ≤ 8) → h'[x]? = h[x]?) (hC : ICL A h fd W qr qp le lp lw bf pm pf g) : ICL A' h' fd W qr qp le lp lw bf pm pf g := by
  obtain ⟨c1, -, ⟨mk, ln, le_, gd, sf, pf', df, ⟨t1, t2, t3, t4, t5, t6, t7⟩, c3⟩, c4, c5, c6, ⟨c7, c8, c9⟩, c10⟩ := hC
  refine ⟨by rw [hx 2 (by omega) (by omega)]; exact c1, hM, ⟨mk, ln, le_, gd, sf, pf', df, ⟨by rw [hx 9 (by omega) (by omega)]; exact t1, by rw [hx 10 (by omega) (by omega)]; exact t2, by rw [hx 11 (by omega) (by omega)]; exact t3, by rw [hx 12 (by omega) (by omega)]; exact t4, by rw [hx 3 (by omega) (by omega)]; exact t5, t6, t7⟩, c3⟩, by rw [hx 13 (by omega) (by omega)]; exact c4, by rw [hx 16 (by omega) (by omega)]; exact c5, by rw [hx 32 (by omega) (by omega)]; exact c6, ⟨by rw [hx 98 (by omega) (by omega)]; exact c7, by rw [hx 99 (by omega) (by omega)]; exact c8, by rw [hx 100 (by omega) (by omega)]; exact c9⟩, by rw [hx 15 (by omega) (by omega)]; exact c10⟩
theorem NS_e {o a1 a2 a3 a4 n m : Nat} {kf jf : Nat → Int64} {vf of : Nat → Option Nat} (hS : NS h o a1 a2 a3 a4 n kf vf m jf of) (h1 : h'[o]? = h[o]?) (h2 : h'[a1]? = h[a1]?) (h3 : h'[a2]? = h[a2]?) (h4 : h'[a3]? = h[a3]?) (h5 : h'[a4]? = h[a4]?) : NS h' o a1 a2 a3 a4 n kf vf m jf of := by
  unfold NS at hS ⊢
  rw [h1, h2, h3, h4, h5]
  exact hS
theorem KPT_k2 {k o : Nat} (hl : h.length ≤ h'.length) (hx : ∀ x, 127 ≤ x → x < h.length → (o ≤ x → x < o + 5 → h'[x]? = h[x]?)) (hk : kpA A h A' h') (hA : ∀ a, A' a → A a ∨ h.length ≤ a) (hR : RXX s t) (e25 : ∀ j, 80 * k ≤ j → j < 80 * k + 80 → t.2.2.2 25 j = s.2.2.2 25 j) (e26 : ∀ j, 80 * k ≤ j → j < 80 * k + 80 → t.2.2.1 26 j = s.2.2.1 26 j) (e27 : t.2.2.1 27 k = s.2.2.1 27 k) (e28 : t.2.2.1 28 k = s.2.2.1 28 k) (hK : KPT A h s k o) : KPT A' h' t k o := by
  obtain ⟨⟨k1, k2⟩, k3, n, m, kf, jf, vf, of, hN⟩ := hK
  have hc : ∀ i, i < 5 → h'[o + i]? = h[o + i]? := fun i hi => hx (o + i) (by omega) (by omega) (by omega) (by omega)
  refine ⟨⟨k1, by omega⟩, fun i hi z => ?_, n, m, kf, jf, vf, of, NMT_k2 hN hk hR (NS_e hN.1 (hc 0 (by omega)) (hc 1 (by omega)) (hc 2 (by omega)) (hc 3 (by omega)) (hc 4 (by omega))) e27 e28 (fun j hj => e25 _ (by omega) (by omega)) (fun j hj => e25 _ (by omega) (by omega)) (fun j hj => e26 _ (by omega) (by omega)) (fun j hj => e26 _ (by omega) (by omega)) (fun _ _ => rfl) (fun _ _ => rfl) (fun _ _ => rfl) (fun _ _ => rfl)⟩
  rcases hA _ z with y | y
  · exact k3 i hi y
  · omega
theorem KPT_k {k o : Nat} (hl : h.length ≤ h'.length) (hx : ∀ x, 127 ≤ x → x < h.length → (o ≤ x → x < o + 5 → h'[x]? = h[x]?)) (hk : kpA A h A' h') (hA : ∀ a, A' a → A a ∨ h.length ≤ a) (hR : RXX s t) (e25 : t.2.2.2 25 = s.2.2.2 25) (e26 : t.2.2.1 26 = s.2.2.1 26) (e27 : t.2.2.1 27 k = s.2.2.1 27 k) (e28 : t.2.2.1 28 k = s.2.2.1 28 k) (hK : KPT A h s k o) : KPT A' h' t k o :=
  KPT_k2 hl hx hk hA hR (fun _ _ _ => by rw [e25]) (fun _ _ _ => by rw [e26]) e27 e28 hK
theorem KEP_k {g : Nat → Option Nat} (hl : h.length ≤ h'.length) (hx : ∀ x, 127 ≤ x → x < h.length → h'[x]? = h[x]?) (hk : kpA A h A' h') (hA : ∀ a, A' a → A a ∨ h.length ≤ a) (hR : RXX s t) (e25 : t.2.2.2 25 = s.2.2.2 25) (e26 : t.2.2.1 26 = s.2.2.1 26) (e27 : t.2.2.1 27 = s.2.2.1 27) (e28 : t.2.2.1 28 = s.2.2.1 28) (e29 : t.2.2.1 29 = s.2.2.1 29) (hK : KEP A h s g) : KEP A' h' t g := by
  obtain ⟨ob, k1, k2⟩ := hK
  refine ⟨ob, fun k hk4 => ?_, k2⟩
  rw [e29]
  rcases k1 k hk4 with z | ⟨z1, z2, z3⟩
  · exact Or.inl z
  · exact Or.inr ⟨z1, z2, KPT_k hl (fun x q1 q2 _ _ => hx x q1 q2) hk hA hR e25 e26 (by rw [e27]) (by rw [e28]) z3⟩
/-- values that stand in the same arrays -/
theorem rv_f (h3 : t.1 3 = s.1 3) (h4 : t.1 4 = s.1 4) (h1 : t.2.2.1 1 = s.2.2.1 1) (h2 : t.2.2.1 2 = s.2.2.1 2) (h0 : t.2.2.2 0 = s.2.2.2 0) : ∀ {d q : Nat} {v : VV}, rv s d q v → rv t d q v := by
  intro d
  induction d with
  | zero => intro q v hv; exact hv
  | succ d ih =>
    intro q v hv
    obtain ⟨a1, a2, a3, fr, a4, a5, a6, a7⟩ := hv
    refine ⟨a1, by omega, by rw [h2]; exact a3, fr, by rw [h1]; exact a4, by omega, fun z k hk => by rw [h0]; exact a6 z k hk, fun z k hk => ?_⟩
    obtain ⟨q, b1, b2, b3⟩ := a7 z k hk
    exact ⟨q, b1, by rw [h0]; exact b2, ih b3⟩
end frs
