/-! the reference's doing: what is made is taken in -/
/-- the place of the outermost call, as the reference has it -/
def cpS (s : RS) : Option Int := if 0 < s.1 10 then some (s.1 11) else none
theorem cpS_pl (s : RS) (pl : Int) : (if 0 < s.1 10 then s.1 11 else pl) = dPl (cpS s) pl := by
  unfold cpS
  by_cases z : 0 < s.1 10
  · rw [if_pos z, if_pos z]; rfl
  · rw [if_neg z, if_neg z]; rfl
/-- what else may have changed -/
def dfr (s t : RS) : Prop := (∀ k, k ≠ 3 → k ≠ 4 → k ≠ 5 → k ≠ 6 → k ≠ 7 → k ≠ 8 → k ≠ 9 → k ≠ 11 → k ≠ 13 → k ≠ 17 → t.1 k = s.1 k) ∧ (0 < s.1 10 → t.1 11 = s.1 11) ∧ t.2.1 = s.2.1 ∧ (∀ k, k ≠ 1 → k ≠ 2 → k ≠ 12 → k ≠ 14 → k ≠ 15 → t.2.2.1 k = s.2.2.1 k) ∧ (∀ k, k ≠ 0 → t.2.2.2 k = s.2.2.2 k) ∧ (∀ j : Nat, (j : Int) < s.1 13 → t.2.2.1 12 j = s.2.2.1 12 j)
theorem dfr_rf (s : RS) : dfr s s := ⟨fun _ _ _ _ _ _ _ _ _ _ _ => rfl, fun _ => rfl, rfl, fun _ _ _ _ _ _ => rfl, fun _ _ => rfl, fun _ _ => rfl⟩
theorem dfr_tr {s t u : RS} (a : dfr s t) (b : dfr t u) (hw : s.1 13 ≤ t.1 13) : dfr s u := by
  obtain ⟨a1, a2, a3, a4, a5, a6⟩ := a
  obtain ⟨b1, b2, b3, b4, b5, b6⟩ := b
  have e10 : t.1 10 = s.1 10 := a1 10 (by decide) (by decide) (by decide) (by decide) (by decide) (by decide) (by decide) (by decide) (by decide) (by decide)
  refine ⟨fun k c3 c4 c5 c6 c7 c8 c9 c11 c13 c17 => (b1 k c3 c4 c5 c6 c7 c8 c9 c11 c13 c17).trans (a1 k c3 c4 c5 c6 c7 c8 c9 c11 c13 c17), fun z => (b2 (by omega)).trans (a2 z), b3.trans a3, fun k c1 c2 c12 c14 c15 => (b4 k c1 c2 c12 c14 c15).trans (a4 k c1 c2 c12 c14 c15), fun k c => (b5 k c).trans (a5 k c), fun j hj => (b6 j (by omega)).trans (a6 j hj)⟩
theorem dfr_r {s t : RS} (a : rfr s t) : dfr s t := ⟨fun k c3 c4 c5 c6 _ _ _ _ _ c17 => a.1 k c3 c4 c5 c6 c17, fun _ => a.1 11 (by decide) (by decide) (by decide) (by decide) (by decide), a.2.1, a.2.2.1, a.2.2.2.1, a.2.2.2.2⟩
theorem cpS_d {s t : RS} (a : dfr s t) : cpS t = cpS s := by
  have e10 : t.1 10 = s.1 10 := a.1 10 (by decide) (by decide) (by decide) (by decide) (by decide) (by decide) (by decide) (by decide) (by decide) (by decide)
  unfold cpS
  rw [e10]
  by_cases z : 0 < s.1 10
  · rw [if_pos z, if_pos z, a.2.1 z]
  · rw [if_neg z, if_neg z]
/-- a value as it may be handed on -/
abbrev gr (s : RS) (q : Nat) (v : VV) : Prop := 3 ≤ q ∧ rv s 7 q v ∧ vsz 7 v ≤ 1000 ∧ vlv 7 v ≤ 5
/-- what doing leaves: WORK W before it; c: how much less the values are worth than the WORK -/
def dres (pre post : mj_H) (s : RS) (W : Nat) (c nd : Int) (r : DR) (x : Value) (h' : mj_H) : Prop := ∃ t, h' = rS pre post t ∧ rext s t ∧ dfr s t ∧ t.1 8 = (r.1 : Int) ∧ t.1 7 + (r.1 : Int) = s.1 7 + (W : Int) ∧ (match r.2 with
  | .inl z => (∃ y : Int, x = ii y ∧ -1 ≤ y ∧ y ≤ 310000) ∧ t.1 5 = (z.1 : Int) ∧ t.1 6 = z.2 ∧ (1 ≤ z.1 ∧ z.1 ≤ 100) ∧ (s.1 13 ≤ t.1 13 ∧ t.1 13 ≤ s.1 13 + nd) ∧ t.1 3 + (r.1 : Int) ≤ s.1 3 + (W : Int) + 291000 ∧ 5 * t.1 4 + 3 * (r.1 : Int) ≤ 5 * s.1 4 + 3 * (W : Int) + 12000
  | .inr v => t.1 5 = 0 ∧ t.1 6 = s.1 6 ∧ t.1 13 = s.1 13 ∧ t.1 3 + (r.1 : Int) ≤ s.1 3 + (W : Int) ∧ 5 * t.1 4 + 3 * (r.1 : Int) + c ≤ 5 * s.1 4 + 3 * (W : Int) ∧ ∃ q : Nat, x = ii (q : Int) ∧ gr t q v)
theorem dres_ii {pre post : mj_H} {s : RS} {W : Nat} {c nd : Int} {r : DR} {x : Value} {h' : mj_H} (h : dres pre post s W c nd r x h') : ∃ z : Int, x = ii z := by
  obtain ⟨t, -, -, -, -, -, h⟩ := h
  obtain ⟨W', e | v⟩ := r
  · obtain ⟨⟨y, hy, -⟩, -⟩ := h; exact ⟨y, hy⟩
  · obtain ⟨-, -, -, -, -, q, hq, -⟩ := h; exact ⟨_, hq⟩
theorem dres_st {pre post : mj_H} {s : RS} {W : Nat} {c nd : Int} {r : DR} {x : Value} {h' : mj_H} (h : dres pre post s W c nd r x h') : ∃ t, h' = rS pre post t := ⟨h.choose, h.choose_spec.1⟩
/-- an act's answer, bounds as told -/
def rG (pre post : mj_H) (s : RS) (e : Nat) (o : Nat ⊕ VV) (place : Int) (C V : Nat) (x : Value) (h' : mj_H) : Prop := ∃ s1, h' = rS pre post s1 ∧ rext s s1 ∧ rfr s s1 ∧ s1.1 3 ≤ s.1 3 + (C : Int) ∧ s1.1 4 ≤ s.1 4 + (V : Int) ∧ (match o with
  | .inl n => (∃ z : Int, x = ii z ∧ -1 ≤ z ∧ z ≤ 310000) ∧ s1.1 5 = (n : Int) ∧ s1.1 6 = (if 0 < s.1 10 then s.1 11 else place)
  | .inr w => s1.1 5 = 0 ∧ s1.1 6 = s.1 6 ∧ ∃ q : Nat, 3 ≤ q ∧ x = ii (q : Int) ∧ rv s1 e q w)
section rGs
variable {pre post : mj_H} {s : RS} {e cb vb : Nat} {o : Nat ⊕ VV} {place : Int} {x : Value} {h' : mj_H}
theorem rG_E (h : rresE pre post s e o place cb vb x h') : rG pre post s e o place (rcb o cb) (rvb o vb) x h' := h
theorem rG_r (h : rres pre post s e o place cb vb x h') : rG pre post s e o place (rcb o cb) (rvb o vb) x h' := rG_E (rresE_of h)
theorem rG_P (h : rresP pre post s e o place cb vb x h') : rG pre post s e o place cb vb x h' := by
  obtain ⟨s1, a1, a2, a3, a4, a5, a6⟩ := h
  refine ⟨s1, a1, a2, a3, a4, a5, ?_⟩
  cases o with
  | inl n => exact ⟨⟨-1, a6.1, by decide, by decide⟩, a6.2⟩
  | inr w => exact a6
theorem rG_N (h : rresN pre post s e o place cb vb x h') : rG pre post s e o place cb vb x h' := by
  obtain ⟨s1, a1, a2, a3, a4, a5, a6⟩ := h
  refine ⟨s1, a1, a2, a3, a4, a5, ?_⟩
  cases o with
  | inl n => exact a6
  | inr w => obtain ⟨c1, c2, q, c3, c4, c5⟩ := a6; exact ⟨c1, c2, q, c3, c4, rvN_rv c5⟩
theorem rG_up (h : rG pre post s e o place cb vb x h') : rG pre post s (e + 1) o place cb vb x h' := by
  obtain ⟨s1, a1, a2, a3, a4, a5, a6⟩ := h
  refine ⟨s1, a1, a2, a3, a4, a5, ?_⟩
  cases o with
  | inl n => exact a6
  | inr w => obtain ⟨b1, b2, p, b3, b4, b5⟩ := a6; exact ⟨b1, b2, p, b3, b4, rv_up b5⟩
theorem rG_ii (h : rG pre post s e o place cb vb x h') : ∃ z : Int, x = ii z := by
  obtain ⟨t, -, -, -, -, -, h⟩ := h
  cases o with
  | inl n => obtain ⟨⟨y, hy, -⟩, -⟩ := h; exact ⟨y, hy⟩
  | inr v => obtain ⟨-, -, q, -, hq, -⟩ := h; exact ⟨_, hq⟩
theorem rG_st (h : rG pre post s e o place cb vb x h') : ∃ t, h' = rS pre post t := ⟨h.choose, h.choose_spec.1⟩
/-- nothing was made -/
theorem rG_0 {q : Nat} {w : VV} (he : s.1 5 = 0) (hq : 3 ≤ q) (hv : rv s e q w) : rG pre post s e (.inr w) place 0 0 (ii (q : Int)) (rS pre post s) := ⟨s, rfl, rext_rf s, rfr_rf s, by omega, by omega, he, rfl, q, hq, rfl, hv⟩
theorem rG_f {n : Nat} (he : s.1 5 = 0) : rG pre post s e (.inl n) place 0 0 (ii (-1)) (rS pre post (failS s (n : Int) place)) := rG_E (rresE_of (rres_fail (rpre_rf s) he))
end rGs
/-- WORK was taken, the price told -/
def tkd (s s2 : RS) (W2 cost : Nat) (p : Int) : Prop := rext s s2 ∧ dfr s s2 ∧ s2.1 3 = s.1 3 ∧ s2.1 4 = s.1 4 ∧ s2.1 5 = 0 ∧ s2.1 6 = s.1 6 ∧ s2.1 13 = s.1 13 ∧ s2.1 8 = (W2 : Int) ∧ s2.1 7 = s.1 7 + (cost : Int) ∧ s2.1 9 = p
/-- made: the error, or the value taken in -/
def dMo (cp : Option Int) (W p : Nat) (o : Nat ⊕ VV) (pl : Int) : DR := match o with
  | .inl e => dEr cp W e pl
  | .inr v => dMk cp W p v pl
theorem rext_fl {s t : RS} (h : rext s t) (c p : Int) : rext s (failS t c p) := ⟨h.1, h.2.1, h.2.2.1, h.2.2.2⟩
theorem dfr_fl {s t : RS} (h : dfr s t) (c p : Int) : dfr s (failS t c p) := by
  obtain ⟨a1, a2, a3, a4, a5, a6⟩ := h
  refine ⟨fun k c3 c4 c5 c6 c7 c8 c9 c11 c13 c17 => ?_, fun z => ?_, a3, a4, a5, a6⟩
  · show va_up (va_up t.1 5 c) 6 (if 0 < t.1 10 then t.1 11 else p) k = _
    rw [up_ne _ _ c6, up_ne _ _ c5]; exact a1 k c3 c4 c5 c6 c7 c8 c9 c11 c13 c17
  · show va_up (va_up t.1 5 c) 6 (if 0 < t.1 10 then t.1 11 else p) 11 = _
    rw [up_ne _ _ (by decide), up_ne _ _ (by decide)]; exact a2 z
theorem failS_k {t : RS} {c p : Int} {k : Nat} (h5 : k ≠ 5) (h6 : k ≠ 6) : (failS t c p).1 k = t.1 k := by
  show va_up (va_up t.1 5 c) 6 (if 0 < t.1 10 then t.1 11 else p) k = _
  rw [up_ne _ _ h6, up_ne _ _ h5]
theorem failS_5 {t : RS} {c p : Int} : (failS t c p).1 5 = c := by
  show va_up (va_up t.1 5 c) 6 (if 0 < t.1 10 then t.1 11 else p) 5 = _
  rw [up_ne _ _ (by decide), up_eq]
theorem failS_6 {t : RS} {c p : Int} : (failS t c p).1 6 = dPl (cpS t) p := by
  show va_up (va_up t.1 5 c) 6 (if 0 < t.1 10 then t.1 11 else p) 6 = _
  rw [up_eq, cpS_pl]
theorem takeS_k {t : RS} {n : Int} {k : Nat} (h5 : k ≠ 7) (h6 : k ≠ 8) : (takeS t n).1 k = t.1 k := by
  show va_up (va_up t.1 8 (t.1 8 - n)) 7 (t.1 7 + n) k = _
  rw [up_ne _ _ h5, up_ne _ _ h6]
theorem takeS_7 {t : RS} {n : Int} : (takeS t n).1 7 = t.1 7 + n := by
  show va_up (va_up t.1 8 (t.1 8 - n)) 7 (t.1 7 + n) 7 = _
  rw [up_eq]
theorem takeS_8 {t : RS} {n : Int} : (takeS t n).1 8 = t.1 8 - n := by
  show va_up (va_up t.1 8 (t.1 8 - n)) 7 (t.1 7 + n) 8 = _
  rw [up_ne _ _ (by decide), up_eq]
theorem rext_tk {s t : RS} (h : rext s t) (n : Int) : rext s (takeS t n) := ⟨h.1, h.2.1, h.2.2.1, h.2.2.2⟩
theorem dfr_tk {s t : RS} (h : dfr s t) (n : Int) : dfr s (takeS t n) := by
  obtain ⟨a1, a2, a3, a4, a5, a6⟩ := h
  refine ⟨fun k c3 c4 c5 c6 c7 c8 c9 c11 c13 c17 => ?_, fun z => ?_, a3, a4, a5, a6⟩
  · rw [takeS_k c7 c8]; exact a1 k c3 c4 c5 c6 c7 c8 c9 c11 c13 c17
  · rw [takeS_k (by decide) (by decide)]; exact a2 z
section mds
variable {xt : mj_X} {d : Nat} {pre post : mj_H} {s s2 : RS} {W2 cost p C V : Nat} {o : Nat ⊕ VV} {place c nd z : Int} {h1 : mj_H}
/-- an error at s -/
theorem dres_e {W W' e : Nat} {t : RS} {x : Value} {pl : Int} (hx : rext s t) (hf : dfr s t) (h8 : t.1 8 = (W' : Int)) (h7 : t.1 7 + (W' : Int) = s.1 7 + (W : Int)) (hy : ∃ y : Int, x = ii y ∧ -1 ≤ y ∧ y ≤ 310000) (h5 : t.1 5 = (e : Int)) (h6 : t.1 6 = dPl (cpS s) pl) (he : 1 ≤ e ∧ e ≤ 100) (hw : s.1 13 ≤ t.1 13 ∧ t.1 13 ≤ s.1 13 + nd) (h3 : t.1 3 + (W' : Int) ≤ s.1 3 + (W : Int) + 291000) (h4 : 5 * t.1 4 + 3 * (W' : Int) ≤ 5 * s.1 4 + 3 * (W : Int) + 12000) : dres pre post s W c nd (dEr (cpS s) W' e pl) x (rS pre post t) := ⟨t, rfl, hx, hf, h8, h7, hy, h5, h6, he, hw, h3, h4⟩
theorem r_mdo (hm : pre.length = 102) (hd1 : 40 ≤ d) (hT : tkd s s2 W2 cost (p : Int)) (hB : rB s) (hG : rG pre post s2 8 o place C V (ii z) h1) (hca : 0 ≤ s.1 10 ∧ s.1 10 ≤ 100) (hp : p ≤ 3) (hW2 : W2 ≤ 500000) (hnd : 0 ≤ nd) (hN : ∀ n, o = .inl n → 1 ≤ n ∧ n ≤ 100) (hSZ : ∀ v, o = .inr v → vsz 8 v ≤ 500000) (hC1 : C ≤ cost + 290000) (hV1 : 5 * V ≤ 3 * cost + 11000) (hrm : s.1 3 + (C : Int) ≤ 820000 ∧ s.1 4 + (V : Int) ≤ 310000) (hC : ∀ v, o = .inr v → vsz 7 v ≤ 1000 → vlv 7 v ≤ 5 → C ≤ cost + p + vsz 7 v ∧ 5 * (V : Int) + c ≤ 3 * ((cost + p + vsz 7 v : Nat) : Int)) : pgV xt d 246 [.ref 102, ii z, ii place] h1 (dres pre post s (W2 + cost) c nd (dMo (cpS s) W2 p o place)) := by
  obtain ⟨t1, rfl, x1, f1, c1, v1, ho⟩ := hG
  obtain ⟨T1, T2, T3, T4, T5, T6, T13, T8, T7, T9⟩ := hT
  have e10 : s2.1 10 = s.1 10 := T2.1 10 (by decide) (by decide) (by decide) (by decide) (by decide) (by decide) (by decide) (by decide) (by decide) (by decide)
  have g : ∀ k, k ≠ 3 → k ≠ 4 → k ≠ 5 → k ≠ 6 → k ≠ 17 → t1.1 k = s2.1 k := f1.1
  have g7 := g 7 (by decide) (by decide) (by decide) (by decide) (by decide)
  have g8 := g 8 (by decide) (by decide) (by decide) (by decide) (by decide)
  have g9 := g 9 (by decide) (by decide) (by decide) (by decide) (by decide)
  have g10 := g 10 (by decide) (by decide) (by decide) (by decide) (by decide)
  have g13 := g 13 (by decide) (by decide) (by decide) (by decide) (by decide)
  have hx : rext s t1 := rext_tr T1 x1
  have hf : dfr s t1 := dfr_tr T2 (dfr_r f1) (by omega)
  have hcp1 : cpS t1 = cpS s := cpS_d hf
  have hcp2 : cpS s2 = cpS s := cpS_d T2
  have hBt : rB t1 := ⟨by have := hx.1; have := hB.1; omega, by omega, by have := hx.2.1; have := hB.2.2.1; omega, by omega⟩
  cases o with
  | inl n =>
    obtain ⟨hz, h5, h6⟩ := ho
    have hn := hN n rfl
    refine x_imp (r_made_e hm (by omega) (by omega) (by omega)) (fun r h' ⟨x, hx9, hr⟩ => ?_)
    obtain ⟨rfl, rfl⟩ := hr
    rw [cpS_pl, hcp2] at h6
    exact ⟨_, hx9, dres_e hx hf (by omega) (by omega) ⟨-1, rfl, by omega, by omega⟩ h5 h6 hn (by omega) (by omega) (by omega)⟩
  | inr v =>
    obtain ⟨h5, h6, q, hq3, hzq, hv⟩ := ho
    rw [hzq]
    have hbi := big_iff v
    refine x_imp (r_made_ (e := 7) hm (by omega) (by omega) hBt hv h5 (by omega) (by omega) (by omega) (by omega) (hSZ v rfl) (by omega) (by omega)) (fun r h' ⟨x, hx9, hr⟩ => ?_)
    obtain ⟨rfl, rfl⟩ := hr
    refine ⟨_, hx9, ?_⟩
    show dres pre post s (W2 + cost) c nd (dMk (cpS s) W2 p v place) (ii (mdR t1 (vsz 8 v) (vlv 8 v) (q : Int))) (rS pre post (mdS t1 (vsz 8 v) (vlv 8 v) place))
    have err : ∀ e : Nat, 1 ≤ e ∧ e ≤ 100 → dres pre post s (W2 + cost) c nd (dEr (cpS s) W2 e place) (ii (-1)) (rS pre post (failS t1 (e : Int) place)) := fun e he => by
      have k3 := failS_k (t := t1) (c := (e : Int)) (p := place) (k := 3) (by decide) (by decide)
      have k4 := failS_k (t := t1) (c := (e : Int)) (p := place) (k := 4) (by decide) (by decide)
      have k7 := failS_k (t := t1) (c := (e : Int)) (p := place) (k := 7) (by decide) (by decide)
      have k8 := failS_k (t := t1) (c := (e : Int)) (p := place) (k := 8) (by decide) (by decide)
      have k13 := failS_k (t := t1) (c := (e : Int)) (p := place) (k := 13) (by decide) (by decide)
      exact dres_e (rext_fl hx _ _) (dfr_fl hf _ _) (by omega) (by omega) ⟨-1, rfl, by omega, by omega⟩ failS_5 (by rw [failS_6, hcp1]) he (by omega) (by omega) (by omega)
    by_cases hbg : 1000 < vsz 8 v ∨ 5 < vlv 8 v
    · have e1 : dMk (cpS s) W2 p v place = dEr (cpS s) W2 8 place := if_pos (hbi.mp hbg)
      have e2 : mdS t1 (vsz 8 v) (vlv 8 v) place = failS t1 8 place := if_pos hbg
      have e3 : mdR t1 (vsz 8 v) (vlv 8 v) (q : Int) = -1 := if_pos hbg
      rw [e1, e2, e3]
      exact err 8 (by omega)
    · have hse := small_eq hbg
      have e1 : dMk (cpS s) W2 p v place = dTk (cpS s) W2 (p + vS v) place (fun W => (W, .inr v)) := if_neg (fun z => hbg (hbi.mpr z))
      have e2 : mdS t1 (vsz 8 v) (vlv 8 v) place = tkS t1 (t1.1 9 + (vsz 8 v : Int)) place := if_neg hbg
      have e3 : mdR t1 (vsz 8 v) (vlv 8 v) (q : Int) = (if t1.1 8 < t1.1 9 + (vsz 8 v : Int) then -1 else (q : Int)) := if_neg hbg
      rw [e1, e2, e3]
      by_cases hw9 : t1.1 8 < t1.1 9 + (vsz 8 v : Int)
      · have e4 : dTk (cpS s) W2 (p + vS v) place (fun W => (W, .inr v)) = dEr (cpS s) W2 10 place := if_pos (by show W2 < p + vsz 7 v; omega)
        rw [if_pos hw9, tkS_f hw9, e4]
        exact err 10 (by omega)
      · have e4 : dTk (cpS s) W2 (p + vS v) place (fun W => (W, .inr v)) = (W2 - (p + vS v), .inr v) := if_neg (by show ¬ W2 < p + vsz 7 v; omega)
        rw [if_neg hw9, tkS_t (by omega), e4]
        have hvS : vS v = vsz 7 v := rfl
        have hC := hC v rfl (by omega) (by omega)
        have k3 := takeS_k (t := t1) (n := t1.1 9 + (vsz 8 v : Int)) (k := 3) (by decide) (by decide)
        have k4 := takeS_k (t := t1) (n := t1.1 9 + (vsz 8 v : Int)) (k := 4) (by decide) (by decide)
        have k5 := takeS_k (t := t1) (n := t1.1 9 + (vsz 8 v : Int)) (k := 5) (by decide) (by decide)
        have k6 := takeS_k (t := t1) (n := t1.1 9 + (vsz 8 v : Int)) (k := 6) (by decide) (by decide)
        have k13 := takeS_k (t := t1) (n := t1.1 9 + (vsz 8 v : Int)) (k := 13) (by decide) (by decide)
        have k7 := takeS_7 (t := t1) (n := t1.1 9 + (vsz 8 v : Int))
        have k8 := takeS_8 (t := t1) (n := t1.1 9 + (vsz 8 v : Int))
        have hlo := rv_low 7 8 q v hv (by omega)
        refine ⟨_, rfl, rext_tk hx _, dfr_tk hf _, ?_, ?_, ?_, ?_, ?_, ?_, ?_, q, rfl, hq3, ?_, by omega, by omega⟩
        · show (takeS t1 _).1 8 = ((W2 - (p + vS v) : Nat) : Int); omega
        · show (takeS t1 _).1 7 + ((W2 - (p + vS v) : Nat) : Int) = _; omega
        · omega
        · omega
        · omega
        · show (takeS t1 _).1 3 + ((W2 - (p + vS v) : Nat) : Int) ≤ _; omega
        · show 5 * (takeS t1 _).1 4 + 3 * ((W2 - (p + vS v) : Nat) : Int) + c ≤ _; omega
        · exact rv_ext (rext_tk (rext_rf t1) _) hq3 hlo.1
end mds
