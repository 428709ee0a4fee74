/-! the reference does: names, x and y; an act without ADVERBS; calls -/
def gX (s : RS) (z : Int) : Option VV → Prop
  | none => z = -1
  | some v => ∃ q : Nat, z = (q : Int) ∧ gr s q v
/-- a function's body -/
def RBD (s : RS) (T : Nat → Tok) (n : Nat) : Prop := ∃ mk ln j B, TOKS T mk ln ∧ 3 ≤ mk ∧ TKO T ∧ pR T fuR 0 1 3 = .inr j ∧ B ≤ 84000 ∧ n < B ∧ rR s T fuR 0 1 3 B n (-1)
/-- what the names stand for -/
def RNV (Nv : Int → Option VV) (Fn : Int → Option (Nat → Tok)) (s : RS) : Prop := ∃ n m : Nat, s.1 23 = (n : Int) ∧ s.1 24 = (m : Int) ∧ n ≤ 40 ∧ m ≤ 40 ∧ (∀ c r : Int, nmR c r → (¬ fndK (s.2.2.2 19) n (Int64.ofInt r) < n ∧ Nv c = none) ∨ (fndK (s.2.2.2 19) n (Int64.ofInt r) < n ∧ ∃ (q : Nat) (v : VV), s.2.2.1 21 (fndK (s.2.2.2 19) n (Int64.ofInt r)) = (q : Int) ∧ Nv c = some v ∧ gr s q v)) ∧ (∀ c r : Int, nmR c r → (¬ fndK (s.2.2.2 20) m (Int64.ofInt r) < m ∧ Fn c = none) ∨ (fndK (s.2.2.2 20) m (Int64.ofInt r) < m ∧ ∃ (nd : Nat) (T : Nat → Tok), s.2.2.1 22 (fndK (s.2.2.2 20) m (Int64.ofInt r)) = (nd : Int) ∧ Fn c = some T ∧ RBD s T nd))
def ENR (Nv : Int → Option VV) (Fn : Int → Option (Nat → Tok)) (x y : Option VV) (k : Nat) (s : RS) : Prop := RNV Nv Fn s ∧ (k = 10 → x = none ∧ y = none) ∧ (k ≠ 10 → gX s (s.1 58) x ∧ gX s (s.1 59) y)
section envs
variable {s t : RS} {Nv : Int → Option VV} {Fn : Int → Option (Nat → Tok)} {x y : Option VV} {k : Nat}
theorem gX_x {z : Int} {o : Option VV} (hx : rext s t) (h : gX s z o) : gX t z o := by
  cases o with
  | none => exact h
  | some v => obtain ⟨q, h1, h2⟩ := h; exact ⟨q, h1, gr_x hx h2⟩
theorem ndK_df (hx : rext s t) (hf : dfr s t) (B : Nat) : ndK s t B := ⟨fun k y _ _ _ => by rw [hf.2.2.2.1 k (by omega) (by omega) (by omega) (by omega) (by omega)], fun y _ => by rw [hf.2.2.2.2.1 49 (by decide)], hx⟩
theorem RBD_x {T : Nat → Tok} {n : Nat} (hn : ∀ B, ndK s t B) (h : RBD s T n) : RBD t T n := by
  obtain ⟨mk, ln, j, B, h1, h2, h3, h4, h5, h6, h7⟩ := h
  exact ⟨mk, ln, j, B, h1, h2, h3, h4, h5, h6, rR_k _ _ _ _ _ _ _ _ _ _ (hn B) (Nat.le_refl _) h7⟩
/-- what of a state the names stand in -/
theorem RNV_x (hx : rext s t) (h23 : t.1 23 = s.1 23) (h24 : t.1 24 = s.1 24) (h19 : t.2.2.2 19 = s.2.2.2 19) (h20 : t.2.2.2 20 = s.2.2.2 20) (h21 : t.2.2.1 21 = s.2.2.1 21) (h22 : t.2.2.1 22 = s.2.2.1 22) (hn : ∀ B, ndK s t B) (h : RNV Nv Fn s) : RNV Nv Fn t := by
  obtain ⟨n, m, a1, a2, a3, a4, a5, a6⟩ := h
  refine ⟨n, m, by omega, by omega, a3, a4, fun c r hc => ?_, fun c r hc => ?_⟩
  · rw [h19, h21]
    rcases a5 c r hc with z | ⟨z, q, v, e1, e2, e3⟩
    · exact Or.inl z
    · exact Or.inr ⟨z, q, v, e1, e2, gr_x hx e3⟩
  · rw [h20, h22]
    rcases a6 c r hc with z | ⟨z, q, T, e1, e2, e3⟩
    · exact Or.inl z
    · exact Or.inr ⟨z, q, T, e1, e2, RBD_x hn e3⟩
theorem dfr_i {k : Nat} (hf : dfr s t) (h : 18 ≤ k ∨ k = 10 ∨ k = 12) : t.1 k = s.1 k := hf.1 k (by omega) (by omega) (by omega) (by omega) (by omega) (by omega) (by omega) (by omega) (by omega) (by omega)
theorem dfr_a {k : Nat} (hf : dfr s t) (h : 16 ≤ k) : t.2.2.1 k = s.2.2.1 k := hf.2.2.2.1 k (by omega) (by omega) (by omega) (by omega) (by omega)
theorem RNV_d (hx : rext s t) (hf : dfr s t) (h : RNV Nv Fn s) : RNV Nv Fn t := RNV_x hx (dfr_i hf (by omega)) (dfr_i hf (by omega)) (hf.2.2.2.2.1 19 (by decide)) (hf.2.2.2.2.1 20 (by decide)) (dfr_a hf (by decide)) (dfr_a hf (by decide)) (ndK_df hx hf) h
theorem ENR_x (hx : rext s t) (hf : dfr s t) (h : ENR Nv Fn x y k s) : ENR Nv Fn x y k t := by
  obtain ⟨h1, h2, h3⟩ := h
  refine ⟨RNV_d hx hf h1, h2, fun z => ?_⟩
  rw [dfr_i hf (k := 58) (by omega), dfr_i hf (k := 59) (by omega)]
  exact ⟨gX_x hx (h3 z).1, gX_x hx (h3 z).2⟩
end envs
/-- the node of an act -/
def acV (s : RS) (T : Nat → Tok) (i a : Nat) : Prop := a < 84000 ∧ (tqS (T i) = 5 → s.2.2.1 43 a = 6 ∧ s.2.2.1 45 a = tqD (T i)) ∧ (tqS (T i) = 4 → s.2.2.1 43 a = 7 ∧ s.2.2.2 49 a = Int64.ofInt (tqR (T i))) ∧ s.2.2.1 47 a = (tqP (T i) : Int)
theorem acV_x {s t : RS} {T : Nat → Tok} {i a : Nat} (hf : dfr s t) (h : acV s T i a) : acV t T i a := by
  unfold acV at h ⊢
  rw [dfr_a hf (k := 43) (by decide), dfr_a hf (k := 45) (by decide), dfr_a hf (k := 47) (by decide), hf.2.2.2.2.1 49 (by decide)]
  exact h
def cLo : Option VV → Int
  | none => 4
  | some _ => 9
/-- the act with its first a ADVERBS -/
def CAP (xt : mj_X) (pre post : mj_H) (Nv : Int → Option VV) (Fn : Int → Option (Nat → Tok)) (x y : Option VV) (T : Nat → Tok) (i k a : Nat) : Prop := ∀ (d W act wq : Nat) (s : RS) (lz : Int) (l : Option VV) (w : VV), 100 * k + 2 * a + 80 ≤ d → DOK s W k (121 * a + 700 * k) → ENR Nv Fn x y k s → acV s T i act → gX s lz l → gr s wq w → pgV xt d 279 [.ref 102, ii (act : Int), ii (rvI T (i + 1) a), ii lz, ii (wq : Int)] (rS pre post s) (RA pre post (dq s W (cLo l) ((121 * a + 700 * k : Nat) : Int) (dAp (eC Nv Fn k) T i (cpS s) a l w W)))
/-- a call -/
def CCL (xt : mj_X) (pre post : mj_H) (Nv : Int → Option VV) (Fn : Int → Option (Nat → Tok)) (k : Nat) : Prop := ∀ (d W wq : Nat) (s : RS) (x y l : Option VV) (w : VV) (c r lz pl : Int), 100 * k + 78 ≤ d → DOK s W k (700 * k) → ENR Nv Fn x y k s → nmR c r → gX s lz l → gr s wq w → pgV xt d 280 [.ref 102, .long (Int64.ofInt r), ii lz, ii (wq : Int), ii pl] (rS pre post s) (RA pre post (dq s W 9 ((700 * k : Nat) : Int) (eC Nv Fn k c l w pl (cpS s) W)))
section caps
variable {xt : mj_X} {pre post : mj_H} {Nv : Int → Option VV} {Fn : Int → Option (Nat → Tok)} {x y : Option VV} {T : Nat → Tok} {i k : Nat}
theorem CAP_0 (hm : pre.length = 102) (hRS : RSO) (hRT : RST2) (hRP : RPA) (hT : TKO T) (hi : tqS (T i) = 4 ∨ tqS (T i) = 5) (hC : CCL xt pre post Nv Fn k) : CAP xt pre post Nv Fn x y T i k 0 := by
  intro d W act wq s lz l w hd hO hE hA hl hw
  obtain ⟨ha, hA5, hA4, hAp⟩ := hA
  show pgV xt d 279 [.ref 102, ii (act : Int), ii 0, ii lz, ii (wq : Int)] (rS pre post s) _
  by_cases h4 : tqS (T i) = 4
  · have e : dAp (eC Nv Fn k) T i (cpS s) 0 l w W = eC Nv Fn k (tqD (T i)) l w (tqP (T i) : Int) (cpS s) W := if_pos h4
    rw [e]
    refine a_call hm (by omega) ha (hA4 h4).1 ?_
    rw [(hA4 h4).2, hAp]
    refine pgV_i (hC (d - 1) W wq s x y l w (tqD (T i)) (tqR (T i)) lz (tqP (T i) : Int) (by omega) (DOK_n hO (by omega)) hE (hT.2.2 i (Or.inr h4)) hl hw) (fun v h' z => RA_mono z (fun t u hz => dq_w hz ?_ (by omega)))
    cases l with
    | none => show (4 : Int) ≤ 9; decide
    | some _ => exact Int.le_refl _
  · have h5 : tqS (T i) = 5 := by omega
    cases l with
    | none =>
      have e : dAp (eC Nv Fn k) T i (cpS s) 0 none w W = dOne (cpS s) W (tqD (T i)) w (tqP (T i) : Int) := if_neg h4
      rw [e, show lz = -1 from hl]
      refine a_one hm (by omega) ha (hA5 h5).1 ?_
      rw [(hA5 h5).2, hAp]
      exact R_one (d := d - 1) hm (by omega) hRS hRP hO hw (hT.2.1 i h5)
    | some v =>
      have e : dAp (eC Nv Fn k) T i (cpS s) 0 (some v) w W = dTwo (cpS s) W (tqD (T i)) v w (tqP (T i) : Int) := if_neg h4
      obtain ⟨q, rfl, hq⟩ := hl
      have hlt := gr_lt hO hq
      rw [e]
      refine a_two hm (by omega) ha (hA5 h5).1 (by omega) ?_
      rw [(hA5 h5).2, hAp]
      exact R_two (d := d - 1) hm (by omega) hRT hRP hO hq hw (hT.2.1 i h5)
/-- no function, or ten calls are open -/
theorem CCL_e {d W : Nat} {s : RS} {c r lz pl wz : Int} {l : Option VV} {w : VV} (hm : pre.length = 102) (hd : 3 ≤ d) (hO : DOK s W k (700 * k)) (hN : RNV Nv Fn s) (hc : nmR c r) (hk : Fn c = none ∨ k = 0) : pgV xt d 280 [.ref 102, .long (Int64.ofInt r), ii lz, ii wz, ii pl] (rS pre post s) (RA pre post (dq s W 9 ((700 * k : Nat) : Int) (eC Nv Fn k c l w pl (cpS s) W))) := by
  have hrf := DOK_rf hO
  obtain ⟨q, b, base, h4, h3, h13, q3, q2, b2, hb, hca⟩ := DOK_nat hO
  obtain ⟨hB, h5, ⟨hk10, h10⟩, ⟨h8, hW⟩, hw13, hC, hV⟩ := hO
  obtain ⟨n, m, a1, a2, a3, a4, -, a6⟩ := hN
  rcases a6 c r hc with ⟨z1, z2⟩ | ⟨z1, nd, T, z2, z3, z4⟩
  · have e : eC Nv Fn k c l w pl (cpS s) W = dEr (cpS s) W 2 pl := by
      cases k with
      | zero => show (match Fn c with | none => dEr (cpS s) W 2 pl | some _ => dEr (cpS s) W 9 pl) = _; rw [z2]
      | succ k => show (match Fn c with | none => dEr (cpS s) W 2 pl | some T => _) = _; rw [z2]
    rw [e]
    exact c_no hm (by omega) hd h5 hca ⟨by omega, by omega⟩ a1 a2 a3 a4 z1 (dqE_fl (e := 2) hrf (by omega) (by omega) (by omega))
  · have hk0 : k = 0 := by
      rcases hk with z | z
      · rw [z3] at z; cases z
      · exact z
    subst hk0
    have e : eC Nv Fn 0 c l w pl (cpS s) W = dEr (cpS s) W 9 pl := by
      show (match Fn c with | none => dEr (cpS s) W 2 pl | some _ => dEr (cpS s) W 9 pl) = _
      rw [z3]
    rw [e]
    exact c_ten hm (by omega) hd h5 hca ⟨by omega, by omega⟩ a1 a2 a3 a4 rfl z1 (by omega) (dqE_fl (e := 9) hrf (by omega) (by omega) (by omega))
theorem CCL_0 (hm : pre.length = 102) : CCL xt pre post Nv Fn 0 := fun d W wq s x y l w c r lz pl hd hO hE hc hl hw => CCL_e hm (by omega) hO hE.1 hc (Or.inr rfl)
end caps
section cals
variable {t u : RS} {p xx yy : Int} {n : Nat}
theorem caS_k {k : Nat} (h58 : k ≠ 58) (h59 : k ≠ 59) (h10 : k ≠ 10) (h11 : k ≠ 11) (h7 : k ≠ 7) (h8 : k ≠ 8) : (caS t p xx yy).1 k = t.1 k := by
  show va_up (va_up (va_up (c11 t p).1 10 ((c11 t p).1 10 + 1)) 58 xx) 59 yy k = _
  rw [up_ne _ _ h59, up_ne _ _ h58, up_ne _ _ h10]
  show va_up (takeS t 5).1 11 (if t.1 10 = 0 then p else t.1 11) k = _
  rw [up_ne _ _ h11, takeS_k h7 h8]
theorem caS_7 : (caS t p xx yy).1 7 = t.1 7 + 5 := by
  show va_up (va_up (va_up (c11 t p).1 10 ((c11 t p).1 10 + 1)) 58 xx) 59 yy 7 = _
  rw [up_ne _ _ (by decide), up_ne _ _ (by decide), up_ne _ _ (by decide)]
  show va_up (takeS t 5).1 11 (if t.1 10 = 0 then p else t.1 11) 7 = _
  rw [up_ne _ _ (by decide), takeS_7]
theorem caS_8 : (caS t p xx yy).1 8 = t.1 8 - 5 := by
  show va_up (va_up (va_up (c11 t p).1 10 ((c11 t p).1 10 + 1)) 58 xx) 59 yy 8 = _
  rw [up_ne _ _ (by decide), up_ne _ _ (by decide), up_ne _ _ (by decide)]
  show va_up (takeS t 5).1 11 (if t.1 10 = 0 then p else t.1 11) 8 = _
  rw [up_ne _ _ (by decide), takeS_8]
theorem caS_10 : (caS t p xx yy).1 10 = t.1 10 + 1 := by
  show va_up (va_up (va_up (c11 t p).1 10 ((c11 t p).1 10 + 1)) 58 xx) 59 yy 10 = _
  rw [up_ne _ _ (by decide), up_ne _ _ (by decide), up_eq]
  show va_up (takeS t 5).1 11 (if t.1 10 = 0 then p else t.1 11) 10 + 1 = _
  rw [up_ne _ _ (by decide), takeS_k (by decide) (by decide)]
theorem caS_11 : (caS t p xx yy).1 11 = (if t.1 10 = 0 then p else t.1 11) := by
  show va_up (va_up (va_up (c11 t p).1 10 ((c11 t p).1 10 + 1)) 58 xx) 59 yy 11 = _
  rw [up_ne _ _ (by decide), up_ne _ _ (by decide), up_ne _ _ (by decide)]
  show va_up (takeS t 5).1 11 (if t.1 10 = 0 then p else t.1 11) 11 = _
  rw [up_eq]
theorem caS_58 : (caS t p xx yy).1 58 = xx := by
  show va_up (va_up (va_up (c11 t p).1 10 ((c11 t p).1 10 + 1)) 58 xx) 59 yy 58 = _
  rw [up_ne _ _ (by decide), up_eq]
theorem caS_59 : (caS t p xx yy).1 59 = yy := by
  show va_up (va_up (va_up (c11 t p).1 10 ((c11 t p).1 10 + 1)) 58 xx) 59 yy 59 = _
  rw [up_eq]
theorem coS_k {k : Nat} (h58 : k ≠ 58) (h59 : k ≠ 59) (h10 : k ≠ 10) : (coS t u).1 k = u.1 k := by
  show va_up (va_up (va_up u.1 58 ((takeS t 5).1 58)) 59 ((takeS t 5).1 59)) 10 (u.1 10 - 1) k = _
  rw [up_ne _ _ h10, up_ne _ _ h59, up_ne _ _ h58]
theorem coS_10 : (coS t u).1 10 = u.1 10 - 1 := by
  show va_up (va_up (va_up u.1 58 ((takeS t 5).1 58)) 59 ((takeS t 5).1 59)) 10 (u.1 10 - 1) 10 = _
  rw [up_eq]
theorem coS_58 : (coS t u).1 58 = t.1 58 := by
  show va_up (va_up (va_up u.1 58 ((takeS t 5).1 58)) 59 ((takeS t 5).1 59)) 10 (u.1 10 - 1) 58 = _
  rw [up_ne _ _ (by decide), up_ne _ _ (by decide), up_eq, takeS_k (by decide) (by decide)]
theorem coS_59 : (coS t u).1 59 = t.1 59 := by
  show va_up (va_up (va_up u.1 58 ((takeS t 5).1 58)) 59 ((takeS t 5).1 59)) 10 (u.1 10 - 1) 59 = _
  rw [up_ne _ _ (by decide), up_eq, takeS_k (by decide) (by decide)]
theorem rext_ca : rext t (caS t p xx yy) := by
  have e3 := caS_k (t := t) (p := p) (xx := xx) (yy := yy) (k := 3) (by decide) (by decide) (by decide) (by decide) (by decide) (by decide)
  have e4 := caS_k (t := t) (p := p) (xx := xx) (yy := yy) (k := 4) (by decide) (by decide) (by decide) (by decide) (by decide) (by decide)
  exact ⟨by omega, by omega, fun _ _ _ => ⟨rfl, rfl⟩, fun _ _ => rfl⟩
theorem rext_co (h : rext (caS t p xx yy) u) : rext t (coS t u) := by
  have e3 := coS_k (t := t) (u := u) (k := 3) (by decide) (by decide) (by decide)
  have e4 := coS_k (t := t) (u := u) (k := 4) (by decide) (by decide) (by decide)
  have h2 := rext_tr rext_ca h
  exact ⟨by have := h2.1; omega, by have := h2.2.1; omega, h2.2.2.1, h2.2.2.2⟩
theorem dfr_co (h : dfr (caS t p xx yy) u) (h10 : 0 ≤ t.1 10) : dfr t (coS t u) := by
  obtain ⟨a1, a2, a3, a4, a5, a6⟩ := h
  have e10 := caS_10 (t := t) (p := p) (xx := xx) (yy := yy)
  have e13 := caS_k (t := t) (p := p) (xx := xx) (yy := yy) (k := 13) (by decide) (by decide) (by decide) (by decide) (by decide) (by decide)
  refine ⟨fun k c3 c4 c5 c6 c7 c8 c9 c11 c13 c17 => ?_, fun z => ?_, a3, a4, a5, fun j hj => a6 j (by omega)⟩
  · by_cases k58 : k = 58
    · rw [k58]; exact coS_58
    by_cases k59 : k = 59
    · rw [k59]; exact coS_59
    by_cases k10 : k = 10
    · rw [k10, coS_10, a1 10 (by decide) (by decide) (by decide) (by decide) (by decide) (by decide) (by decide) (by decide) (by decide) (by decide)]
      omega
    rw [coS_k k58 k59 k10, a1 k c3 c4 c5 c6 c7 c8 c9 c11 c13 c17, caS_k k58 k59 k10 c11 c7 c8]
  · rw [coS_k (by decide) (by decide) (by decide), a2 (by omega), caS_11, if_neg (by omega)]
end cals
