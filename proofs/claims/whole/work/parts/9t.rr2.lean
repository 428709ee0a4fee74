/-! the reference reads: what a reading leaves -/
/-- there is room for the rest of the line -/
def RM (T : Nat → Tok) (ln : Nat) (s : RS) (i : Nat) : Prop := 3 ≤ s.1 4 ∧ s.1 4 + (ln : Int) ≤ 309000 + (tqP (T i) : Int) ∧ 0 ≤ s.1 3 ∧ s.1 3 + (ln : Int) ≤ 819000 + (tqP (T i) : Int) ∧ 0 ≤ s.1 50 ∧ s.1 50 + 2 * (ln : Int) ≤ 83000 + 2 * (tqP (T i) : Int)
def RMd (T : Nat → Tok) (s t : RS) (i j : Nat) (c k : Int) : Prop := t.1 4 + (tqP (T i) : Int) ≤ s.1 4 + (tqP (T j) : Int) ∧ t.1 3 + (tqP (T i) : Int) ≤ s.1 3 + (tqP (T j) : Int) ∧ t.1 50 + 2 * (tqP (T i) : Int) + c ≤ s.1 50 + 2 * (tqP (T j) : Int) ∧ 2 * t.1 4 + (tqP (T i) : Int) + k ≤ 2 * s.1 4 + (tqP (T j) : Int)
def RMe (T : Nat → Tok) (ln : Nat) (s t : RS) (i : Nat) : Prop := t.1 4 + (tqP (T i) : Int) ≤ s.1 4 + (ln : Int) ∧ t.1 3 + (tqP (T i) : Int) ≤ s.1 3 + (ln : Int) ∧ t.1 50 + 2 * (tqP (T i) : Int) ≤ s.1 50 + 2 * (ln : Int)
theorem RM_d {T : Nat → Tok} {ln i j : Nat} {c k : Int} {s t : RS} (h : RM T ln s i) (hr : rdR s t) (hd : RMd T s t i j c k) (hc : 0 ≤ c) : RM T ln t j := by
  obtain ⟨a1, a2, a3, a4, a5, a6⟩ := h
  obtain ⟨b1, b2, b3⟩ := hd
  have c1 := hr.1.1
  have c2 := hr.1.2.1
  have c3 := hr.2.1
  exact ⟨by omega, by omega, by omega, by omega, by omega, by omega⟩
theorem RMd_tr {T : Nat → Tok} {i j k : Nat} {c c' q q' : Int} {s t u : RS} (a : RMd T s t i j c q) (b : RMd T t u j k c' q') : RMd T s u i k (c + c') (q + q') := by
  obtain ⟨a1, a2, a3⟩ := a
  obtain ⟨b1, b2, b3⟩ := b
  exact ⟨by omega, by omega, by omega⟩
theorem RMe_tr {T : Nat → Tok} {ln i j : Nat} {c q : Int} {s t u : RS} (a : RMd T s t i j c q) (hc : 0 ≤ c) (b : RMe T ln t u j) : RMe T ln s u i := by
  obtain ⟨a1, a2, a3⟩ := a
  obtain ⟨b1, b2, b3⟩ := b
  exact ⟨by omega, by omega, by omega⟩
theorem RMd_T {T : Nat → Tok} {i j : Nat} {s t : RS} (h : rdT s t) (hj : tqP (T i) ≤ tqP (T j)) : RMd T s t i j (2 * ((tqP (T j) : Int) - (tqP (T i) : Int))) ((tqP (T j) : Int) - (tqP (T i) : Int)) := by
  obtain ⟨-, a1, a2, a3, -⟩ := h
  exact ⟨by omega, by omega, by omega⟩
theorem RMe_T {T : Nat → Tok} {ln i : Nat} {s t : RS} (h : rdT s t) (hj : tqP (T i) ≤ ln) : RMe T ln s t i := by
  obtain ⟨-, a1, a2, a3, -⟩ := h
  exact ⟨by omega, by omega, by omega⟩
theorem RMd_w {T : Nat → Tok} {i j : Nat} {c c' q q' : Int} {s t : RS} (h : RMd T s t i j c q) (hc : c' ≤ c) (hq : q' ≤ q) : RMd T s t i j c' q' := ⟨h.1, h.2.1, by have := h.2.2; omega⟩
def cM1 (m : Nat) : Int := if m = 0 then 0 else 1
/-- what reading leaves: mode 0 (xx = -1) and nouns -/
def RQ (pre post : mj_H) (bf : Nat → Int) (ln : Nat) (F : Nat → Int → Bool) (T : Nat → Tok) (n m hi : Nat) (s : RS) (f md o i : Nat) (xx : Int) (x : Value) (h' : mj_H) : Prop := ∃ t, h' = rS pre post t ∧ rdR s t ∧ (match pR T f md o i with
  | .inl p => t.1 52 = (p : Int) ∧ RMe T ln s t i ∧ ∃ v : Int, x = ii v
  | .inr j => RD bf ln F n m hi t j ∧ t.1 51 = (o : Int) ∧ t.1 52 = -1 ∧ RMd T s t i j (cM1 md) (-1) ∧ ∃ nn B : Nat, x = ii (nn : Int) ∧ s.1 50 ≤ (nn : Int) ∧ nn < B ∧ t.1 50 = (B : Int) ∧ rR t T f md o i B nn xx)
section RQs
variable {pre post h' : mj_H} {bf : Nat → Int} {ln n m hi f md o i : Nat} {F : Nat → Int → Bool} {T : Nat → Tok} {s : RS} {x : Value} {xx : Int}
theorem RQ_e {p : Nat} (e : pR T f md o i = .inl p) (h : RQ pre post bf ln F T n m hi s f md o i xx x h') : ∃ (t : RS) (v : Int), x = ii v ∧ h' = rS pre post t ∧ rdR s t ∧ t.1 52 = (p : Int) ∧ RMe T ln s t i := by
  obtain ⟨t, h1, h2, h3⟩ := h
  rw [e] at h3
  obtain ⟨h4, h5, v, h6⟩ := h3
  exact ⟨t, v, h6, h1, h2, h4, h5⟩
theorem RQ_v {j : Nat} (e : pR T f md o i = .inr j) (h : RQ pre post bf ln F T n m hi s f md o i xx x h') : ∃ t, h' = rS pre post t ∧ rdR s t ∧ RD bf ln F n m hi t j ∧ t.1 51 = (o : Int) ∧ t.1 52 = -1 ∧ RMd T s t i j (cM1 md) (-1) ∧ ∃ nn B : Nat, x = ii (nn : Int) ∧ s.1 50 ≤ (nn : Int) ∧ nn < B ∧ t.1 50 = (B : Int) ∧ rR t T f md o i B nn xx := by
  obtain ⟨t, h1, h2, h3⟩ := h
  rw [e] at h3
  exact ⟨t, h1, h2, h3⟩
theorem RQ_ie {p : Nat} {t : RS} {v : Int} (e : pR T f md o i = .inl p) (h1 : rdR s t) (h2 : t.1 52 = (p : Int)) (h3 : RMe T ln s t i) : RQ pre post bf ln F T n m hi s f md o i xx (ii v) (rS pre post t) := by
  refine ⟨t, rfl, h1, ?_⟩
  rw [e]
  exact ⟨h2, h3, v, rfl⟩
theorem RQ_iv {j nn B : Nat} {t : RS} (e : pR T f md o i = .inr j) (h1 : rdR s t) (h2 : RD bf ln F n m hi t j) (h3 : t.1 51 = (o : Int)) (h4 : t.1 52 = -1) (h5 : RMd T s t i j (cM1 md) (-1)) (h6 : s.1 50 ≤ (nn : Int)) (h7 : nn < B) (h8 : t.1 50 = (B : Int)) (h9 : rR t T f md o i B nn xx) : RQ pre post bf ln F T n m hi s f md o i xx (ii (nn : Int)) (rS pre post t) := by
  refine ⟨t, rfl, h1, ?_⟩
  rw [e]
  exact ⟨h2, h3, h4, h5, nn, B, rfl, h6, h7, h8, h9⟩
end RQs
/-- expression's contract for one fuel -/
def RE (xt : mj_X) (pre post : mj_H) (bf : Nat → Int) (ln : Nat) (F : Nat → Int → Bool) (T : Nat → Tok) (mk n m hi f : Nat) : Prop := ∀ (d : Nat) (s : RS) (i o : Nat), 6 * (12 - o) + 20 ≤ d → RD bf ln F n m hi s i → s.1 51 = (o : Int) → s.1 52 = -1 → RM T ln s i → i ≤ mk → o ≤ 12 → 8 * (mk - i) + 6 ≤ f → pgV xt d 221 [.ref 102] (rS pre post s) (RQ pre post bf ln F T n m hi s f 0 o i (-1))
/-! the parts of a list -/
def LJ (bf : Nat → Int) (ln : Nat) (F : Nat → Int → Bool) (T : Nat → Tok) (mk n m hi f o i : Nat) (s : RS) (c a g : Nat) (x : Int) (z : RS) : Prop :=
  RD bf ln F n m hi z a ∧ z.1 51 = (o : Int) ∧ z.1 52 = -1 ∧ rdR s z ∧ (i ≤ a ∧ a ≤ mk) ∧ (c ≤ a - i ∧ c ≤ 300) ∧ (8 * (mk - a) + 7 ≤ g + 1 ∧ g ≤ f) ∧ pR T (f + 1) 4 o i = pR T (g + 1) 4 o a ∧ plN T (f + 1) o i = c + plN T (g + 1) o a ∧ RMd T s z i a 0 0 ∧ (∀ (z' : RS) (B n' : Nat), rdR z z' → z.1 50 ≤ (B : Int) → rR z' T (g + 1) 4 o a B n' x → rR z' T (f + 1) 4 o i B n' (-1))
section LJs
variable {bf : Nat → Int} {ln mk n m hi f o i c a g : Nat} {F : Nat → Int → Bool} {T : Nat → Tok} {s z : RS} {x : Int}
theorem LJ_0 (h1 : RD bf ln F n m hi s i) (h2 : s.1 51 = (o : Int)) (h3 : s.1 52 = -1) (hi1 : i ≤ mk) (hf : 8 * (mk - i) + 7 ≤ f + 1) : LJ bf ln F T mk n m hi f o i s 0 i f (-1) s := ⟨h1, h2, h3, rdR_rf s, ⟨Nat.le_refl _, hi1⟩, ⟨by omega, by omega⟩, ⟨hf, Nat.le_refl _⟩, rfl, (Nat.zero_add _).symm, ⟨by omega, by omega, by omega⟩, fun _ _ _ _ _ h => h⟩
/-- a part that was read gets its word 'ahead' -/
def ahS (t : RS) (e : Nat) (x : Int) : RS := (t.1, t.2.1, va_up t.2.2.1 48 (va_up (t.2.2.1 48) e x), t.2.2.2)
theorem ah_k (t : RS) (e : Nat) (x : Int) (k y : Nat) (h : k ≠ 48 ∨ y ≠ e) : (ahS t e x).2.2.1 k y = t.2.2.1 k y := by
  show va_up t.2.2.1 48 _ k y = _
  by_cases z : k = 48
  · subst z; rw [up_eq, up_ne _ _ (by omega)]
  · rw [up_ne _ _ z]
theorem rdR_ah {t : RS} {e : Nat} {x : Int} (hr : rdR s t) (he : s.1 50 ≤ (e : Int)) : rdR s (ahS t e x) := by
  obtain ⟨⟨a1, a2, a3, a4⟩, b, c, d, e1, f1, g1, h1⟩ := hr
  refine ⟨⟨a1, a2, fun hd p q => ⟨(ah_k t e x 1 hd (by omega)).trans (a3 hd p q).1, (ah_k t e x 2 hd (by omega)).trans (a3 hd p q).2⟩, a4⟩, b, c, d, fun k hk => ?_, f1, fun k y p q r => (ah_k t e x k y (by omega)).trans (g1 k y p q r), h1⟩
  rw [← e1 k hk]
  exact funext fun y => ah_k t e x k y (by omega)
theorem tkE_ah (t : RS) (e : Nat) (x : Int) : tkE t (ahS t e x) := ⟨fun _ _ _ => rfl, rfl⟩
theorem ndK_ah {t : RS} {e : Nat} {x : Int} {B : Nat} (h : B ≤ e) : ndK t (ahS t e x) B := ⟨fun k y _ _ q => ah_k t e x k y (by omega), fun _ _ => rfl, ⟨Int.le_refl _, Int.le_refl _, fun hd _ _ => ⟨ah_k t e x 1 hd (by omega), ah_k t e x 2 hd (by omega)⟩, fun _ _ => rfl⟩⟩
theorem rR_ahS {t : RS} {e B fu j : Nat} {x : Int} (h : rR t T fu 0 o j B e (-1)) : rR (ahS t e x) T fu 0 o j B e (-1) := rR_ah (ndK_ah (Nat.le_refl _)) (ah_k t e x 43 e (by omega)) (ah_k t e x 44 e (by omega)) (ah_k t e x 45 e (by omega)) _ _ _ _ _ h
/-- the next part, and a ; behind it -/
theorem LJ_s {j e B : Nat} {t u : RS} (hK : TOKS T mk ln) (hL : LJ bf ln F T mk n m hi f o i s c a (g + 1) x z) (ee : pR T (g + 1) 0 o a = .inr j) (hj : isMk T j 59) (h1 : rdR z t) (he : z.1 50 ≤ (e : Int)) (heB : e < B) (hB : t.1 50 = (B : Int)) (hc : rR t T (g + 1) 0 o a B e (-1)) (hd : RMd T z t a j 0 (-1)) (hu : rdT (ahS t e x) u) (h5 : t.1 51 = (o : Int)) (u5 : u.1 51 = (ahS t e x).1 51) (u52 : u.1 52 = -1) (hR : RD bf ln F n m hi u (j + 1)) (hja : a < j ∧ j < mk) : LJ bf ln F T mk n m hi f o i s (c + 1) (j + 1) g (e : Int) u := by
  obtain ⟨b1, b2, b3, b4, b5, b6, b7, b8, b9, b10, b11⟩ := hL
  have hm := hK.1
  have hzt : rdR z (ahS t e x) := rdR_ah h1 he
  have hzu : rdR z u := rdR_tr hzt hu.1
  have hP := hK.2.2.2.2.2.2.1 j hja.2
  refine ⟨hR, by rw [u5]; exact h5, u52, rdR_tr b4 hzu, ⟨by omega, by omega⟩, ⟨by omega, by omega⟩, ⟨by omega, by omega⟩, ?_, ?_, ?_, ?_⟩
  · rw [b8, pR4_g ee hj]
  · rw [b9, plN_s ee hj]; omega
  · obtain ⟨c1, c2, c3⟩ := b10
    obtain ⟨d1, d2, d3⟩ := hd
    obtain ⟨-, q1, q2, q3, -⟩ := hu
    have q1 : u.1 3 = t.1 3 := q1
    have q2 : u.1 4 = t.1 4 := q2
    have q3 : u.1 50 = t.1 50 := q3
    exact ⟨by omega, by omega, by omega⟩
  · intro z' C n' hz hC hr
    have q3 : u.1 50 = t.1 50 := hu.2.2.2.1
    refine b11 z' C n' (rdR_tr hzu hz) (by have := h1.2.1; omega) ((rR_l ee hj).mpr ⟨e, by omega, ?_, ?_, hr⟩)
    · exact rR_k _ _ _ _ _ _ _ _ _ _ (ndK_d (rdR_tr hu.1 hz) (show (B : Int) ≤ t.1 50 by omega)) (by omega) (rR_ahS hc)
    · have := hz.2.2.2.2.2.2.1 48 e (by decide) (by decide) (by omega)
      rw [this, hu.2.2.2.2]
      show va_up t.2.2.1 48 (va_up (t.2.2.1 48) e x) 48 e = x
      rw [up_eq, up_eq]
/-- the last part -/
theorem LJ_e {j e B : Nat} {t : RS} (hL : LJ bf ln F T mk n m hi f o i s c a (g + 1) x z) (ee : pR T (g + 1) 0 o a = .inr j) (hj : ¬ isMk T j 59) (h1 : rdR z t) (he : z.1 50 ≤ (e : Int)) (heB : e < B) (hB : t.1 50 = (B : Int)) (hc : rR t T (g + 1) 0 o a B e (-1)) (hd : RMd T z t a j 0 (-1)) : rdR s (ahS t e x) ∧ RMd T s (ahS t e x) i j 0 (-1) ∧ plN T (f + 1) o i = c + 1 ∧ rR (ahS t e x) T (f + 1) 4 o i B e (-1) ∧ pR T (f + 1) 4 o i = (if isMk T j 41 then .inr (j + 1) else .inl (tqP (T j))) := by
  obtain ⟨b1, b2, b3, b4, b5, b6, b7, b8, b9, b10, b11⟩ := hL
  have hzt : rdR z (ahS t e x) := rdR_ah h1 he
  refine ⟨rdR_tr b4 hzt, ?_, by rw [b9, plN_e ee hj], ?_, ?_⟩
  · exact RMd_tr (c := 0) (c' := 0) (q := 0) (q' := -1) b10 (show RMd T z (ahS t e x) a j 0 (-1) from hd)
  · refine b11 _ _ _ hzt (by have := h1.2.1; omega) ((rR_ln ee hj).mpr ⟨heB, rR_ahS hc, ?_⟩)
    show va_up t.2.2.1 48 (va_up (t.2.2.1 48) e x) 48 e = x
    rw [up_eq, up_eq]
  · rw [b8]
    by_cases h4 : isMk T j 41
    · rw [pR4_n ee hj h4, if_pos h4]
    · rw [pR4_x ee hj h4, if_neg h4]
theorem LJ_x {p : Nat} {t : RS} (hL : LJ bf ln F T mk n m hi f o i s c a (g + 1) x z) (ee : pR T (g + 1) 0 o a = .inl p) (h1 : rdR z t) (hd : RMe T ln z t a) : rdR s t ∧ RMe T ln s t i ∧ pR T (f + 1) 4 o i = .inl p := by
  obtain ⟨b1, b2, b3, b4, b5, b6, b7, b8, b9, b10, b11⟩ := hL
  exact ⟨rdR_tr b4 h1, RMe_tr b10 (by omega) hd, by rw [b8, pR4_e ee]⟩
end LJs
theorem RD_ah {bf : Nat → Int} {ln n m hi j e : Nat} {F : Nat → Int → Bool} {t : RS} {x : Int} (h : RD bf ln F n m hi t j) : RD bf ln F n m hi (ahS t e x) j := by
  obtain ⟨r1, r2, r3, r4⟩ := h
  refine ⟨r1, ?_, r3, fun k a b => FNp_k rfl rfl (r4 k a b)⟩
  unfold tpR at r2 ⊢
  rw [show (ahS t e x).2.2.1 32 = t.2.2.1 32 from funext fun y => ah_k t e x 32 y (Or.inl (by decide))]
  exact r2
/-- the place of what is wrong lies in the line -/
theorem pR_ln {T : Nat → Tok} {mk ln : Nat} (h : TOKS T mk ln) : ∀ f m o i p, pR T f m o i = .inl p → p ≤ ln := by
  have P := P_ln h
  have one : ∀ k p, (Sum.inl (tqP (T k)) : Nat ⊕ Nat) = .inl p → p ≤ ln := fun k p e => by cases e; exact P k
  intro f
  induction f with
  | zero => intro m o i p e; exact one i p e
  | succ f ih =>
    intro m o i p e
    rcases m with _ | _ | _ | _ | m
    · by_cases d : isDs T i
      · rw [pR0_d d] at e; exact ih _ _ _ _ e
      · rcases e1 : pR T f 1 o i with q | j
        · rw [pR0_e d e1] at e; cases e; exact ih _ _ _ _ e1
        · by_cases hj : isDs T j
          · rw [pR0_a d e1 hj] at e; exact ih _ _ _ _ e
          · rw [pR0_n d e1 hj] at e; cases e
    · rcases e1 : pR T f 3 o i with q | j
      · rw [show pR T (f + 1) (0 + 1) o i = .inl q from pR1_e e1] at e; cases e; exact ih _ _ _ _ e1
      · rw [show pR T (f + 1) (0 + 1) o i = pR T f 2 o j from pR1_n e1] at e; exact ih _ _ _ _ e
    · by_cases hx : isIx T i
      · by_cases ho : o < 12
        · rcases e1 : pR T f 0 (o + 1) (i + 2) with q | k
          · rw [show pR T (f + 1) (0 + 1 + 1) o i = .inl q from pR2_e hx ho e1] at e; cases e; exact ih _ _ _ _ e1
          · by_cases h2 : isMk T k 41
            · rw [show pR T (f + 1) (0 + 1 + 1) o i = pR T f 2 o (k + 1) from pR2_g hx ho e1 h2] at e; exact ih _ _ _ _ e
            · rw [show pR T (f + 1) (0 + 1 + 1) o i = .inl (tqP (T k)) from pR2_x hx ho e1 h2] at e; exact one k p e
        · rw [show pR T (f + 1) (0 + 1 + 1) o i = .inl (tqP (T (i + 1))) from pR2_o hx (by omega)] at e; exact one _ p e
      · rw [show pR T (f + 1) (0 + 1 + 1) o i = .inr i from pR2_n hx] at e; cases e
    · have e : pR T (f + 1) 3 o i = .inl p := e
      by_cases h1 : tqS (T i) = 1
      · rw [pR3_1 h1] at e; cases e
      · by_cases h2 : tqS (T i) = 2 ∨ tqS (T i) = 3
        · rw [pR3_2 h2] at e; cases e
        · by_cases h3 : isMk T i 40 ∧ o < 12
          · by_cases h4 : isMk T (i + 1) 41
            · rw [pR3_0 h3.1 h3.2 h4] at e; cases e
            · rw [pR3_l h3.1 h3.2 h4] at e; exact ih _ _ _ _ e
          · by_cases h4 : isMk T i 91 ∧ o < 12
            · rcases e1 : pR T f 0 (o + 1) (i + 1) with q | j
              · rw [pR3_c1 h4.1 h4.2 e1] at e; cases e; exact ih _ _ _ _ e1
              · by_cases hj : isMk T j 59
                · rcases e2 : pR T f 0 (o + 1) (j + 1) with q | k
                  · rw [pR3_c3 h4.1 h4.2 e1 hj e2] at e; cases e; exact ih _ _ _ _ e2
                  · by_cases hk : isMk T k 59
                    · rcases e3 : pR T f 0 (o + 1) (k + 1) with q | l
                      · rw [pR3_c5 h4.1 h4.2 e1 hj e2 hk e3] at e; cases e; exact ih _ _ _ _ e3
                      · rw [pR3_c6 h4.1 h4.2 e1 hj e2 hk e3] at e
                        by_cases hl : isMk T l 93
                        · rw [if_pos hl] at e; cases e
                        · rw [if_neg hl] at e; exact one l p e
                    · rw [pR3_c4 h4.1 h4.2 e1 hj e2 hk] at e; exact one k p e
                · rw [pR3_c2 h4.1 h4.2 e1 hj] at e; exact one j p e
            · rw [pR3_x (by omega) h3 h4] at e; exact one i p e
    · have e : pR T (f + 1) 4 o i = .inl p := e
      rcases e1 : pR T f 0 o i with q | j
      · rw [pR4_e e1] at e; cases e; exact ih _ _ _ _ e1
      · by_cases hj : isMk T j 59
        · rw [pR4_g e1 hj] at e; exact ih _ _ _ _ e
        · by_cases h4 : isMk T j 41
          · rw [pR4_n e1 hj h4] at e; cases e
          · rw [pR4_x e1 hj h4] at e; exact one j p e
theorem pg_lc {xt : mj_X} {d own nL : Nat} {ini : Bool} {ret : Option FieldType} {cf : Nat → Option (Instr × Nat)} {pc : Nat} {L L2 : mj_L} {S : List Value} {h : mj_H} {P : Option Value → mj_H → Prop} (e : L = L2) (q : pgE xt d own nL ini ret cf pc L2 S h P) : pgE xt d own nL ini ret cf pc L S h P := by rw [e]; exact q
set_option maxRecDepth 20000 in
theorem pm_X12_list : mj_mmof pg_ms 229 = some ((⟨"ArrayCalculatorModel", "list", "(I)I"⟩, prog_14_method_87_code, 6, (Option.some Jvm.ClassFile.FieldType.int)), 12, false, mj_dec prog_14_method_87_code) := rfl
theorem dm_X12_list_0 : mj_dec prog_14_method_87_code 0 = some (.aload_n 0, 1) := by decide +kernel
theorem dm_X12_list_1 : mj_dec prog_14_method_87_code 1 = some (.invokevirtual 457, 3) := by decide +kernel
theorem dm_X12_list_4 : mj_dec prog_14_method_87_code 4 = some (.iconst (-1), 1) := by decide +kernel
theorem dm_X12_list_5 : mj_dec prog_14_method_87_code 5 = some (.istore_n 2, 1) := by decide +kernel
theorem dm_X12_list_6 : mj_dec prog_14_method_87_code 6 = some (.iconst 0, 1) := by decide +kernel
theorem dm_X12_list_7 : mj_dec prog_14_method_87_code 7 = some (.istore_n 3, 1) := by decide +kernel
theorem dm_X12_list_8 : mj_dec prog_14_method_87_code 8 = some (.aload_n 0, 1) := by decide +kernel
theorem dm_X12_list_9 : mj_dec prog_14_method_87_code 9 = some (.getfield 427, 3) := by decide +kernel
theorem dm_X12_list_12 : mj_dec prog_14_method_87_code 12 = some (.ifCond .ge 16, 3) := by decide +kernel
theorem dm_X12_list_15 : mj_dec prog_14_method_87_code 15 = some (.aload_n 0, 1) := by decide +kernel
theorem dm_X12_list_16 : mj_dec prog_14_method_87_code 16 = some (.bipush 41, 2) := by decide +kernel
theorem dm_X12_list_18 : mj_dec prog_14_method_87_code 18 = some (.invokevirtual 440, 3) := by decide +kernel
theorem dm_X12_list_21 : mj_dec prog_14_method_87_code 21 = some (.ifCond .ne 7, 3) := by decide +kernel
theorem dm_X12_list_24 : mj_dec prog_14_method_87_code 24 = some (.iconst 1, 1) := by decide +kernel
theorem dm_X12_list_25 : mj_dec prog_14_method_87_code 25 = some (.goto 4, 3) := by decide +kernel
theorem dm_X12_list_28 : mj_dec prog_14_method_87_code 28 = some (.iconst 0, 1) := by decide +kernel
theorem dm_X12_list_29 : mj_dec prog_14_method_87_code 29 = some (.istore 4, 2) := by decide +kernel
theorem dm_X12_list_31 : mj_dec prog_14_method_87_code 31 = some (.iload 4, 2) := by decide +kernel
theorem dm_X12_list_33 : mj_dec prog_14_method_87_code 33 = some (.ifCond .eq 59, 3) := by decide +kernel
theorem dm_X12_list_36 : mj_dec prog_14_method_87_code 36 = some (.aload_n 0, 1) := by decide +kernel
theorem dm_X12_list_37 : mj_dec prog_14_method_87_code 37 = some (.getfield 427, 3) := by decide +kernel
theorem dm_X12_list_40 : mj_dec prog_14_method_87_code 40 = some (.ifCond .ge 52, 3) := by decide +kernel
theorem dm_X12_list_43 : mj_dec prog_14_method_87_code 43 = some (.aload_n 0, 1) := by decide +kernel
theorem dm_X12_list_44 : mj_dec prog_14_method_87_code 44 = some (.invokevirtual 460, 3) := by decide +kernel
theorem dm_X12_list_47 : mj_dec prog_14_method_87_code 47 = some (.istore 5, 2) := by decide +kernel
theorem dm_X12_list_49 : mj_dec prog_14_method_87_code 49 = some (.aload_n 0, 1) := by decide +kernel
theorem dm_X12_list_50 : mj_dec prog_14_method_87_code 50 = some (.getfield 427, 3) := by decide +kernel
theorem dm_X12_list_53 : mj_dec prog_14_method_87_code 53 = some (.ifCond .lt 5, 3) := by decide +kernel
theorem dm_X12_list_56 : mj_dec prog_14_method_87_code 56 = some (.iconst (-1), 1) := by decide +kernel
theorem dm_X12_list_57 : mj_dec prog_14_method_87_code 57 = some (.ireturn, 1) := by decide +kernel
theorem dm_X12_list_58 : mj_dec prog_14_method_87_code 58 = some (.aload_n 0, 1) := by decide +kernel
theorem dm_X12_list_59 : mj_dec prog_14_method_87_code 59 = some (.getfield 90, 3) := by decide +kernel
theorem dm_X12_list_62 : mj_dec prog_14_method_87_code 62 = some (.iload 5, 2) := by decide +kernel
theorem dm_X12_list_64 : mj_dec prog_14_method_87_code 64 = some (.iload_n 2, 1) := by decide +kernel
theorem dm_X12_list_65 : mj_dec prog_14_method_87_code 65 = some (.iastore, 1) := by decide +kernel
theorem dm_X12_list_66 : mj_dec prog_14_method_87_code 66 = some (.iload 5, 2) := by decide +kernel
theorem dm_X12_list_68 : mj_dec prog_14_method_87_code 68 = some (.istore_n 2, 1) := by decide +kernel
theorem dm_X12_list_69 : mj_dec prog_14_method_87_code 69 = some (.iinc 3 1, 3) := by decide +kernel
theorem dm_X12_list_72 : mj_dec prog_14_method_87_code 72 = some (.aload_n 0, 1) := by decide +kernel
theorem dm_X12_list_73 : mj_dec prog_14_method_87_code 73 = some (.bipush 59, 2) := by decide +kernel
theorem dm_X12_list_75 : mj_dec prog_14_method_87_code 75 = some (.invokevirtual 440, 3) := by decide +kernel
theorem dm_X12_list_78 : mj_dec prog_14_method_87_code 78 = some (.istore 4, 2) := by decide +kernel
theorem dm_X12_list_80 : mj_dec prog_14_method_87_code 80 = some (.iload 4, 2) := by decide +kernel
theorem dm_X12_list_82 : mj_dec prog_14_method_87_code 82 = some (.ifCond .eq 7, 3) := by decide +kernel
theorem dm_X12_list_85 : mj_dec prog_14_method_87_code 85 = some (.aload_n 0, 1) := by decide +kernel
theorem dm_X12_list_86 : mj_dec prog_14_method_87_code 86 = some (.invokevirtual 437, 3) := by decide +kernel
theorem dm_X12_list_89 : mj_dec prog_14_method_87_code 89 = some (.goto (-58), 3) := by decide +kernel
theorem dm_X12_list_92 : mj_dec prog_14_method_87_code 92 = some (.aload_n 0, 1) := by decide +kernel
theorem dm_X12_list_93 : mj_dec prog_14_method_87_code 93 = some (.bipush 41, 2) := by decide +kernel
theorem dm_X12_list_95 : mj_dec prog_14_method_87_code 95 = some (.invokevirtual 466, 3) := by decide +kernel
theorem dm_X12_list_98 : mj_dec prog_14_method_87_code 98 = some (.aload_n 0, 1) := by decide +kernel
theorem dm_X12_list_99 : mj_dec prog_14_method_87_code 99 = some (.iconst 3, 1) := by decide +kernel
theorem dm_X12_list_100 : mj_dec prog_14_method_87_code 100 = some (.iload_n 2, 1) := by decide +kernel
theorem dm_X12_list_101 : mj_dec prog_14_method_87_code 101 = some (.iload_n 3, 1) := by decide +kernel
theorem dm_X12_list_102 : mj_dec prog_14_method_87_code 102 = some (.iconst 0, 1) := by decide +kernel
theorem dm_X12_list_103 : mj_dec prog_14_method_87_code 103 = some (.iload_n 1, 1) := by decide +kernel
theorem dm_X12_list_104 : mj_dec prog_14_method_87_code 104 = some (.invokevirtual 450, 3) := by decide +kernel
theorem dm_X12_list_107 : mj_dec prog_14_method_87_code 107 = some (.ireturn, 1) := by decide +kernel
theorem r_list_ {xt : mj_X} {d o f : Nat} {pre post : mj_H} {s : RS} {bf : Nat → Int} {ln n m hi i mk : Nat} {F : Nat → Int → Bool} {T : Nat → Tok} (hm : pre.length = 102) (hd : 6 * (12 - o) + 18 ≤ d) (hT : T = tkI bf ln F) (hK : TOKS T mk ln) (hR : RD bf ln F n m hi s i) (hE : ∀ g, g ≤ f → RE xt pre post bf ln F T mk n m hi g) (ho : s.1 51 = (o : Int)) (h52 : s.1 52 = -1) (hRM : RM T ln s i) (ho12 : o ≤ 12) (hhi : mk ≤ hi) (hmk40 : isMk T i 40) (hf : 8 * (mk - (i + 1)) + 7 ≤ f + 1) : pgV xt d 229 [.ref 102, ii ((tqP (T i) : Nat) : Int)] (rS pre post s) (RQ pre post bf ln F T n m hi s (f + 2) 3 o i 0) := by
  have h40 := hmk40
  have hil := TOKS_lt hK (i := i) (by have := hmk40.1; omega)
  have hPi := hK.2.2.2.2.2.2.1 i hil
  have hPi1 := P_ln hK (i + 1)
  have hln := hK.2.1
  have hmk200 := hK.1
  have hs7 := hmk40.1
  refine x_enter pm_X12_list (L0 := [(0, .ref 102), (1, ii ((tqP (T i) : Nat) : Int))]) rfl (Nat.le_of_ble_eq_true rfl) (by omega) ?_
  refine me1 (pc' := 1) (L' := [(0, .ref 102), (1, ii ((tqP (T i) : Nat) : Int))]) (S' := [.ref 102]) dm_X12_list_0 rfl rfl rfl rfl ?_
  by_cases ho2 : o = 12
  · refine x_cn (pc' := 4) (rest := []) dm_X12_list_1 rfl (q_inv (As := []) (S := []) hm rfl rfl rfl) rfl rfl rfl (r_opensF (s := s) (i := i) hm (by omega) hT hK hR ho ho2 h52) ?_
    rintro _ ⟨t1, rfl, hk1, h1b⟩
    obtain ⟨-, k3, k4, k5, -⟩ := id hk1
    refine me0 (pc' := 5) (S' := [ii (-1)]) dm_X12_list_4 rfl rfl rfl rfl ?_
    refine me1 (pc' := 6) (L' := [(2, ii (-1)), (0, .ref 102), (1, ii ((tqP (T i) : Nat) : Int))]) (S' := []) dm_X12_list_5 rfl rfl rfl rfl ?_
    refine me0 (pc' := 7) (S' := [ii 0]) dm_X12_list_6 rfl rfl rfl rfl ?_
    refine me1 (pc' := 8) (L' := [(3, ii 0), (2, ii (-1)), (0, .ref 102), (1, ii ((tqP (T i) : Nat) : Int))]) (S' := []) dm_X12_list_7 rfl rfl rfl rfl ?_
    refine me1 (pc' := 9) (L' := [(3, ii 0), (2, ii (-1)), (0, .ref 102), (1, ii ((tqP (T i) : Nat) : Int))]) (S' := [.ref 102]) dm_X12_list_8 rfl rfl rfl rfl ?_
    refine me3 (pc' := 12) (S' := [ii (t1.1 52)]) dm_X12_list_9 (q_geti (v := t1.1 52) hm rfl (fun m i l => rg_52 m i l) rfl) rfl rfl rfl ?_
    refine y_1ge (a := t1.1 52) (t := 28) (pc' := 15) dm_X12_list_12 rfl rfl (by omega) (fun hb1 => ?_) (fun hb1 => ?_)
    · refine me0 (pc' := 29) (S' := [ii 0]) dm_X12_list_28 rfl rfl rfl rfl ?_
      refine me1 (pc' := 31) (L' := [(4, ii 0), (3, ii 0), (2, ii (-1)), (0, .ref 102), (1, ii ((tqP (T i) : Nat) : Int))]) (S' := []) dm_X12_list_29 rfl rfl rfl rfl ?_
      refine me1 (pc' := 33) (L' := [(4, ii 0), (3, ii 0), (2, ii (-1)), (0, .ref 102), (1, ii ((tqP (T i) : Nat) : Int))]) (S' := [ii 0]) dm_X12_list_31 rfl rfl rfl rfl ?_
      refine me_1t (pc' := 92) dm_X12_list_33 rfl (by decide) ?_
      refine me1 (pc' := 93) (L' := [(4, ii 0), (3, ii 0), (2, ii (-1)), (0, .ref 102), (1, ii ((tqP (T i) : Nat) : Int))]) (S' := [.ref 102]) dm_X12_list_92 rfl rfl rfl rfl ?_
      refine me0 (pc' := 95) (S' := [ii 41, .ref 102]) dm_X12_list_93 rfl rfl rfl rfl ?_
      refine x_cn (pc' := 98) (rest := []) dm_X12_list_95 rfl (q_inv (As := [ii 41]) (S := []) hm rfl rfl rfl) rfl rfl rfl (r_closesB (s := t1) hm (by omega) (by omega)) ?_
      rintro _ ⟨t2, rfl, hk2, h2b⟩
      obtain ⟨-, k23, k24, k25, -⟩ := id hk2
      obtain ⟨y1, y2, y3, y4, y5, y6⟩ := id hRM
      refine me1 (pc' := 99) (L' := [(4, ii 0), (3, ii 0), (2, ii (-1)), (0, .ref 102), (1, ii ((tqP (T i) : Nat) : Int))]) (S' := [.ref 102]) dm_X12_list_98 rfl rfl rfl rfl ?_
      refine me0 (pc' := 100) (S' := [ii 3, .ref 102]) dm_X12_list_99 rfl rfl rfl rfl ?_
      refine me1 (pc' := 101) (L' := [(4, ii 0), (3, ii 0), (2, ii (-1)), (0, .ref 102), (1, ii ((tqP (T i) : Nat) : Int))]) (S' := [ii (-1), ii 3, .ref 102]) dm_X12_list_100 rfl rfl rfl rfl ?_
      refine me1 (pc' := 102) (L' := [(4, ii 0), (3, ii 0), (2, ii (-1)), (0, .ref 102), (1, ii ((tqP (T i) : Nat) : Int))]) (S' := [ii 0, ii (-1), ii 3, .ref 102]) dm_X12_list_101 rfl rfl rfl rfl ?_
      refine me0 (pc' := 103) (S' := [ii 0, ii 0, ii (-1), ii 3, .ref 102]) dm_X12_list_102 rfl rfl rfl rfl ?_
      refine me1 (pc' := 104) (L' := [(4, ii 0), (3, ii 0), (2, ii (-1)), (0, .ref 102), (1, ii ((tqP (T i) : Nat) : Int))]) (S' := [ii ((tqP (T i) : Nat) : Int), ii 0, ii 0, ii (-1), ii 3, .ref 102]) dm_X12_list_103 rfl rfl rfl rfl ?_
      obtain ⟨N, hN⟩ : ∃ N : Nat, t2.1 50 = (N : Int) := ⟨(t2.1 50).toNat, by omega⟩
      refine x_cv (pc' := 107) (rest := []) dm_X12_list_104 rfl (q_inv (As := [ii 3, ii (-1), ii 0, ii 0, ii ((tqP (T i) : Nat) : Int)]) (S := []) hm rfl rfl rfl) rfl rfl rfl (r_node_ (s := t2) (N := N) hm (by omega) hN (by omega)) ?_
      rintro _ _ ⟨rfl, rfl⟩
      refine y_ret (r := some (ii (N : Int))) dm_X12_list_107 rfl rfl rfl ?_
      have ni := nod_i t2 N 3 (-1) 0 0 ((tqP (T i) : Nat) : Int)
      have na := nod_at t2 N 3 (-1) 0 0 ((tqP (T i) : Nat) : Int)
      have nr := rdR_nod hN 3 (-1) 0 0 ((tqP (T i) : Nat) : Int)
      have n3 := ni.2 3 (by decide)
      have n4 := ni.2 4 (by decide)
      have n51 := ni.2 51 (by decide)
      have n52 := ni.2 52 (by decide)
      have n50 := ni.1
      exact ⟨_, rfl, RQ_ie (pR3_x (by omega) (fun z => by have := z.2; omega) (fun z => by have := z.2; omega)) (rdR_tr (rdR_tr hk1.1 hk2.1) nr) (by rw [n52, h2b, h1b]) ⟨by omega, by omega, by omega⟩⟩
    · exfalso; omega
  · refine x_cn (pc' := 4) (rest := []) dm_X12_list_1 rfl (q_inv (As := []) (S := []) hm rfl rfl rfl) rfl rfl rfl (r_opensT (s := s) (i := i) hm (by omega) hT hK hR ho (by omega) (by omega)) ?_
    rintro _ ⟨t1, rfl, hk1, hR1, h1a, h1b⟩
    obtain ⟨-, k3, k4, k5, -⟩ := id hk1
    have hRM1 : RM T ln t1 (i + 1) := RM_d hRM hk1.1 (RMd_T hk1 (by omega)) (by omega)
    refine me0 (pc' := 5) (S' := [ii (-1)]) dm_X12_list_4 rfl rfl rfl rfl ?_
    refine me1 (pc' := 6) (L' := [(2, ii (-1)), (0, .ref 102), (1, ii ((tqP (T i) : Nat) : Int))]) (S' := []) dm_X12_list_5 rfl rfl rfl rfl ?_
    refine me0 (pc' := 7) (S' := [ii 0]) dm_X12_list_6 rfl rfl rfl rfl ?_
    refine me1 (pc' := 8) (L' := [(3, ii 0), (2, ii (-1)), (0, .ref 102), (1, ii ((tqP (T i) : Nat) : Int))]) (S' := []) dm_X12_list_7 rfl rfl rfl rfl ?_
    refine me1 (pc' := 9) (L' := [(3, ii 0), (2, ii (-1)), (0, .ref 102), (1, ii ((tqP (T i) : Nat) : Int))]) (S' := [.ref 102]) dm_X12_list_8 rfl rfl rfl rfl ?_
    refine me3 (pc' := 12) (S' := [ii (t1.1 52)]) dm_X12_list_9 (q_geti (v := t1.1 52) hm rfl (fun m i l => rg_52 m i l) rfl) rfl rfl rfl ?_
    refine y_1ge (a := t1.1 52) (t := 28) (pc' := 15) dm_X12_list_12 rfl rfl (by omega) (fun hb2 => ?_) (fun hb2 => ?_)
    · exfalso; omega
    · refine me1 (pc' := 16) (L' := [(3, ii 0), (2, ii (-1)), (0, .ref 102), (1, ii ((tqP (T i) : Nat) : Int))]) (S' := [.ref 102]) dm_X12_list_15 rfl rfl rfl rfl ?_
      refine me0 (pc' := 18) (S' := [ii 41, .ref 102]) dm_X12_list_16 rfl rfl rfl rfl ?_
      refine x_cp (pc' := 21) (v := zz (decide (isMk T (i + 1) 41))) (rest := []) dm_X12_list_18 rfl (q_inv (As := [ii 41]) (S := []) hm rfl rfl rfl) rfl rfl rfl (r_mkd_ (i := i + 1) hm (by omega) hT hK hR1 (by omega)) ?_
      refine y_zne (c := decide (isMk T (i + 1) 41)) (t := 28) (pc' := 24) dm_X12_list_21 rfl rfl (fun hb3 => ?_) (fun hb3 => ?_)
      · replace hb3 := dT hb3
        have hq41 := hb3
        have hil1 := TOKS_lt hK (i := i + 1) (by have := hq41.1; omega)
        have hPi2 : tqP (T (i + 1)) + 1 ≤ tqP (T (i + 2)) := hK.2.2.2.2.2.2.1 (i + 1) hil1
        refine me0 (pc' := 29) (S' := [ii 0]) dm_X12_list_28 rfl rfl rfl rfl ?_
        refine me1 (pc' := 31) (L' := [(4, ii 0), (3, ii 0), (2, ii (-1)), (0, .ref 102), (1, ii ((tqP (T i) : Nat) : Int))]) (S' := []) dm_X12_list_29 rfl rfl rfl rfl ?_
        refine me1 (pc' := 33) (L' := [(4, ii 0), (3, ii 0), (2, ii (-1)), (0, .ref 102), (1, ii ((tqP (T i) : Nat) : Int))]) (S' := [ii 0]) dm_X12_list_31 rfl rfl rfl rfl ?_
        refine me_1t (pc' := 92) dm_X12_list_33 rfl (by decide) ?_
        refine me1 (pc' := 93) (L' := [(4, ii 0), (3, ii 0), (2, ii (-1)), (0, .ref 102), (1, ii ((tqP (T i) : Nat) : Int))]) (S' := [.ref 102]) dm_X12_list_92 rfl rfl rfl rfl ?_
        refine me0 (pc' := 95) (S' := [ii 41, .ref 102]) dm_X12_list_93 rfl rfl rfl rfl ?_
        refine x_cn (pc' := 98) (rest := []) dm_X12_list_95 rfl (q_inv (As := [ii 41]) (S := []) hm rfl rfl rfl) rfl rfl rfl (r_closesT (s := t1) (i := i + 1) (o := o) hm (by omega) hT hK hR1 (by decide) h1a (h1b.trans h52) hq41 (by omega)) ?_
        rintro _ ⟨t2, rfl, hk2, hR2, h2a, h2b⟩
        obtain ⟨-, k23, k24, k25, -⟩ := id hk2
        obtain ⟨y1, y2, y3, y4, y5, y6⟩ := id hRM
        refine me1 (pc' := 99) (L' := [(4, ii 0), (3, ii 0), (2, ii (-1)), (0, .ref 102), (1, ii ((tqP (T i) : Nat) : Int))]) (S' := [.ref 102]) dm_X12_list_98 rfl rfl rfl rfl ?_
        refine me0 (pc' := 100) (S' := [ii 3, .ref 102]) dm_X12_list_99 rfl rfl rfl rfl ?_
        refine me1 (pc' := 101) (L' := [(4, ii 0), (3, ii 0), (2, ii (-1)), (0, .ref 102), (1, ii ((tqP (T i) : Nat) : Int))]) (S' := [ii (-1), ii 3, .ref 102]) dm_X12_list_100 rfl rfl rfl rfl ?_
        refine me1 (pc' := 102) (L' := [(4, ii 0), (3, ii 0), (2, ii (-1)), (0, .ref 102), (1, ii ((tqP (T i) : Nat) : Int))]) (S' := [ii 0, ii (-1), ii 3, .ref 102]) dm_X12_list_101 rfl rfl rfl rfl ?_
        refine me0 (pc' := 103) (S' := [ii 0, ii 0, ii (-1), ii 3, .ref 102]) dm_X12_list_102 rfl rfl rfl rfl ?_
        refine me1 (pc' := 104) (L' := [(4, ii 0), (3, ii 0), (2, ii (-1)), (0, .ref 102), (1, ii ((tqP (T i) : Nat) : Int))]) (S' := [ii ((tqP (T i) : Nat) : Int), ii 0, ii 0, ii (-1), ii 3, .ref 102]) dm_X12_list_103 rfl rfl rfl rfl ?_
        obtain ⟨N, hN⟩ : ∃ N : Nat, t2.1 50 = (N : Int) := ⟨(t2.1 50).toNat, by omega⟩
        refine x_cv (pc' := 107) (rest := []) dm_X12_list_104 rfl (q_inv (As := [ii 3, ii (-1), ii 0, ii 0, ii ((tqP (T i) : Nat) : Int)]) (S := []) hm rfl rfl rfl) rfl rfl rfl (r_node_ (s := t2) (N := N) hm (by omega) hN (by omega)) ?_
        rintro _ _ ⟨rfl, rfl⟩
        refine y_ret (r := some (ii (N : Int))) dm_X12_list_107 rfl rfl rfl ?_
        have ni := nod_i t2 N 3 (-1) 0 0 ((tqP (T i) : Nat) : Int)
        have na := nod_at t2 N 3 (-1) 0 0 ((tqP (T i) : Nat) : Int)
        have nr := rdR_nod hN 3 (-1) 0 0 ((tqP (T i) : Nat) : Int)
        have n3 := ni.2 3 (by decide)
        have n4 := ni.2 4 (by decide)
        have n51 := ni.2 51 (by decide)
        have n52 := ni.2 52 (by decide)
        have n50 := ni.1
        exact ⟨_, rfl, RQ_iv (B := N + 1) (pR3_0 h40 (by omega) hq41) (rdR_tr (rdR_tr hk1.1 hk2.1) nr) (RD_fr nr (tkE_nod t2 N 3 (-1) 0 0 ((tqP (T i) : Nat) : Int)) hR2) (by rw [n51]; exact h2a) (by rw [n52]; exact h2b) ⟨by omega, by omega, by (show _ + _ + (1 : Int) ≤ _; omega), by omega⟩ (by omega) (by omega) (by omega) ((rR_g0 h40 hq41).mpr ⟨by omega, na.1, na.2.1, na.2.2.1, na.2.2.2.2.1⟩)⟩
      · replace hb3 := dF hb3
        have hn41 := hb3
        refine me0 (pc' := 25) (S' := [ii 1]) dm_X12_list_24 rfl rfl rfl rfl ?_
        refine me2 (pc' := 29) (S' := [ii 1]) dm_X12_list_25 rfl rfl rfl ?_
        refine me1 (pc' := 31) (L' := [(4, ii 1), (3, ii 0), (2, ii (-1)), (0, .ref 102), (1, ii ((tqP (T i) : Nat) : Int))]) (S' := []) dm_X12_list_29 rfl rfl rfl rfl ?_
        refine me1 (pc' := 33) (L' := [(4, ii 1), (3, ii 0), (2, ii (-1)), (0, .ref 102), (1, ii ((tqP (T i) : Nat) : Int))]) (S' := [ii 1]) dm_X12_list_31 rfl rfl rfl rfl ?_
        refine me_1f (pc' := 36) dm_X12_list_33 rfl (by decide) rfl ?_
        refine me1 (pc' := 37) (L' := [(4, ii 1), (3, ii 0), (2, ii (-1)), (0, .ref 102), (1, ii ((tqP (T i) : Nat) : Int))]) (S' := [.ref 102]) dm_X12_list_36 rfl rfl rfl rfl ?_
        refine me3 (pc' := 40) (S' := [ii (t1.1 52)]) dm_X12_list_37 (q_geti (v := t1.1 52) hm rfl (fun m i l => rg_52 m i l) rfl) rfl rfl rfl ?_
        refine y_1ge (a := t1.1 52) (t := 92) (pc' := 43) dm_X12_list_40 rfl rfl (by omega) (fun hb4 => ?_) (fun hb4 => ?_)
        · exfalso; omega
        · have lp43 : ∀ (n43 : Nat) (c : Nat) (a : Nat) (g : Nat) (x : Int) (z : RS), mk + 1 - a = n43 → (LJ bf ln F T mk n m hi f (o + 1) (i + 1) t1 c a g x z) → pgE xt (d - 1) 12 6 false (Option.some Jvm.ClassFile.FieldType.int) (mj_dec prog_14_method_87_code) 43 [(0, .ref 102), (1, ii ((tqP (T i) : Nat) : Int)), (2, ii x), (3, ii ((c : Nat) : Int))] [] (rI pre post z.1 z.2.1 z.2.2.1 z.2.2.2) (fun r h' => ∃ x, r = some x ∧ RQ pre post bf ln F T n m hi s (f + 2) 3 o i 0 x h') := by
            intro n43
            induction n43 using Nat.strongRecOn with
            | ind n43 ih43 =>
              intro c a g x z hm43 hL
              obtain ⟨z1, z2, z3, z4, z5, z6, z7, z8, z9, z10, -⟩ := id hL
              have zRM := RM_d hRM1 z4 z10 (by decide)
              have hg : g = (g - 1) + 1 := by omega
              refine me1 (pc' := 44) (L' := [(0, .ref 102), (1, ii ((tqP (T i) : Nat) : Int)), (2, ii x), (3, ii ((c : Nat) : Int))]) (S' := [.ref 102]) dm_X12_list_43 rfl rfl rfl rfl ?_
              rcases e : pR T g 0 (o + 1) a with p_e | j_e
              · refine x_cv (pc' := 47) (rest := []) dm_X12_list_44 rfl (q_inv (As := []) (S := []) hm rfl rfl rfl) rfl rfl rfl (hE g (by omega) _ z a (o + 1) (by omega) z1 z2 z3 zRM (by omega) (by omega) (by omega)) ?_
                rintro x1 h1 hx
                obtain ⟨t, v1, rfl, rfl, tR, t52, tE⟩ := RQ_e e hx
                have hpl := pR_ln hK _ _ _ _ _ e
                refine me1 (pc' := 49) (L' := [(5, ii v1), (0, .ref 102), (1, ii ((tqP (T i) : Nat) : Int)), (2, ii x), (3, ii ((c : Nat) : Int))]) (S' := []) dm_X12_list_47 rfl rfl rfl rfl ?_
                refine me1 (pc' := 50) (L' := [(5, ii v1), (0, .ref 102), (1, ii ((tqP (T i) : Nat) : Int)), (2, ii x), (3, ii ((c : Nat) : Int))]) (S' := [.ref 102]) dm_X12_list_49 rfl rfl rfl rfl ?_
                refine me3 (pc' := 53) (S' := [ii (t.1 52)]) dm_X12_list_50 (q_geti (v := t.1 52) hm rfl (fun m i l => rg_52 m i l) rfl) rfl rfl rfl ?_
                refine y_1lt (a := t.1 52) (t := 58) (pc' := 56) dm_X12_list_53 rfl rfl (by omega) (fun hb5 => ?_) (fun hb5 => ?_)
                · exfalso; omega
                · refine me0 (pc' := 57) (S' := [ii (-1)]) dm_X12_list_56 rfl rfl rfl rfl ?_
                  refine y_ret (r := some (ii (-1))) dm_X12_list_57 rfl rfl rfl ?_
                  obtain ⟨q1, q2, q3⟩ := LJ_x (g := g - 1) (by rw [← hg]; exact hL) (by rw [← hg]; exact e) tR tE
                  exact ⟨_, rfl, RQ_ie ((pR3_l h40 (by omega) hn41).trans q3) (rdR_tr hk1.1 q1) t52 (RMe_tr (RMd_T hk1 (by omega)) (by omega) q2)⟩
              · refine x_cv (pc' := 47) (rest := []) dm_X12_list_44 rfl (q_inv (As := []) (S := []) hm rfl rfl rfl) rfl rfl rfl (hE g (by omega) _ z a (o + 1) (by omega) z1 z2 z3 zRM (by omega) (by omega) (by omega)) ?_
                rintro x1 h1 hx
                obtain ⟨t, rfl, tR, tD, t51, t52, tM, e1, B, rfl, e1a, e1b, tB, tC⟩ := RQ_v e hx
                have tM : RMd T z t a j_e 0 (-1) := tM
                have hj := pR_mk hK _ 0 _ _ _ (by omega) e
                have hjj := hj.2.2 (by decide)
                obtain ⟨m1, m2, m3⟩ := id tM
                obtain ⟨y1, y2, y3, y4, y5, y6⟩ := id zRM
                have hPj := P_ln hK j_e
                refine me1 (pc' := 49) (L' := [(5, ii (e1 : Int)), (0, .ref 102), (1, ii ((tqP (T i) : Nat) : Int)), (2, ii x), (3, ii ((c : Nat) : Int))]) (S' := []) dm_X12_list_47 rfl rfl rfl rfl ?_
                refine me1 (pc' := 50) (L' := [(5, ii (e1 : Int)), (0, .ref 102), (1, ii ((tqP (T i) : Nat) : Int)), (2, ii x), (3, ii ((c : Nat) : Int))]) (S' := [.ref 102]) dm_X12_list_49 rfl rfl rfl rfl ?_
                refine me3 (pc' := 53) (S' := [ii (t.1 52)]) dm_X12_list_50 (q_geti (v := t.1 52) hm rfl (fun m i l => rg_52 m i l) rfl) rfl rfl rfl ?_
                refine y_1lt (a := t.1 52) (t := 58) (pc' := 56) dm_X12_list_53 rfl rfl (by omega) (fun hb6 => ?_) (fun hb6 => ?_)
                · refine me1 (pc' := 59) (L' := [(5, ii (e1 : Int)), (0, .ref 102), (1, ii ((tqP (T i) : Nat) : Int)), (2, ii x), (3, ii ((c : Nat) : Int))]) (S' := [.ref 102]) dm_X12_list_58 rfl rfl rfl rfl ?_
                  refine me3 (pc' := 62) (S' := [.ref (102 + 23)]) dm_X12_list_59 (q_getr hm rfl (fun m i l => rg_48 m i l)) rfl rfl rfl ?_
                  refine me1 (pc' := 64) (L' := [(5, ii (e1 : Int)), (0, .ref 102), (1, ii ((tqP (T i) : Nat) : Int)), (2, ii x), (3, ii ((c : Nat) : Int))]) (S' := [ii (e1 : Int), .ref (102 + 23)]) dm_X12_list_62 rfl rfl rfl rfl ?_
                  refine me1 (pc' := 65) (L' := [(5, ii (e1 : Int)), (0, .ref 102), (1, ii ((tqP (T i) : Nat) : Int)), (2, ii x), (3, ii ((c : Nat) : Int))]) (S' := [ii x, ii (e1 : Int), .ref (102 + 23)]) dm_X12_list_64 rfl rfl rfl rfl ?_
                  refine me3 (pc' := 66) (S' := []) (h1 := rI pre post t.1 t.2.1 (va_up t.2.2.1 48 (va_up (t.2.2.1 48) e1 x)) t.2.2.2) dm_X12_list_65 (q_iast (j := (e1 : Int)) (k := 48) (n := 84000) hm (fun m i l I J => rc_48 m i l I J) (fun m i l I J f => rs_48 m i l I J f) (by omega) (by omega) (by decide)) rfl rfl rfl ?_
                  refine pg_cast (h2 := rI pre post ((ahS t e1 x).1) ((ahS t e1 x).2.1) ((ahS t e1 x).2.2.1) ((ahS t e1 x).2.2.2)) rfl ?_
                  refine me1 (pc' := 68) (L' := [(5, ii (e1 : Int)), (0, .ref 102), (1, ii ((tqP (T i) : Nat) : Int)), (2, ii x), (3, ii ((c : Nat) : Int))]) (S' := [ii (e1 : Int)]) dm_X12_list_66 rfl rfl rfl rfl ?_
                  refine me1 (pc' := 69) (L' := [(2, ii (e1 : Int)), (5, ii (e1 : Int)), (0, .ref 102), (1, ii ((tqP (T i) : Nat) : Int)), (3, ii ((c : Nat) : Int))]) (S' := []) dm_X12_list_68 rfl rfl rfl rfl ?_
                  refine y_iinc (pc' := 72) (L' := [(3, ii (((c : Nat) : Int) + 1)), (2, ii (e1 : Int)), (5, ii (e1 : Int)), (0, .ref 102), (1, ii ((tqP (T i) : Nat) : Int))]) dm_X12_list_69 (y_incp (a := ((c : Nat) : Int)) (c := 1) rfl rfl (by decide)) rfl ?_
                  refine pg_lc (L2 := [(3, ii ((c + 1 : Nat) : Int)), (2, ii (e1 : Int)), (5, ii (e1 : Int)), (0, .ref 102), (1, ii ((tqP (T i) : Nat) : Int))]) (by push_cast; rfl) ?_
                  refine me1 (pc' := 73) (L' := [(3, ii ((c + 1 : Nat) : Int)), (2, ii (e1 : Int)), (5, ii (e1 : Int)), (0, .ref 102), (1, ii ((tqP (T i) : Nat) : Int))]) (S' := [.ref 102]) dm_X12_list_72 rfl rfl rfl rfl ?_
                  refine me0 (pc' := 75) (S' := [ii 59, .ref 102]) dm_X12_list_73 rfl rfl rfl rfl ?_
                  by_cases hmk : isMk T j_e 59
                  · have hjl := TOKS_lt hK (i := j_e) (by have := hmk.1; omega)
                    refine x_cp (pc' := 78) (v := zz (decide (isMk T j_e 59))) (rest := []) dm_X12_list_75 rfl (q_inv (As := [ii 59]) (S := []) hm rfl rfl rfl) rfl rfl rfl (r_mkd_ (i := j_e) hm (by omega) hT hK (RD_ah tD) (by omega)) ?_
                    refine pg_st (S' := [ii 1]) (congrArg (fun z => z :: []) (zt hmk).symm) ?_
                    refine me1 (pc' := 80) (L' := [(4, ii 1), (3, ii ((c + 1 : Nat) : Int)), (2, ii (e1 : Int)), (5, ii (e1 : Int)), (0, .ref 102), (1, ii ((tqP (T i) : Nat) : Int))]) (S' := []) dm_X12_list_78 rfl rfl rfl rfl ?_
                    refine me1 (pc' := 82) (L' := [(4, ii 1), (3, ii ((c + 1 : Nat) : Int)), (2, ii (e1 : Int)), (5, ii (e1 : Int)), (0, .ref 102), (1, ii ((tqP (T i) : Nat) : Int))]) (S' := [ii 1]) dm_X12_list_80 rfl rfl rfl rfl ?_
                    refine me_1f (pc' := 85) dm_X12_list_82 rfl (by decide) rfl ?_
                    refine me1 (pc' := 86) (L' := [(4, ii 1), (3, ii ((c + 1 : Nat) : Int)), (2, ii (e1 : Int)), (5, ii (e1 : Int)), (0, .ref 102), (1, ii ((tqP (T i) : Nat) : Int))]) (S' := [.ref 102]) dm_X12_list_85 rfl rfl rfl rfl ?_
                    refine x_cn (pc' := 89) (rest := []) dm_X12_list_86 rfl (q_inv (As := []) (S := []) hm rfl rfl rfl) rfl rfl rfl (r_nxt (s := ahS t e1 x) (i := j_e) hm (by omega) (RD_ah tD) (by omega)) ?_
                    rintro _ ⟨u, rfl, hku, hRu⟩
                    have u52 : u.1 52 = -1 := (hku.2.2.1 52 (by decide)).trans t52
                    refine me2 (pc' := 31) (S' := []) dm_X12_list_89 rfl rfl rfl ?_
                    refine me1 (pc' := 33) (L' := [(4, ii 1), (3, ii ((c + 1 : Nat) : Int)), (2, ii (e1 : Int)), (5, ii (e1 : Int)), (0, .ref 102), (1, ii ((tqP (T i) : Nat) : Int))]) (S' := [ii 1]) dm_X12_list_31 rfl rfl rfl rfl ?_
                    refine me_1f (pc' := 36) dm_X12_list_33 rfl (by decide) rfl ?_
                    refine me1 (pc' := 37) (L' := [(4, ii 1), (3, ii ((c + 1 : Nat) : Int)), (2, ii (e1 : Int)), (5, ii (e1 : Int)), (0, .ref 102), (1, ii ((tqP (T i) : Nat) : Int))]) (S' := [.ref 102]) dm_X12_list_36 rfl rfl rfl rfl ?_
                    refine me3 (pc' := 40) (S' := [ii (u.1 52)]) dm_X12_list_37 (q_geti (v := u.1 52) hm rfl (fun m i l => rg_52 m i l) rfl) rfl rfl rfl ?_
                    refine y_1ge (a := u.1 52) (t := 92) (pc' := 43) dm_X12_list_40 rfl rfl (by omega) (fun hb7 => ?_) (fun hb7 => ?_)
                    · exfalso; omega
                    · exact pg_sub (L := [(0, .ref 102), (1, ii ((tqP (T i) : Nat) : Int)), (2, ii (e1 : Int)), (3, ii (((c + 1) : Nat) : Int))]) rfl rfl rfl (ih43 (mk + 1 - (j_e + 1)) (by omega) (c + 1) (j_e + 1) (g - 1) (e1 : Int) u rfl (LJ_s (g := g - 1) hK (by rw [← hg]; exact hL) (by rw [← hg]; exact e) hmk tR e1a e1b tB (by rw [← hg]; exact tC) tM (rdT_tk hku) t51 (hku.2.2.1 51 (by decide)) u52 hRu ⟨hjj, hjl⟩))
                  · obtain ⟨q1, q2, q3, q4, q5⟩ := LJ_e (g := g - 1) (by rw [← hg]; exact hL) (by rw [← hg]; exact e) hmk tR e1a e1b tB (by rw [← hg]; exact tC) tM
                    refine x_cp (pc' := 78) (v := zz (decide (isMk T j_e 59))) (rest := []) dm_X12_list_75 rfl (q_inv (As := [ii 59]) (S := []) hm rfl rfl rfl) rfl rfl rfl (r_mkd_ (i := j_e) hm (by omega) hT hK (RD_ah tD) (by omega)) ?_
                    refine pg_st (S' := [ii 0]) (congrArg (fun z => z :: []) (zf hmk).symm) ?_
                    refine me1 (pc' := 80) (L' := [(4, ii 0), (3, ii ((c + 1 : Nat) : Int)), (2, ii (e1 : Int)), (5, ii (e1 : Int)), (0, .ref 102), (1, ii ((tqP (T i) : Nat) : Int))]) (S' := []) dm_X12_list_78 rfl rfl rfl rfl ?_
                    refine me1 (pc' := 82) (L' := [(4, ii 0), (3, ii ((c + 1 : Nat) : Int)), (2, ii (e1 : Int)), (5, ii (e1 : Int)), (0, .ref 102), (1, ii ((tqP (T i) : Nat) : Int))]) (S' := [ii 0]) dm_X12_list_80 rfl rfl rfl rfl ?_
                    refine me_1t (pc' := 89) dm_X12_list_82 rfl (by decide) ?_
                    refine me2 (pc' := 31) (S' := []) dm_X12_list_89 rfl rfl rfl ?_
                    refine me1 (pc' := 33) (L' := [(4, ii 0), (3, ii ((c + 1 : Nat) : Int)), (2, ii (e1 : Int)), (5, ii (e1 : Int)), (0, .ref 102), (1, ii ((tqP (T i) : Nat) : Int))]) (S' := [ii 0]) dm_X12_list_31 rfl rfl rfl rfl ?_
                    refine me_1t (pc' := 92) dm_X12_list_33 rfl (by decide) ?_
                    refine me1 (pc' := 93) (L' := [(4, ii 0), (3, ii ((c + 1 : Nat) : Int)), (2, ii (e1 : Int)), (5, ii (e1 : Int)), (0, .ref 102), (1, ii ((tqP (T i) : Nat) : Int))]) (S' := [.ref 102]) dm_X12_list_92 rfl rfl rfl rfl ?_
                    refine me0 (pc' := 95) (S' := [ii 41, .ref 102]) dm_X12_list_93 rfl rfl rfl rfl ?_
                    by_cases hm41 : isMk T j_e 41
                    · have hjl := TOKS_lt hK (i := j_e) (by have := hm41.1; omega)
                      refine x_cn (pc' := 98) (rest := []) dm_X12_list_95 rfl (q_inv (As := [ii 41]) (S := []) hm rfl rfl rfl) rfl rfl rfl (r_closesT (s := ahS t e1 x) (i := j_e) (o := o) hm (by omega) hT hK (RD_ah tD) (by decide) t51 t52 hm41 (by omega)) ?_
                      rintro _ ⟨t2, rfl, hk2, hR2, h2a, h2b⟩
                      obtain ⟨-, k23, k24, k25, -⟩ := id hk2
                      have k25 : t2.1 50 = t.1 50 := k25
                      have k23 : t2.1 3 = t.1 3 := k23
                      have k24 : t2.1 4 = t.1 4 := k24
                      refine me1 (pc' := 99) (L' := [(4, ii 0), (3, ii ((c + 1 : Nat) : Int)), (2, ii (e1 : Int)), (5, ii (e1 : Int)), (0, .ref 102), (1, ii ((tqP (T i) : Nat) : Int))]) (S' := [.ref 102]) dm_X12_list_98 rfl rfl rfl rfl ?_
                      refine me0 (pc' := 100) (S' := [ii 3, .ref 102]) dm_X12_list_99 rfl rfl rfl rfl ?_
                      refine me1 (pc' := 101) (L' := [(4, ii 0), (3, ii ((c + 1 : Nat) : Int)), (2, ii (e1 : Int)), (5, ii (e1 : Int)), (0, .ref 102), (1, ii ((tqP (T i) : Nat) : Int))]) (S' := [ii (e1 : Int), ii 3, .ref 102]) dm_X12_list_100 rfl rfl rfl rfl ?_
                      refine me1 (pc' := 102) (L' := [(4, ii 0), (3, ii ((c + 1 : Nat) : Int)), (2, ii (e1 : Int)), (5, ii (e1 : Int)), (0, .ref 102), (1, ii ((tqP (T i) : Nat) : Int))]) (S' := [ii ((c + 1 : Nat) : Int), ii (e1 : Int), ii 3, .ref 102]) dm_X12_list_101 rfl rfl rfl rfl ?_
                      refine me0 (pc' := 103) (S' := [ii 0, ii ((c + 1 : Nat) : Int), ii (e1 : Int), ii 3, .ref 102]) dm_X12_list_102 rfl rfl rfl rfl ?_
                      refine me1 (pc' := 104) (L' := [(4, ii 0), (3, ii ((c + 1 : Nat) : Int)), (2, ii (e1 : Int)), (5, ii (e1 : Int)), (0, .ref 102), (1, ii ((tqP (T i) : Nat) : Int))]) (S' := [ii ((tqP (T i) : Nat) : Int), ii 0, ii ((c + 1 : Nat) : Int), ii (e1 : Int), ii 3, .ref 102]) dm_X12_list_103 rfl rfl rfl rfl ?_
                      obtain ⟨N, hN⟩ : ∃ N : Nat, t2.1 50 = (N : Int) := ⟨(t2.1 50).toNat, by omega⟩
                      refine x_cv (pc' := 107) (rest := []) dm_X12_list_104 rfl (q_inv (As := [ii 3, ii (e1 : Int), ii ((c + 1 : Nat) : Int), ii 0, ii ((tqP (T i) : Nat) : Int)]) (S := []) hm rfl rfl rfl) rfl rfl rfl (r_node_ (s := t2) (N := N) hm (by omega) hN (by omega)) ?_
                      rintro _ _ ⟨rfl, rfl⟩
                      refine y_ret (r := some (ii (N : Int))) dm_X12_list_107 rfl rfl rfl ?_
                      have ni := nod_i t2 N 3 (e1 : Int) ((c + 1 : Nat) : Int) 0 ((tqP (T i) : Nat) : Int)
                      have na := nod_at t2 N 3 (e1 : Int) ((c + 1 : Nat) : Int) 0 ((tqP (T i) : Nat) : Int)
                      have nr := rdR_nod hN 3 (e1 : Int) ((c + 1 : Nat) : Int) 0 ((tqP (T i) : Nat) : Int)
                      have n3 := ni.2 3 (by decide)
                      have n4 := ni.2 4 (by decide)
                      have n51 := ni.2 51 (by decide)
                      have n52 := ni.2 52 (by decide)
                      have n50 := ni.1
                      obtain ⟨w1, w2, w3⟩ := id q2
                      have w1 : t.1 4 + _ ≤ _ := w1
                      have w2 : t.1 3 + _ ≤ _ := w2
                      have w3 : t.1 50 + _ + _ ≤ _ ∧ 2 * t.1 4 + _ + _ ≤ _ := w3
                      have hPj1 := hK.2.2.2.2.2.2.1 j_e hjl
                      have q9 : t1.1 50 ≤ t.1 50 := q1.2.1
                      have hcr : rR (nodS t2 N 3 (e1 : Int) ((c + 1 : Nat) : Int) 0 ((tqP (T i) : Nat) : Int)) T (f + 1) 4 (o + 1) (i + 1) (N + 1) e1 (-1) := rR_k _ _ _ _ _ _ _ _ _ _ (ndK_d (rdR_tr hk2.1 nr) (show ((B : Nat) : Int) ≤ t.1 50 by omega)) (by omega) q4
                      exact ⟨_, rfl, RQ_iv (B := N + 1) ((pR3_l h40 (by omega) hn41).trans (q5.trans (if_pos hm41))) (rdR_tr (rdR_tr hk1.1 q1) (rdR_tr hk2.1 nr)) (RD_fr nr (tkE_nod t2 N 3 (e1 : Int) ((c + 1 : Nat) : Int) 0 ((tqP (T i) : Nat) : Int)) hR2) (by rw [n51]; exact h2a) (by rw [n52]; exact h2b) ⟨by omega, by omega, by (show _ + _ + (1 : Int) ≤ _; omega), by omega⟩ (by omega) (by omega) (by omega) ((rR_g h40 hn41).mpr ⟨by omega, na.1, (by rw [na.2.2.1, q3]), na.2.2.2.2.1, e1, by omega, na.2.1, hcr⟩)⟩
                    · refine x_cn (pc' := 98) (rest := []) dm_X12_list_95 rfl (q_inv (As := [ii 41]) (S := []) hm rfl rfl rfl) rfl rfl rfl (r_closesF (s := ahS t e1 x) (i := j_e) hm (by omega) hT hK (RD_ah tD) (by decide) t52 hm41) ?_
                      rintro _ ⟨t2, rfl, hk2, h2b⟩
                      obtain ⟨-, k23, k24, k25, -⟩ := id hk2
                      have k25 : t2.1 50 = t.1 50 := k25
                      have k23 : t2.1 3 = t.1 3 := k23
                      have k24 : t2.1 4 = t.1 4 := k24
                      refine me1 (pc' := 99) (L' := [(4, ii 0), (3, ii ((c + 1 : Nat) : Int)), (2, ii (e1 : Int)), (5, ii (e1 : Int)), (0, .ref 102), (1, ii ((tqP (T i) : Nat) : Int))]) (S' := [.ref 102]) dm_X12_list_98 rfl rfl rfl rfl ?_
                      refine me0 (pc' := 100) (S' := [ii 3, .ref 102]) dm_X12_list_99 rfl rfl rfl rfl ?_
                      refine me1 (pc' := 101) (L' := [(4, ii 0), (3, ii ((c + 1 : Nat) : Int)), (2, ii (e1 : Int)), (5, ii (e1 : Int)), (0, .ref 102), (1, ii ((tqP (T i) : Nat) : Int))]) (S' := [ii (e1 : Int), ii 3, .ref 102]) dm_X12_list_100 rfl rfl rfl rfl ?_
                      refine me1 (pc' := 102) (L' := [(4, ii 0), (3, ii ((c + 1 : Nat) : Int)), (2, ii (e1 : Int)), (5, ii (e1 : Int)), (0, .ref 102), (1, ii ((tqP (T i) : Nat) : Int))]) (S' := [ii ((c + 1 : Nat) : Int), ii (e1 : Int), ii 3, .ref 102]) dm_X12_list_101 rfl rfl rfl rfl ?_
                      refine me0 (pc' := 103) (S' := [ii 0, ii ((c + 1 : Nat) : Int), ii (e1 : Int), ii 3, .ref 102]) dm_X12_list_102 rfl rfl rfl rfl ?_
                      refine me1 (pc' := 104) (L' := [(4, ii 0), (3, ii ((c + 1 : Nat) : Int)), (2, ii (e1 : Int)), (5, ii (e1 : Int)), (0, .ref 102), (1, ii ((tqP (T i) : Nat) : Int))]) (S' := [ii ((tqP (T i) : Nat) : Int), ii 0, ii ((c + 1 : Nat) : Int), ii (e1 : Int), ii 3, .ref 102]) dm_X12_list_103 rfl rfl rfl rfl ?_
                      obtain ⟨N, hN⟩ : ∃ N : Nat, t2.1 50 = (N : Int) := ⟨(t2.1 50).toNat, by omega⟩
                      refine x_cv (pc' := 107) (rest := []) dm_X12_list_104 rfl (q_inv (As := [ii 3, ii (e1 : Int), ii ((c + 1 : Nat) : Int), ii 0, ii ((tqP (T i) : Nat) : Int)]) (S := []) hm rfl rfl rfl) rfl rfl rfl (r_node_ (s := t2) (N := N) hm (by omega) hN (by omega)) ?_
                      rintro _ _ ⟨rfl, rfl⟩
                      refine y_ret (r := some (ii (N : Int))) dm_X12_list_107 rfl rfl rfl ?_
                      have ni := nod_i t2 N 3 (e1 : Int) ((c + 1 : Nat) : Int) 0 ((tqP (T i) : Nat) : Int)
                      have na := nod_at t2 N 3 (e1 : Int) ((c + 1 : Nat) : Int) 0 ((tqP (T i) : Nat) : Int)
                      have nr := rdR_nod hN 3 (e1 : Int) ((c + 1 : Nat) : Int) 0 ((tqP (T i) : Nat) : Int)
                      have n3 := ni.2 3 (by decide)
                      have n4 := ni.2 4 (by decide)
                      have n51 := ni.2 51 (by decide)
                      have n52 := ni.2 52 (by decide)
                      have n50 := ni.1
                      obtain ⟨w1, w2, w3⟩ := id q2
                      have w1 : t.1 4 + _ ≤ _ := w1
                      have w2 : t.1 3 + _ ≤ _ := w2
                      have w3 : t.1 50 + _ + _ ≤ _ ∧ 2 * t.1 4 + _ + _ ≤ _ := w3
                      exact ⟨_, rfl, RQ_ie ((pR3_l h40 (by omega) hn41).trans (q5.trans (if_neg hm41))) (rdR_tr (rdR_tr hk1.1 q1) (rdR_tr hk2.1 nr)) (by rw [n52, h2b]) ⟨by omega, by omega, by omega⟩⟩
                · exfalso; omega
          exact pg_sub (L := [(0, .ref 102), (1, ii ((tqP (T i) : Nat) : Int)), (2, ii (-1)), (3, ii ((0 : Nat) : Int))]) rfl rfl rfl (lp43 _ 0 (i + 1) f (-1) t1 rfl (LJ_0 hR1 h1a (h1b.trans h52) (by omega) hf))
