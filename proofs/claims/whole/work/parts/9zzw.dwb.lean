/-! the reference does: all of it -/
section alls
variable {xt : mj_X} {pre post : mj_H} {Nv : Int → Option VV} {Fn : Int → Option (Nat → Tok)} {x y : Option VV} {T : Nat → Tok} {k mk ln : Nat}
/-- what a base noun's node is -/
theorem rR3_w {s : RS} {f o i B n : Nat} {X : Int} (h : rR s T f 3 o i B n X) (hB : B ≤ 84000) : n < 84000 ∧ s.2.2.1 43 n ≠ 5 ∧ 0 ≤ s.2.2.1 43 n ∧ s.2.2.1 43 n ≤ 100 := by
  cases f with
  | zero => exact h.elim
  | succ f =>
    by_cases h1 : tqS (T i) = 1
    · obtain ⟨a, b, -⟩ := (rR_nu h1).mp h
      omega
    rw [rR_m3 h1] at h
    by_cases h2 : tqS (T i) = 2
    · rw [if_pos h2] at h; obtain ⟨a, b, -⟩ := h; omega
    rw [if_neg h2] at h
    by_cases h3 : tqS (T i) = 3
    · rw [if_pos h3] at h; obtain ⟨a, b, -⟩ := h; omega
    rw [if_neg h3] at h
    by_cases h40 : isMk T i 40
    · rw [if_pos h40] at h
      by_cases h41 : isMk T (i + 1) 41
      · rw [if_pos h41] at h; obtain ⟨a, b, -⟩ := h; omega
      · rw [if_neg h41] at h; obtain ⟨a, b, -⟩ := h; omega
    rw [if_neg h40] at h
    rcases hj : pR T f 0 (o + 1) (i + 1) with e | j1
    · rw [hj] at h; exact h.elim
    rw [hj] at h
    have h : (match pR T f 0 (o + 1) (j1 + 1) with | .inl _ => False | .inr k => ∃ a b c : Nat, (n < B ∧ a < B ∧ b < B ∧ c < B) ∧ rR s T f 0 (o + 1) (i + 1) B a (-1) ∧ rR s T f 0 (o + 1) (j1 + 1) B b (-1) ∧ rR s T f 0 (o + 1) (k + 1) B c (-1) ∧ s.2.2.1 43 n = 4 ∧ s.2.2.1 44 n = (a : Int) ∧ s.2.2.1 45 n = (b : Int) ∧ s.2.2.1 46 n = (c : Int) ∧ s.2.2.1 47 n = (tqP (T i) : Int)) := h
    rcases hj2 : pR T f 0 (o + 1) (j1 + 1) with e | j2
    · rw [hj2] at h; exact h.elim
    rw [hj2] at h
    obtain ⟨a, b, c, ⟨h4, -⟩, -, -, -, h5, -⟩ := h
    omega
theorem CN_m1 {f : Nat} (hm : pre.length = 102) (hRT : RST2) (hRP : RPA) (hK : TOKS T mk ln) (ih3 : CN xt pre post Nv Fn x y T k mk 3 90 f) (ihC : ∀ g, g < f → CX0 xt pre post Nv Fn x y T k mk g) : CN xt pre post Nv Fn x y T k mk 1 92 (f + 1) := by
  intro d W n o i j B N X s hi hpR ho hd hN hO hE hB hn hr
  have k10 : k ≤ 10 := hO.2.2.1.1
  have h13 := hO.2.2.2.2.1
  rcases hj : pR T f 3 o i with e | j1
  · rw [show pR T (f + 1) 1 o i = .inl e from pR1_e hj] at hpR; cases hpR
  rw [show pR T (f + 1) 1 o i = pR T f 2 o j1 from pR1_n hj] at hpR
  obtain ⟨n0, hr3, hr2⟩ := (rR_1 hj).mp hr
  have hjm := pR_mk hK f 3 o i j1 hi hj
  have hj2 := pR_mk hK f 2 o j1 j hjm.2.1 hpR
  have e0 : eS Nv Fn x y T k s (f + 1) 1 o i W = eE (eC Nv Fn k) T Nv x y (cpS s) f 2 o j1 (fun W => eS Nv Fn x y T k s f 3 o i W) W := by
    show (match pR T f 3 o i with | .inl _ => ((W, .inl (1, 0)) : DR) | .inr j => eE (eC Nv Fn k) T Nv x y (cpS s) f 2 o j (fun W => eS Nv Fn x y T k s f 3 o i W) W) = _
    rw [hj]
  by_cases hix : isIx T j1
  · have h5n := rR2_5 f o j1 B n _ hix hr2
    have ho2 : o < 12 := by
      cases f with
      | zero => cases hpR
      | succ f =>
        by_cases z : o < 12
        · exact z
        · rw [pR2_o hix (by omega)] at hpR; cases hpR
    have hn0 := rR3_w hr3 hB
    have h0 : PLC xt pre post Nv Fn x y k s (d - 1 - 1) n0 (fun W => eS Nv Fn x y T k s f 3 o i W) ((j1 - i) + 484 + 700 * k) := PLC_0 hm (by omega) ⟨by omega, by omega, by omega⟩ (fun W t hx hf hOt hEt => by
      have := ih3 (d - 1 - 1) W n0 o i j1 B ((j1 - i) + 484 + 700 * k) 0 t hi hj ho (by omega) (Nat.le_refl _) hOt hEt hB (by omega) (rR_k _ _ _ _ _ _ _ _ _ _ (ndK_df hx hf B) (Nat.le_refl _) hr3)
      rw [eS_cp (cpS_d hf)] at this
      exact this)
    have hP := PLC_all hm hRT hRP hK hB f ihC j1 j n n0 ((j1 - i) + 484 + 700 * k) (fun W => eS Nv Fn x y T k s f 3 o i W) hjm.2.1 hpR (fun _ => by omega) hr2 (by omega) h0
    rw [show (j1 - i) + 484 + 700 * k + (j - j1) = (j - i) + 484 + 700 * k by have := hj2.1; have := hjm.1; omega] at hP
    refine n_plc hm (by omega) hn h5n.1 (p_start hm (by omega) ?_)
    refine hP.2 W s (s.1 13) _ (rext_rf s) (dfr_rf s) (Int.le_refl _) (DOK_n hO hN) hE (by omega) (fun W' e pl t he hq => ?_) (fun W' v t q he hp hg => ?_)
    · have he' : eE (eC Nv Fn k) T Nv x y (cpS s) f 2 o j1 (fun W => eS Nv Fn x y T k s f 3 o i W) W = (W', .inl (e, pl)) := he
      refine PQ_e hq ?_
      rw [e0, he']
      exact dqE_n hq (by omega)
    · have he' : eE (eC Nv Fn k) T Nv x y (cpS s) f 2 o j1 (fun W => eS Nv Fn x y T k s f 3 o i W) W = (W', .inr v) := he
      have ht : DOK t W' k N := DOK_j hO hp (by omega) (by omega)
      have hl := gr_lt ht hg
      have t13 := hp.2.2.2.2.2.2.1
      have t5 := hp.2.2.1
      refine p_end hm t5 (by omega) (by omega) (PQ_i (by omega) (by omega) ?_)
      rw [e0, he']
      exact ⟨hp, q, rfl, hg⟩
  · cases f with
    | zero => cases hpR
    | succ f =>
      have hnn : (n : Int) = (n0 : Int) := (rR_ixn hix).mp hr2
      have hnn : n = n0 := by omega
      rw [pR2_n hix] at hpR
      have hpR : j1 = j := by injection hpR
      have e1 : eE (eC Nv Fn k) T Nv x y (cpS s) (f + 1) 2 o j1 (fun W => eS Nv Fn x y T k s (f + 1) 3 o i W) W = eS Nv Fn x y T k s (f + 1) 3 o i W := if_neg hix
      rw [e0, e1, hnn]
      exact ih3 d W n0 o i j1 B N 0 s hi hj ho (by omega) (by omega) hO hE hB (by omega) hr3
/-- all that is read of one line or body -/
theorem CX_all (hm : pre.length = 102) (hRT : RST2) (hRP : RPA) (hK : TOKS T mk ln) (hT : TKO T) (hAP : ∀ i a, isDs T i → a ≤ 4 → (∀ j, j < a → tqS (T (i + 1 + j)) = 6) → CAP xt pre post Nv Fn x y T i k a) : ∀ f, CX0 xt pre post Nv Fn x y T k mk f ∧ CN xt pre post Nv Fn x y T k mk 1 92 f ∧ CN xt pre post Nv Fn x y T k mk 3 90 f ∧ CL4 xt pre post Nv Fn x y T k mk f := by
  intro f
  induction f using Nat.strongRecOn with
  | ind f ih =>
    cases f with
    | zero => exact ⟨fun d W n o i j B N X s Q _ h => (by cases h), fun d W n o i j B N X s _ h => (by cases h), fun d W n o i j B N X s _ h => (by cases h), fun d W n nn o i j B N X b s P _ h => (by cases h)⟩
    | succ f =>
      obtain ⟨i0, i1, i3, i4⟩ := ih f (by omega)
      have hC : ∀ g, g < f → CX0 xt pre post Nv Fn x y T k mk g := fun g hg => (ih g (by omega)).1
      exact ⟨CX_m0 hm hK hAP i0 i1, CN_m1 hm hRT hRP hK i3 hC, CN_m3 hm hK hT i0 hC i4, CL_m4 hm hK i0 i4⟩
theorem CEX_all (hm : pre.length = 102) (hRS : RSO) (hRT : RST2) (hRP : RPA) (hC : CCL xt pre post Nv Fn k) (f : Nat) : CEX xt pre post Nv Fn k f := by
  intro d W n o i j mk ln B T s x y hK hT hi hp ho hd hO hE hB hn hr
  exact CX0_V hm (CX_all hm hRT hRP hK hT (fun i a hi ha h6 => CAP_all hm hRS hRT hRP hT (by omega) hC a ha h6) f).1 hi hp ho hd (Nat.le_refl _) hO hE hB hn hr
/-- calls, k of which may still open -/
theorem CCL_all (hm : pre.length = 102) (hRS : RSO) (hRT : RST2) (hRP : RPA) : ∀ k, CCL xt pre post Nv Fn k := by
  intro k
  induction k with
  | zero => exact CCL_0 hm
  | succ k ih => exact CCL_s hm (CEX_all hm hRS hRT hRP ih fuR)
/-- worth -/
theorem R_worth {d W n o i j B f : Nat} {s : RS} (hm : pre.length = 102) (hRS : RSO) (hRT : RST2) (hRP : RPA) (hK : TOKS T mk ln) (hT : TKO T) (hi : i ≤ mk) (hp : pR T f 0 o i = .inr j) (ho : o ≤ 12) (hd : 100 * k + 5 * (13 - o) + 93 ≤ d) (hO : DOK s W k ((j - i) + 484 + 700 * k)) (hE : ENR Nv Fn x y k s) (hB : B ≤ 84000) (hn : n < B) (hr : rR s T f 0 o i B n (-1)) : pgV xt d 239 [.ref 102, ii (n : Int)] (rS pre post s) (RA pre post (dq s W 0 (((j - i) + 484 + 700 * k : Nat) : Int) (eE (eC Nv Fn k) T Nv x y (cpS s) f 0 o i zB W))) := CEX_all hm hRS hRT hRP (CCL_all hm hRS hRT hRP k) f d W n o i j mk ln B T s x y hK hT hi hp ho hd hO hE hB hn hr
end alls
