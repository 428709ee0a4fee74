/-! the reference does: lists, places, nouns -/
section nouns
variable {xt : mj_X} {pre post : mj_H} {Nv : Int → Option VV} {Fn : Int → Option (Nat → Tok)} {x y : Option VV} {T : Nat → Tok} {k mk ln : Nat}
theorem eS_cp {s t : RS} {f m o i W : Nat} (h : cpS t = cpS s) : eS Nv Fn x y T k t f m o i W = eS Nv Fn x y T k s f m o i W := by unfold eS; rw [h]
/-- one part more is pushed -/
theorem L_part {f d W W0 n nn o i j B N N0 m : Nat} {X b : Int} {s0 s : RS} {P : Option Value → mj_H → Prop} (hm : pre.length = 102) (h0 : CX0 xt pre post Nv Fn x y T k mk f) (hi : i ≤ mk) (hp : pR T f 0 o i = .inr j) (ho : o ≤ 12) (hd : 100 * k + 5 * (13 - o) + 93 ≤ d) (hO0 : DOK s0 W0 k N0) (hpm : PM s0 W0 0 s W m) (hN : (j - i) + 484 + 700 * k ≤ N) (hN0 : N + m + 1 ≤ N0) (hE0 : ENR Nv Fn x y k s0) (hB : B ≤ 84000) (hn : n < B) (hr : rR s0 T f 0 o i B n (-1)) (hx : s0.2.2.1 48 n = X) (hX : -1 ≤ X ∧ X < 84000)
  (kE : ∀ W' e pl t, eS Nv Fn x y T k s0 f 0 o i W = (W', .inl (e, pl)) → dqE s0 W0 (N0 : Int) W' e pl t → HL xt d pre post t nn b X P)
  (kV : ∀ W' v t u (q w1 : Nat), eS Nv Fn x y T k s0 f 0 o i W = (W', .inr v) → PM s W 0 u W' 0 → gr u q v → u.1 13 = (w1 : Int) → t = pshS u w1 (q : Int) → HL xt d pre post t nn b X P) : HL xt d pre post s nn b (n : Int) P := by
  have hk10 : k ≤ 10 := hO0.2.2.1.1
  have h13 := hO0.2.2.2.2.1
  have hO : DOK s W k N := DOK_j hO0 hpm (by omega) (by omega)
  have s13 := hpm.2.2.2.2.2.2.1
  have hw := CX0_V hm h0 hi hp ho hd hN hO (ENR_x hpm.1 hpm.2.1 hE0) hB hn (rR_k _ _ _ _ _ _ _ _ _ _ (ndK_df hpm.1 hpm.2.1 B) (Nat.le_refl _) hr)
  rw [eS_cp (PM_cp hpm)] at hw
  refine l_turn hm (by omega) hpm.2.2.1 (by omega) (fun u z hz => ?_) hw (fun u z w1 hz hw1 => ?_)
  · rcases hs : eS Nv Fn x y T k s0 f 0 o i W with ⟨W', ⟨e, pl⟩ | v⟩
    · rw [hs] at hz
      have := hz.2.2.2.2.2.2.2.1
      exact ⟨(u.1 13).toNat, by omega, by omega⟩
    · rw [hs] at hz
      have := hz.1.2.2.2.2.2.2.1
      exact ⟨(u.1 13).toNat, by omega, by omega⟩
  · rcases hs : eS Nv Fn x y T k s0 f 0 o i W with ⟨W', ⟨e, pl⟩ | v⟩
    · rw [hs] at hz
      have he := dqE_psh (z := z) (dqE_tr (nd := (N0 : Int) - 1) hpm hz (by omega) (by omega)) hw1
      rw [show (N0 : Int) - 1 + 1 = (N0 : Int) by omega] at he
      rw [dfr_a hz.2.1 (by decide), dfr_a hpm.2.1 (by decide), hx]
      exact kE W' e pl _ hs he
    · rw [hs] at hz
      obtain ⟨hz, q, rfl, hg⟩ := hz
      rw [dfr_a hz.2.1 (by decide), dfr_a hpm.2.1 (by decide), hx]
      exact kV W' v _ u q w1 hs hz hg hw1 rfl
theorem CL_m4 {f : Nat} (hm : pre.length = 102) (hK : TOKS T mk ln) (ih0 : CX0 xt pre post Nv Fn x y T k mk f) (ih4 : CL4 xt pre post Nv Fn x y T k mk f) : CL4 xt pre post Nv Fn x y T k mk (f + 1) := by
  intro d W n nn o i j B N X b s P hi hpR ho hd hN hO hE hB hX hr kE kV
  have h13 := hO.2.2.2.2.1
  have hrf := DOK_rf hO
  have hr : (match pR T f 0 o i with | .inl _ => False | .inr j => ∃ e : Nat, e < B ∧ rR s T f 0 o i B e (-1) ∧ s.2.2.1 48 e = X ∧ (if isMk T j 59 then rR s T f 4 o (j + 1) B n (e : Int) else n = e)) := hr
  have hpR : (match pR T f 0 o i with | .inl p => (.inl p : Nat ⊕ Nat) | .inr j => if isMk T j 59 then pR T f 4 o (j + 1) else if isMk T j 41 then .inr (j + 1) else .inl (tqP (T j))) = .inr j := hpR
  rcases hj : pR T f 0 o i with e | j1
  · rw [hj] at hr; exact hr.elim
  rw [hj] at hr hpR
  have hpR : (if isMk T j1 59 then pR T f 4 o (j1 + 1) else if isMk T j1 41 then .inr (j1 + 1) else .inl (tqP (T j1))) = (.inr j : Nat ⊕ Nat) := hpR
  obtain ⟨e, heB, hr0, hx, hr4⟩ := hr
  have hjm := pR_mk hK f 0 o i j1 hi hj
  have hjl := hjm.2.2 (by decide)
  have e1 : plN T (f + 1) o i = (if isMk T j1 59 then plN T f o (j1 + 1) + 1 else 1) := by
    show (match pR T f 0 o i with | .inl _ => 1 | .inr j => if isMk T j 59 then plN T f o (j + 1) + 1 else 1) = _
    rw [hj]
  have e0 : ∀ W, eS Nv Fn x y T k s (f + 1) 4 o i W = (if isMk T j1 59 then dB (eS Nv Fn x y T k s f 4 o (j1 + 1) W) (fun W r => dB (eS Nv Fn x y T k s f 0 o i W) (fun W v => (W, .inr (vnest (vm r + 1) (fun k => if k = 0 then v else vd r (k - 1)))))) else dB (eS Nv Fn x y T k s f 0 o i W) (fun W v => (W, .inr (vnest 1 (fun _ => v))))) := fun W => by
    show (match pR T f 0 o i with | .inl _ => ((W, .inl (1, 0)) : DR) | .inr j => if isMk T j 59 then dB (eS Nv Fn x y T k s f 4 o (j + 1) W) (fun W r => dB (eS Nv Fn x y T k s f 0 o i W) (fun W v => (W, .inr (vnest (vm r + 1) (fun k => if k = 0 then v else vd r (k - 1)))))) else dB (eS Nv Fn x y T k s f 0 o i W) (fun W v => (W, .inr (vnest 1 (fun _ => v))))) = _
    rw [hj]
  by_cases h59 : isMk T j1 59
  · rw [if_pos h59] at hpR hr4 e1
    have hj1 := TOKS_lt hK (i := j1) (by have := h59.1; omega)
    have hpl := plN_le hK f o (j1 + 1) j (by omega) hpR
    refine ih4 d W n nn o (j1 + 1) j B N (e : Int) b s P (by omega) hpR ho hd (by omega) hO hE hB (by omega) hr4 (fun W' er pl t X' he hq hX' => kE W' er pl t X' (by rw [e0, if_pos h59, dBe he]) hq hX') (fun W1 r t he hp hvm hch => ?_)
    refine L_part (N := (j1 - i) + 484 + 700 * k) hm ih0 hi hj ho hd hO hp (Nat.le_refl _) (by omega) hE hB heB hr0 hx hX (fun W' er pl t' he2 hq => kE W' er pl t' X (by rw [e0, if_pos h59, dBv he, dBe he2]) hq (by omega)) (fun W' v t' u q w1 he2 hz hg hw1 ht' => ?_)
    have hp2 := PM_psh (z := (q : Int)) (PM_tr hp hz) hw1
    have t13 := hp.2.2.2.2.2.2.1
    have u13 := hz.2.2.2.2.2.2.1
    subst ht'
    refine kV W' (vnest (vm r + 1) (fun k => if k = 0 then v else vd r (k - 1))) _ (by rw [e0, if_pos h59, dBv he, dBv he2]) hp2 ?_ (fun p hpp => ?_)
    · rw [e1, ← hvm]; rfl
    · have hpp : p < vm r + 1 := hpp
      show ∃ p_1 : Nat, _ ∧ gr _ p_1 (if vm r + 1 - 1 - p = 0 then v else vd r (vm r + 1 - 1 - p - 1))
      by_cases hpe : p = vm r
      · rw [if_pos (by omega), show (s.1 13).toNat + p = w1 by omega]
        exact ⟨q, psh_w, gr_x rext_psh hg⟩
      · obtain ⟨p2, g1, g2⟩ := hch p (by omega)
        rw [if_neg (by omega), show vm r + 1 - 1 - p - 1 = vm r - 1 - p by omega]
        refine ⟨p2, ?_, gr_x (rext_tr hz.1 rext_psh) g2⟩
        rw [psh_wk (by omega), hz.2.1.2.2.2.2.2 _ (by omega)]
        exact g1
  · rw [if_neg h59] at hpR hr4 e1
    subst hr4
    have h41 : isMk T j1 41 := by
      by_cases z : isMk T j1 41
      · exact z
      · rw [if_neg z] at hpR; cases hpR
    rw [if_pos h41] at hpR
    have hpR : j1 + 1 = j := by injection hpR
    refine L_part (N := (j1 - i) + 484 + 700 * k) hm ih0 hi hj ho hd hO hrf (Nat.le_refl _) (by omega) hE hB heB hr0 hx hX (fun W' er pl t' he2 hq => kE W' er pl t' X (by rw [e0, if_neg h59, dBe he2]) hq (by omega)) (fun W' v t' u q w1 he2 hz hg hw1 ht' => ?_)
    have u13 := hz.2.2.2.2.2.2.1
    subst ht'
    refine kV W' (vnest 1 (fun _ => v)) _ (by rw [e0, if_neg h59, dBv he2]) (PM_psh hz hw1) ?_ (fun p hpp => ?_)
    · rw [e1]; rfl
    · have hpp : p < 1 := hpp
      rw [show (s.1 13).toNat + p = w1 by omega]
      exact ⟨q, psh_w, gr_x rext_psh hg⟩
/-- a noun with places behind it, from its loop -/
def PLC (xt : mj_X) (pre post : mj_H) (Nv : Int → Option VV) (Fn : Int → Option (Nat → Tok)) (x y : Option VV) (k : Nat) (s0 : RS) (d n : Nat) (Bq : Nat → DR) (Nb : Nat) : Prop := (0 ≤ s0.2.2.1 43 n ∧ s0.2.2.1 43 n ≤ 100 ∧ n < 84000) ∧ ∀ (W : Nat) (s : RS) (b : Int) (P : Option Value → mj_H → Prop), rext s0 s → dfr s0 s → s0.1 13 ≤ s.1 13 → DOK s W k Nb → ENR Nv Fn x y k s → (0 ≤ b ∧ b ≤ s.1 13) →
  (∀ W' e pl t, Bq W = (W', .inl (e, pl)) → dqE s W (Nb : Int) W' e pl t → P (some (ii (-1))) (rS pre post t)) →
  (∀ W' v t (q : Nat), Bq W = (W', .inr v) → PM s W 0 t W' 0 → gr t q v → HP2 xt d pre post t b (q : Int) P) →
  HP1 xt d pre post s b (n : Int) P
theorem PLC_0 {s0 : RS} {d n Nb : Nat} {Bq : Nat → DR} (hm : pre.length = 102) (hn : n < 84000) (hw : s0.2.2.1 43 n ≠ 5 ∧ 0 ≤ s0.2.2.1 43 n ∧ s0.2.2.1 43 n ≤ 100) (h : ∀ (W : Nat) (s : RS), rext s0 s → dfr s0 s → DOK s W k Nb → ENR Nv Fn x y k s → pgV xt d 240 [.ref 102, ii (n : Int)] (rS pre post s) (RA pre post (dq s W 0 (Nb : Int) (Bq W)))) : PLC xt pre post Nv Fn x y k s0 d n Bq Nb := by
  refine ⟨⟨hw.2.1, hw.2.2, hn⟩, fun W s b P hx hf h13 hO hE hb kE kV => ?_⟩
  refine p_mid hm hn hO.2.1 (by rw [dfr_a hf (by decide)]; exact hw) (h W s hx hf hO hE) (fun u z hz => ?_)
  have o13 := hO.2.2.2.2.1
  rcases hs : Bq W with ⟨W', ⟨e, pl⟩ | v⟩
  · rw [hs] at hz
    have hz2 := hz
    obtain ⟨b1, b2, b3, b4, b5, b6, b7, b8, b9, b10⟩ := hz
    exact p_err hm (by omega) (by omega) (by omega) (kE W' e pl u hs hz2)
  · rw [hs] at hz
    obtain ⟨hz, q, rfl, hg⟩ := hz
    exact kV W' v u q hs hz hg
theorem PLC_s {s0 : RS} {f d o j jj xn pn en B Nb : Nat} {Bq : Nat → DR} (hm : pre.length = 102) (hRT : RST2) (hRP : RPA) (hK : TOKS T mk ln) (h0 : CX0 xt pre post Nv Fn x y T k mk f) (hd : 100 * k + 5 * (13 - (o + 1)) + 93 ≤ d) (ho : o + 1 ≤ 12) (hj : j + 2 ≤ mk) (hp : pR T f 0 (o + 1) (j + 2) = .inr jj) (hB : B ≤ 84000) (hpn : pn < B) (hen : en < B) (hre : rR s0 T f 0 (o + 1) (j + 2) B en (-1)) (h43 : s0.2.2.1 43 pn = 5) (h44 : s0.2.2.1 44 pn = (xn : Int)) (h45 : s0.2.2.1 45 pn = (en : Int)) (h47 : s0.2.2.1 47 pn = (tqP (T j) : Int)) (hNb : 484 + 700 * k ≤ Nb) (hx : PLC xt pre post Nv Fn x y k s0 d xn Bq Nb) : PLC xt pre post Nv Fn x y k s0 d pn (fun W => dB (eS Nv Fn x y T k s0 f 0 (o + 1) (j + 2) W) (fun W w => dB (Bq W) (fun W l => dTwo (cpS s0) W 64 l w (tqP (T j) : Int)))) (Nb + (jj + 1 - j)) := by
  obtain ⟨⟨x1, x2, x3⟩, hx⟩ := hx
  have hjj := pR_mk hK f 0 (o + 1) (j + 2) jj hj hp
  have hjl := hjj.2.2 (by decide)
  refine ⟨⟨by omega, by omega, by omega⟩, fun W s b P hxt hf h13 hO hE hb kE kV => ?_⟩
  have hrf := DOK_rf hO
  have o13 := hO.2.2.2.2.1
  have hcp : cpS s = cpS s0 := cpS_d hf
  obtain ⟨w0, hw0⟩ : ∃ w0 : Nat, s.1 13 = (w0 : Int) := ⟨(s.1 13).toNat, by omega⟩
  have hp1 := PM_psh (z := (pn : Int)) hrf hw0
  obtain ⟨s1, hs1⟩ : ∃ s1, s1 = pshS s w0 (pn : Int) := ⟨_, rfl⟩
  rw [← hs1] at hp1
  have hO1 : DOK s1 W k ((jj - (j + 2)) + 484 + 700 * k) := DOK_j hO hp1 (by omega) (by omega)
  have hf01 := dfr_tr hf hp1.2.1 h13
  have hx01 := rext_tr hxt hp1.1
  have hwo := CX0_V hm h0 hj hp ho hd (Nat.le_refl _) hO1 (ENR_x hp1.1 hp1.2.1 hE) hB hen (rR_k _ _ _ _ _ _ _ _ _ _ (ndK_df hx01 hf01 B) (Nat.le_refl _) hre)
  rw [eS_cp ((PM_cp hp1).trans hcp)] at hwo
  have s113 := hp1.2.2.2.2.2.2.1
  have a45 : s.2.2.1 45 pn = (en : Int) := by rw [dfr_a hf (by decide)]; exact h45
  have k10 : k ≤ 10 := hO.2.2.1.1
  refine p_turn1 (w0 := w0) hm (by omega) hO.2.1 (by omega) (by rw [dfr_a hf (by decide)]; exact h43) hw0 (by omega) (fun u z hz => ?_) (by rw [a45, ← hs1]; exact hwo) (fun u z w1 hz hw1 => ?_)
  · rcases hs : eS Nv Fn x y T k s0 f 0 (o + 1) (j + 2) W with ⟨W', ⟨e, pl⟩ | v⟩
    · rw [hs] at hz
      have := hz.2.2.2.2.2.2.2.1
      exact ⟨(u.1 13).toNat, by omega, by omega⟩
    · rw [hs] at hz
      have := hz.1.2.2.2.2.2.2.1
      exact ⟨(u.1 13).toNat, by omega, by omega⟩
  · rcases hs : eS Nv Fn x y T k s0 f 0 (o + 1) (j + 2) W with ⟨W', ⟨e, pl⟩ | w⟩
    · rw [hs] at hz
      have he := dqE_psh (z := z) (dqE_tr (nd := ((Nb + (jj + 1 - j) : Nat) : Int) - 1) hp1 hz (by omega) (by omega)) hw1
      rw [show ((Nb + (jj + 1 - j) : Nat) : Int) - 1 + 1 = ((Nb + (jj + 1 - j) : Nat) : Int) by omega] at he
      have hfu := dfr_tr hf01 hz.2.1 (by omega)
      rw [show u.2.2.1 44 pn = (xn : Int) by rw [dfr_a hfu (by decide)]; exact h44]
      have e5 := he.2.2.2.2.1
      have e7 := he.2.2.2.2.2.2.1
      have e8 := he.2.2.2.2.2.2.2.1
      refine p_midE hm x3 (by omega) (by rw [psh_a (by decide), dfr_a hfu (by decide)]; exact ⟨x1, x2⟩) (by omega) (by omega) (kE W' e pl _ ?_ he)
      show dB (eS Nv Fn x y T k s0 f 0 (o + 1) (j + 2) W) _ = _
      rw [dBe hs]
    · rw [hs] at hz
      obtain ⟨hz, q, rfl, hg⟩ := hz
      have hfu := dfr_tr hf01 hz.2.1 (by omega)
      rw [show u.2.2.1 44 pn = (xn : Int) by rw [dfr_a hfu (by decide)]; exact h44]
      have hp2 := PM_psh (z := (q : Int)) (PM_tr hp1 hz) hw1
      have u13 := hz.2.2.2.2.2.2.1
      obtain ⟨s2, hs2⟩ : ∃ s2, s2 = pshS u w1 (q : Int) := ⟨_, rfl⟩
      rw [← hs2] at hp2 ⊢
      have hgs2 : gr s2 q w := by rw [hs2]; exact gr_x rext_psh hg
      have hO2 : DOK s2 W' k Nb := DOK_j hO hp2 (by omega) (by omega)
      have s213 := hp2.2.2.2.2.2.2.1
      have hEs2 := ENR_x hp2.1 hp2.2.1 hE
      have hf2 := dfr_tr hf hp2.2.1 h13
      have w1e : w1 = w0 + 1 := by omega
      have ew0 : s2.2.2.1 12 w0 = (pn : Int) := by
        rw [hs2, psh_wk (by omega), hz.2.1.2.2.2.2.2 w0 (by omega), hs1]
        exact psh_w
      have ew1 : s2.2.2.1 12 (w0 + 1) = (q : Int) := by
        rw [hs2, ← w1e]
        exact psh_w
      have eB : (fun W => dB (eS Nv Fn x y T k s0 f 0 (o + 1) (j + 2) W) (fun W w => dB (Bq W) (fun W l => dTwo (cpS s0) W 64 l w (tqP (T j) : Int)))) W = dB (Bq W') (fun W l => dTwo (cpS s0) W 64 l w (tqP (T j) : Int)) := by
        show dB (eS Nv Fn x y T k s0 f 0 (o + 1) (j + 2) W) _ = _
        rw [dBv hs]
      refine hx W' s2 b P (rext_tr hxt hp2.1) hf2 (by omega) hO2 hEs2 (by omega) (fun W2 e pl t he hq => ?_) (fun W2 l t ql he hp3 hgl => ?_)
      · have := dqE_tr (nd := ((Nb + (jj + 1 - j) : Nat) : Int)) hp2 hq (by omega) (by omega)
        exact kE W2 e pl t (by rw [eB, dBe he]) this
      · have t13 := hp3.2.2.2.2.2.2.1
        have hpt := PM_tr hp2 hp3
        have hpg := PM_ga hpt hw0
        have hOg : DOK (gaB t w0) W2 k 0 := DOK_j hO hpg (by omega) (by omega)
        have at0 : t.2.2.1 12 w0 = (pn : Int) := by rw [hp3.2.1.2.2.2.2.2 w0 (by omega)]; exact ew0
        have at1 : t.2.2.1 12 (w0 + 1) = (q : Int) := by rw [hp3.2.1.2.2.2.2.2 (w0 + 1) (by omega)]; exact ew1
        have a47 : t.2.2.1 47 pn = (tqP (T j) : Int) := by rw [dfr_a (dfr_tr hf2 hp3.2.1 (by omega)) (by decide)]; exact h47
        have hdy := R_two (xt := xt) (post := post) (d := d) (vb := 64) (pl := (tqP (T j) : Int)) hm (by omega) hRT hRP hOg (gr_x rext_ga hgl) (gr_x (rext_tr hp3.1 rext_ga) hgs2) (by omega)
        rw [PM_cp hpg, hcp] at hdy
        refine p_turn2 (a := pn) (w0 := w0) hm (by omega) hp3.2.2.1 (by omega) (by omega) (by omega) at0 (by rw [at1, a47]; exact hdy) (fun u3 z3 h3 => ?_)
        rcases hs3 : dTwo (cpS s0) W2 64 l w (tqP (T j) : Int) with ⟨W3, ⟨e, pl⟩ | v⟩
        · rw [hs3] at h3
          have he3 := dqE_tr (nd := ((Nb + (jj + 1 - j) : Nat) : Int)) hpg h3 (by omega) (by omega)
          have e5 := he3.2.2.2.2.1
          have e7 := he3.2.2.2.2.2.2.1
          have e8 := he3.2.2.2.2.2.2.2.1
          exact p_err hm (by omega) (by omega) (by omega) (kE W3 e pl u3 (by rw [eB, dBv he]; exact hs3) he3)
        · rw [hs3] at h3
          obtain ⟨h3, q3, rfl, hg3⟩ := h3
          exact kV W3 v u3 q3 (by rw [eB, dBv he]; exact hs3) (PM_c (PM_tr hpg h3) (by omega)) hg3
end nouns
