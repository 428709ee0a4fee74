/-! the reference does: nouns, and all of it -/
section nouns2
variable {xt : mj_X} {pre post : mj_H} {Nv : Int → Option VV} {Fn : Int → Option (Nat → Tok)} {x y : Option VV} {T : Nat → Tok} {k mk ln : Nat}
/-- the last node of a noun with places -/
theorem rR2_5 {s : RS} : ∀ (f o j B n : Nat) (X : Int), isIx T j → rR s T f 2 o j B n X → s.2.2.1 43 n = 5 ∧ n < B := by
  intro f
  induction f with
  | zero => intro o j B n X _ h; exact h.elim
  | succ f ih =>
    intro o j B n X hx h
    rw [rR_m2 hx] at h
    rcases hj : pR T f 0 (o + 1) (j + 2) with e | jj
    · rw [hj] at h; exact h.elim
    · rw [hj] at h
      obtain ⟨pn, e, h1, h2, h3, h4, h5⟩ := h
      by_cases hy : isIx T (jj + 1)
      · exact ih o (jj + 1) B n _ hy h5
      · cases f with
        | zero => exact h5.elim
        | succ f =>
          have hn : (n : Int) = (pn : Int) := (rR_ixn hy).mp h5
          have hn : n = pn := by omega
          rw [hn]; exact ⟨h4.1, h1⟩
theorem PLC_all {s0 : RS} {d o B : Nat} (hm : pre.length = 102) (hRT : RST2) (hRP : RPA) (hK : TOKS T mk ln) (hB : B ≤ 84000) : ∀ (f : Nat), (∀ g, g < f → CX0 xt pre post Nv Fn x y T k mk g) → ∀ (j j2 n xn Nb : Nat) (Bq : Nat → DR), j ≤ mk → pR T f 2 o j = .inr j2 → (isIx T j → 100 * k + 5 * (13 - (o + 1)) + 93 ≤ d) → rR s0 T f 2 o j B n (xn : Int) → 484 + 700 * k ≤ Nb → PLC xt pre post Nv Fn x y k s0 d xn Bq Nb → PLC xt pre post Nv Fn x y k s0 d n (fun W => eE (eC Nv Fn k) T Nv x y (cpS s0) f 2 o j Bq W) (Nb + (j2 - j)) := by
  intro f
  induction f with
  | zero => intro _ j j2 n xn Nb Bq _ h; cases h
  | succ f ih =>
    intro hC j j2 n xn Nb Bq hj hp hd hr hNb hx
    by_cases hix : isIx T j
    · have ho : o < 12 := by
        by_cases z : o < 12
        · exact z
        · rw [pR2_o hix (by omega)] at hp; cases hp
      have hd := hd hix
      rw [rR_m2 hix] at hr
      rcases hjj : pR T f 0 (o + 1) (j + 2) with e | jj
      · rw [hjj] at hr; exact hr.elim
      rw [hjj] at hr
      obtain ⟨pn, en, r1, r2, r3, ⟨r4, r5, r6, r7⟩, r8⟩ := hr
      have h41 : isMk T jj 41 := by
        by_cases z : isMk T jj 41
        · exact z
        · rw [pR2_x hix ho hjj z] at hp; cases hp
      rw [pR2_g hix ho hjj h41] at hp
      have l1 := TOKS_lt hK (i := j + 1) (by have := hix.2.2.1; omega)
      have hjm := pR_mk hK f 0 (o + 1) (j + 2) jj (by omega) hjj
      have hjl := hjm.2.2 (by decide)
      have l2 := TOKS_lt hK (i := jj) (by have := h41.1; omega)
      have hj2 := pR_mk hK f 2 o (jj + 1) j2 (by omega) hp
      have hs := PLC_s (T := T) (xn := xn) (en := en) hm hRT hRP hK (hC f (by omega)) hd (by omega) (by omega) hjj hB r1 r2 r3 r4 r5 r6 r7 hNb hx
      have := ih (fun g hg => hC g (by omega)) (jj + 1) j2 n pn (Nb + (jj + 1 - j)) _ (by omega) hp (fun _ => hd) r8 (by omega) hs
      rw [show Nb + (jj + 1 - j) + (j2 - (jj + 1)) = Nb + (j2 - j) by omega] at this
      have e : (fun W => eE (eC Nv Fn k) T Nv x y (cpS s0) (f + 1) 2 o j Bq W) = (fun W => eE (eC Nv Fn k) T Nv x y (cpS s0) f 2 o (jj + 1) (fun W => dB (eS Nv Fn x y T k s0 f 0 (o + 1) (j + 2) W) (fun W w => dB (Bq W) (fun W l => dTwo (cpS s0) W 64 l w (tqP (T j) : Int)))) W) := funext fun W => by
        refine (if_pos hix).trans ?_
        rw [hjj]
      rw [e]
      exact this
    · rw [pR2_n hix] at hp
      have hp : j = j2 := by injection hp
      have hr : (n : Int) = (xn : Int) := (rR_ixn hix).mp hr
      have hr : n = xn := by omega
      have e : (fun W => eE (eC Nv Fn k) T Nv x y (cpS s0) (f + 1) 2 o j Bq W) = Bq := funext fun W => if_neg hix
      rw [e, hr, show Nb + (j2 - j) = Nb by omega]
      exact hx
theorem flat_gr {s : RS} {h : Nat} {v : VV} (h3 : 3 ≤ h) (hv : rv s 1 h v) (hk : vk v ≤ 5) : gr s h v := by
  have hw := (rv_wf hv).1
  have hm := vw1_m hw
  have e : vsz 7 v ≤ 1000 ∧ vlv 7 v ≤ 5 := by
    show (if vk v ≤ 1 then 1 else if vk v = 6 then 1 + vm v * vc v else if vk v = 7 then _ else 1 + vm v) ≤ 1000 ∧ (if vk v ≤ 1 then 0 else if vk v = 6 then 2 else if vk v = 7 then _ else 1) ≤ 5
    by_cases z : vk v ≤ 1
    · rw [if_pos z, if_pos z]; omega
    · rw [if_neg z, if_neg z, if_neg (by omega), if_neg (by omega), if_neg (by omega), if_neg (by omega)]; omega
  exact ⟨h3, rv_up (rv_up (rv_up (rv_up (rv_up (rv_up hv))))), e.1, e.2⟩
theorem nmR_b {c r : Int} (h : nmR c r) : 97 ≤ r ∧ r < 9223372036854775808 := by
  obtain ⟨f, q, n, h1, h2, h3, -, h5⟩ := h
  rw [h5]
  exact rk_r8 h1 h2 h3
theorem nmR_64 {c r c' r' : Int} (h : nmR c r) (h' : nmR c' r') : r = r' ↔ Int64.ofInt r = Int64.ofInt r' := by
  have a := nmR_b h
  have b := nmR_b h'
  refine ⟨fun z => by rw [z], fun z => ?_⟩
  have e := congrArg Int64.toInt z
  rw [n_toL (by omega) (by omega), n_toL (by omega) (by omega)] at e
  exact e
/-- a name's worth -/
theorem R_name {d W N : Nat} {s : RS} {c r pl : Int} (hm : pre.length = 102) (hd : 3 ≤ d) (hO : DOK s W k N) (hE : ENR Nv Fn x y k s) (hc : nmR c r) : pgV xt d 241 [.ref 102, .long (Int64.ofInt r), ii pl] (rS pre post s) (RA pre post (dq s W 0 (N : Int) (dNm Nv x y (cpS s) c pl W))) := by
  have hrf := DOK_rf hO
  have hO2 := hO
  obtain ⟨q, b, base, h4, h3, h13, q3, q2, b2, hb, hca⟩ := DOK_nat hO
  obtain ⟨hB, h5, ⟨hk10, h10⟩, ⟨h8, hW⟩, hw13, hC, hV⟩ := hO
  have hfl : dq s W 0 (N : Int) (dNo (cpS s) pl W none) (failS s 2 pl) (-1) := dqE_fl (e := 2) hrf (by omega) (by omega) (by omega)
  have hvl : ∀ (q : Nat) (v : VV), gr s q v → dq s W 0 (N : Int) (dNo (cpS s) pl W (some v)) s (q : Int) := fun q v hg => ⟨hrf, q, rfl, hg⟩
  rw [dNm_o]
  have kx := nmR_iff hc own_x
  have ky := nmR_iff hc own_y
  by_cases h24 : c = 24
  · have e : Int64.ofInt r = Int64.ofInt 120 := by rw [kx.mp h24]
    rw [if_pos h24]
    by_cases hc0 : s.1 10 = 0
    · rw [(hE.2.1 (by omega)).1]
      exact nm_x0 hm (by omega) h5 (by omega) e (by omega) hc0 hfl
    · have hx := (hE.2.2 (by omega)).1
      cases x with
      | none => exact nm_xN hm (by omega) h5 (by omega) e (by omega) hc0 hx hfl
      | some v =>
        obtain ⟨q', e1, e2⟩ := hx
        have := gr_lt hO2 e2
        exact nm_xV hm (by omega) h5 (by omega) e hc0 e1 (by omega) (hvl q' v e2)
  · rw [if_neg h24]
    have e0 : Int64.ofInt r ≠ Int64.ofInt 120 := fun z => h24 (kx.mpr ((nmR_64 hc own_x).mpr z))
    by_cases h25 : c = 25
    · have e : Int64.ofInt r = Int64.ofInt 121 := by rw [ky.mp h25]
      rw [if_pos h25]
      by_cases hc0 : s.1 10 = 0
      · rw [(hE.2.1 (by omega)).2]
        exact nm_y0 hm (by omega) h5 (by omega) e0 e (by omega) hc0 hfl
      · have hx := (hE.2.2 (by omega)).2
        cases y with
        | none => exact nm_yN hm (by omega) h5 (by omega) e0 e (by omega) hc0 hx hfl
        | some v =>
          obtain ⟨q', e1, e2⟩ := hx
          have := gr_lt hO2 e2
          exact nm_yV hm (by omega) h5 (by omega) e0 e hc0 e1 (by omega) (hvl q' v e2)
    · rw [if_neg h25]
      have e1 : Int64.ofInt r ≠ Int64.ofInt 121 := fun z => h25 (ky.mpr ((nmR_64 hc own_y).mpr z))
      obtain ⟨n, m, a1, a2, a3, a4, a5, -⟩ := hE.1
      rcases a5 c r hc with ⟨z1, z2⟩ | ⟨z1, q', v, z2, z3, z4⟩
      · rw [z2]
        exact nm_N hm (by omega) h5 (by omega) e0 e1 a1 a2 a3 a4 (by omega) z1 hfl
      · rw [z3]
        have := gr_lt hO2 z4
        exact nm_V hm (by omega) h5 (by omega) e0 e1 a1 a2 a3 a4 (by omega) rfl z1 z2 (by omega) (hvl q' v z4)
end nouns2
