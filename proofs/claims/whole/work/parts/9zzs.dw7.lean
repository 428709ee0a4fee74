/-! the reference does: rows of nodes -/
section exps
variable {xt : mj_X} {pre post : mj_H} {Nv : Int → Option VV} {Fn : Int → Option (Nat → Tok)} {x y : Option VV} {T : Nat → Tok} {k mk ln : Nat}
/-- the doing of what is read at i -/
abbrev eS (Nv : Int → Option VV) (Fn : Int → Option (Nat → Tok)) (x y : Option VV) (T : Nat → Tok) (k : Nat) (s : RS) (f m o i W : Nat) : DR := eE (eC Nv Fn k) T Nv x y (cpS s) f m o i zB W
/-- worth, as far as the act X ahead -/
def CX0 (xt : mj_X) (pre post : mj_H) (Nv : Int → Option VV) (Fn : Int → Option (Nat → Tok)) (x y : Option VV) (T : Nat → Tok) (k mk f : Nat) : Prop := ∀ (d W n o i j B N : Nat) (X : Int) (s : RS) (Q : RS → Int → Prop), i ≤ mk → pR T f 0 o i = .inr j → o ≤ 12 → 100 * k + 5 * (13 - o) + 93 ≤ d → (j - i) + 484 + 700 * k ≤ N → DOK s W k N → ENR Nv Fn x y k s → B ≤ 84000 → n < B → (-1 ≤ X ∧ X < 84000) → rR s T f 0 o i B n X →
  (∀ W' e pl t, eS Nv Fn x y T k s f 0 o i W = (W', .inl (e, pl)) → dqE s W (N : Int) W' e pl t → Q t (-1)) →
  (∀ W' v t (q : Nat), eS Nv Fn x y T k s f 0 o i W = (W', .inr v) → PM s W 0 t W' 0 → gr t q v → HW xt (d - 1) pre post t n (q : Int) X (PQ pre post Q)) →
  pgV xt d 239 [.ref 102, ii (n : Int)] (rS pre post s) (RA pre post Q)
/-- nounWorth; dd: depth -/
def CN (xt : mj_X) (pre post : mj_H) (Nv : Int → Option VV) (Fn : Int → Option (Nat → Tok)) (x y : Option VV) (T : Nat → Tok) (k mk m dd f : Nat) : Prop := ∀ (d W n o i j B N : Nat) (X : Int) (s : RS), i ≤ mk → pR T f m o i = .inr j → o ≤ 12 → 100 * k + 5 * (13 - o) + dd ≤ d → (j - i) + 484 + 700 * k ≤ N → DOK s W k N → ENR Nv Fn x y k s → B ≤ 84000 → n < 84000 → rR s T f m o i B n X → pgV xt d 240 [.ref 102, ii (n : Int)] (rS pre post s) (RA pre post (dq s W 0 (N : Int) (eS Nv Fn x y T k s f m o i W)))
/-- the parts of a list, pushed from the last one to the first -/
def CL4 (xt : mj_X) (pre post : mj_H) (Nv : Int → Option VV) (Fn : Int → Option (Nat → Tok)) (x y : Option VV) (T : Nat → Tok) (k mk f : Nat) : Prop := ∀ (d W n nn o i j B N : Nat) (X b : Int) (s : RS) (P : Option Value → mj_H → Prop), i ≤ mk → pR T f 4 o i = .inr j → o ≤ 12 → 100 * k + 5 * (13 - o) + 93 ≤ d → (j - i) + 484 + 700 * k ≤ N → DOK s W k N → ENR Nv Fn x y k s → B ≤ 84000 → (-1 ≤ X ∧ X < 84000) → rR s T f 4 o i B n X →
  (∀ W' e pl t X', eS Nv Fn x y T k s f 4 o i W = (W', .inl (e, pl)) → dqE s W (N : Int) W' e pl t → (-1 ≤ X' ∧ X' ≤ 84000) → HL xt d pre post t nn b X' P) →
  (∀ W' r t, eS Nv Fn x y T k s f 4 o i W = (W', .inr r) → PM s W 0 t W' (vm r) → vm r = plN T f o i → (∀ q, q < vm r → ∃ p : Nat, t.2.2.1 12 ((s.1 13).toNat + q) = (p : Int) ∧ gr t p (vd r (vm r - 1 - q))) → HL xt d pre post t nn b X P) →
  HL xt d pre post s nn b (n : Int) P
theorem dBe {r : DR} {W' e : Nat} {pl : Int} {K : Nat → VV → DR} (h : r = (W', .inl (e, pl))) : dB r K = (W', .inl (e, pl)) := by rw [h]; rfl
theorem dBv {r : DR} {W' : Nat} {v : VV} {K : Nat → VV → DR} (h : r = (W', .inr v)) : dB r K = K W' v := by rw [h]; rfl
theorem acR_V {s : RS} {i a : Nat} {nn bf : Int} (ha : a < 84000) (h : acR s T i a nn bf) : acV s T i a := ⟨ha, h.1, h.2.1, h.2.2.2.2.1⟩
/-- worth from its contract -/
theorem CX0_V {f d W n o i j B N : Nat} {s : RS} (hm : pre.length = 102) (h : CX0 xt pre post Nv Fn x y T k mk f) (hi : i ≤ mk) (hp : pR T f 0 o i = .inr j) (ho : o ≤ 12) (hd : 100 * k + 5 * (13 - o) + 93 ≤ d) (hN : (j - i) + 484 + 700 * k ≤ N) (hO : DOK s W k N) (hE : ENR Nv Fn x y k s) (hB : B ≤ 84000) (hn : n < B) (hr : rR s T f 0 o i B n (-1)) : pgV xt d 239 [.ref 102, ii (n : Int)] (rS pre post s) (RA pre post (dq s W 0 (N : Int) (eS Nv Fn x y T k s f 0 o i W))) := by
  refine h d W n o i j B N (-1) s _ hi hp ho hd hN hO hE hB hn (by omega) hr (fun W' e pl t he hq => ?_) (fun W' v t q he hp hg => ?_)
  · rw [he]; exact hq
  · have ht : DOK t W' k N := DOK_j hO hp (by omega) (by omega)
    have hl := gr_lt ht hg
    refine w_end hm rfl hp.2.2.1 (PQ_i ?_ ?_ ?_)
    · have := hp.2.2.1; omega
    · omega
    · rw [he]; exact ⟨hp, q, rfl, hg⟩
/-- an act is done: the row goes on -/
theorem w_done {d W W1 n N a : Nat} {c2 n2 X z : Int} {s t u : RS} {r : DR} {L : DR} {Q : RS → Int → Prop} (hm : pre.length = 102) (hX : -1 ≤ X ∧ X < 84000) (hp : PM s W 0 t W1 0) (hq : dq t W1 c2 n2 r u z) (hc : 0 ≤ c2) (hn : n2 ≤ (N : Int)) (hx : u.2.2.1 48 a = X) (hL : L = r) (kE : ∀ W' e pl t, L = (W', .inl (e, pl)) → dqE s W (N : Int) W' e pl t → Q t (-1)) (kV : ∀ W' v t (q : Nat), L = (W', .inr v) → PM s W 0 t W' 0 → gr t q v → HW xt d pre post t n (q : Int) X (PQ pre post Q)) : HW xt d pre post u n z (u.2.2.1 48 a) (PQ pre post Q) := by
  rw [hx]
  obtain ⟨W', ⟨e, pl⟩ | v⟩ := r
  · have he := dqE_tr (nd := (N : Int)) hp hq (by omega) (by omega)
    have e5 := he.2.2.2.2.1
    have e7 := he.2.2.2.2.2.2.1
    exact w_err hm (by omega) (by omega) (PQ_e he (kE W' e pl u hL he))
  · obtain ⟨hz, q, rfl, hg⟩ := hq
    exact kV W' v u q hL (PM_c (PM_tr hp hz) (by omega)) hg
theorem CX_m0 {f : Nat} (hm : pre.length = 102) (hK : TOKS T mk ln) (hAP : ∀ i a, isDs T i → a ≤ 4 → (∀ j, j < a → tqS (T (i + 1 + j)) = 6) → CAP xt pre post Nv Fn x y T i k a) (ih0 : CX0 xt pre post Nv Fn x y T k mk f) (ih1 : CN xt pre post Nv Fn x y T k mk 1 92 f) : CX0 xt pre post Nv Fn x y T k mk (f + 1) := by
  intro d W n o i j B N X s Q hi hpR ho hd hN hO hE hB hn hX hr kE kV
  have hav : ∀ i, ∀ q, q < avM T i → tqS (T (i + 1 + q)) = 6 := fun i q hq => soN_at 4 (i + 1) q hq
  have hav4 : ∀ i, avM T i ≤ 4 := fun i => soN_le 4 (i + 1)
  have hk10 : k ≤ 10 := hO.2.2.1.1
  by_cases hds : isDs T i
  · obtain ⟨a, ha, hac, hr⟩ := (rR_d hds).mp hr
    rw [pR0_d hds] at hpR
    have hdm := dsE_mk hK hds
    have hjm := pR_mk hK f 0 o _ j hdm.2.2 hpR
    have e0 : eS Nv Fn x y T k s (f + 1) 0 o i W = dB (eS Nv Fn x y T k s f 0 o (dsE T i) W) (fun W w => dAp (eC Nv Fn k) T i (cpS s) (avM T i) none w W) := if_pos hds
    refine ih0 d W n o (dsE T i) j B N (a : Int) s Q hdm.2.2 hpR ho hd (by omega) hO hE hB hn (by omega) hr (fun W' e pl t he hq => kE W' e pl t (by rw [e0, dBe he]) hq) (fun W1 w t q he hp hg => ?_)
    have hac2 := acR_k (ndK_df hp.1 hp.2.1 84000) (by omega) hac
    have hap := hAP i (avM T i) hds (hav4 i) (hav i) (d - 1) W1 a q t (-1) none w (by have := hav4 i; omega) (DOK_j hO hp (by have := hav4 i; omega) (by have := hav4 i; omega)) (ENR_x hp.1 hp.2.1 hE) (acR_V (by omega) hac2) rfl hg
    rw [← hac2.2.2.2.1, PM_cp hp] at hap
    refine w_act1 hm (by omega) hp.2.2.1 hac2.2.2.1 (pgV_i hap (fun v h' z => RA_mono z (fun u z hz => hz))) (fun u z hz => ?_)
    have hu : u.2.2.1 48 a = X := by
      have hf : dfr t u := by
        rcases hs : dAp (eC Nv Fn k) T i (cpS s) (avM T i) none w W1 with ⟨W', ⟨e, pl⟩ | v⟩
        · rw [hs] at hz; exact hz.2.1
        · rw [hs] at hz; exact hz.1.2.1
      rw [dfr_a hf (by decide)]; exact hac2.2.2.2.2.2
    exact w_done hm hX hp hz (by show (0 : Int) ≤ 4; decide) (by have := hav4 i; omega) hu (by rw [e0, dBv he]) kE kV
  · rw [rR_m0 hds] at hr
    rcases hj : pR T f 1 o i with e | j1
    · rw [hj] at hr; exact hr.elim
    have hr2 := hr
    rw [hj] at hr2
    clear hr
    have hj1 := pR_mk hK f 1 o i j1 hi hj
    have hj1l := hj1.2.2 (by decide)
    by_cases hds2 : isDs T j1
    · have hr : ∃ a nn : Nat, a < n ∧ nn < n ∧ acR s T j1 a (nn : Int) X ∧ rR s T f 1 o i n nn 0 ∧ rR s T f 0 o (dsE T j1) B n (a : Int) := (iff_of_eq (if_pos hds2)).mp hr2
      obtain ⟨a, nn, ha, hnn, hac, hr1, hr⟩ := hr
      rw [pR0_a hds hj hds2] at hpR
      have hdm := dsE_mk hK hds2
      have hjm := pR_mk hK f 0 o _ j hdm.2.2 hpR
      have hjl := hjm.2.2 (by decide)
      have e0 : eS Nv Fn x y T k s (f + 1) 0 o i W = dB (eS Nv Fn x y T k s f 0 o (dsE T j1) W) (fun W w => dB (eS Nv Fn x y T k s f 1 o i W) (fun W l => dAp (eC Nv Fn k) T j1 (cpS s) (avM T j1) (some l) w W)) := by
        refine (if_neg hds).trans ?_
        rw [hj]
        exact if_pos hds2
      refine ih0 d W n o (dsE T j1) j B N (a : Int) s Q hdm.2.2 hpR ho hd (by omega) hO hE hB hn (by omega) hr (fun W' e pl t he hq => kE W' e pl t (by rw [e0, dBe he]) hq) (fun W1 w t q he hp hg => ?_)
      have hac2 := acR_k (ndK_df hp.1 hp.2.1 84000) (by omega) hac
      have hOt : DOK t W1 k N := DOK_j hO hp (by omega) (by omega)
      have hEt := ENR_x hp.1 hp.2.1 hE
      have hnw := ih1 (d - 1) W1 nn o i j1 n N 0 t hi hj ho (by omega) (by omega) hOt hEt (by omega) (by omega) (rR_k _ _ _ _ _ _ _ _ _ _ (ndK_df hp.1 hp.2.1 n) (Nat.le_refl _) hr1)
      have ecp : eS Nv Fn x y T k t f 1 o i W1 = eS Nv Fn x y T k s f 1 o i W1 := by unfold eS; rw [PM_cp hp]
      rw [ecp, ← hac2.2.2.1] at hnw
      refine w_act2 hm (by omega) hp.2.2.1 hac2.2.2.1 (by omega) (pgV_g hnw) (Q2 := fun u z u2 z2 => ∀ W2 l, eS Nv Fn x y T k s f 1 o i W1 = (W2, .inr l) → dq u W2 9 ((121 * avM T j1 + 700 * k : Nat) : Int) (dAp (eC Nv Fn k) T j1 (cpS s) (avM T j1) (some l) w W2) u2 z2) (fun u z hz h5 => ?_) (fun u z hz h5 => ?_) (fun u z u2 z2 hz h5 h2 => ?_)
      · obtain ⟨-, -, hz⟩ := hz
        rcases hs : eS Nv Fn x y T k s f 1 o i W1 with ⟨W2, ⟨e, pl⟩ | l⟩
        · rw [hs] at hz
          have e5 := hz.2.2.2.2.1
          have e7 := hz.2.2.2.2.2.2.1
          exfalso; omega
        · rw [hs] at hz
          obtain ⟨hz, q2, rfl, hg2⟩ := hz
          have hac3 := acR_k (ndK_df hz.1 hz.2.1 84000) (by omega) hac2
          have hap := hAP j1 (avM T j1) hds2 (hav4 j1) (hav j1) (d - 1) W2 a q u (q2 : Int) (some l) w (by have := hav4 j1; omega) (DOK_j hOt hz (by have := hav4 j1; omega) (by have := hav4 j1; omega)) (ENR_x hz.1 hz.2.1 hEt) (acR_V (by omega) hac3) ⟨q2, rfl, hg2⟩ (gr_x hz.1 hg)
          rw [← hac3.2.2.2.1, PM_cp hz, PM_cp hp] at hap
          exact pgV_i hap (fun v h' z => RA_mono z (fun u3 z3 h3 W3 l3 e3 => by injection e3 with e4 e5; injection e5 with e5; rw [← e4, ← e5]; exact h3))
      · obtain ⟨-, -, hz⟩ := hz
        rcases hs : eS Nv Fn x y T k s f 1 o i W1 with ⟨W2, ⟨e, pl⟩ | l⟩
        · rw [hs] at hz
          have he2 := dqE_tr (nd := (N : Int)) hp hz (by omega) (by omega)
          rw [dfr_a hz.2.1 (by decide), hac2.2.2.2.2.2]
          have e7 := he2.2.2.2.2.2.2.1
          have e5 := he2.2.2.2.2.1
          exact w_err hm (by omega) (by omega) (PQ_e he2 (kE W2 e pl u (by rw [e0, dBv he, dBe hs]) he2))
        · rw [hs] at hz
          have := hz.1.2.2.1
          exfalso; omega
      · obtain ⟨-, -, hz⟩ := hz
        rcases hs : eS Nv Fn x y T k s f 1 o i W1 with ⟨W2, ⟨e, pl⟩ | l⟩
        · rw [hs] at hz
          have e5 := hz.2.2.2.2.1
          have e7 := hz.2.2.2.2.2.2.1
          exfalso; omega
        · rw [hs] at hz
          have h3 := h2 W2 l hs
          have hp3 := PM_tr hp hz.1
          have hu : u2.2.2.1 48 a = X := by
            have hf : dfr u u2 := by
              rcases hs2 : dAp (eC Nv Fn k) T j1 (cpS s) (avM T j1) (some l) w W2 with ⟨W', ⟨e, pl⟩ | v⟩
              · rw [hs2] at h3; exact h3.2.1
              · rw [hs2] at h3; exact h3.1.2.1
            rw [dfr_a hf (by decide), dfr_a hz.1.2.1 (by decide)]; exact hac2.2.2.2.2.2
          exact w_done hm hX hp3 h3 (by decide) (by have := hav4 j1; omega) hu (by rw [e0, dBv he, dBv hs]) kE kV
    · have hr : ∃ nn : Nat, n < B ∧ nn < n ∧ rR s T f 1 o i n nn 0 ∧ s.2.2.1 43 n = 0 ∧ s.2.2.1 44 n = (nn : Int) ∧ s.2.2.1 45 n = X := (iff_of_eq (if_neg hds2)).mp hr2
      obtain ⟨nn, -, hnn, hr1, -, h44, h45⟩ := hr
      rw [pR0_n hds hj hds2] at hpR
      have hjj : j1 = j := by injection hpR
      have e0 : eS Nv Fn x y T k s (f + 1) 0 o i W = eS Nv Fn x y T k s f 1 o i W := by
        refine (if_neg hds).trans ?_
        rw [hj]
        exact if_neg hds2
      have hnw := ih1 (d - 1) W nn o i j1 n N 0 s hi hj ho (by omega) (by omega) hO hE (by omega) (by omega) hr1
      rw [← h44] at hnw
      refine w_start hm (by omega) (by omega) hnw (fun u z hz => ?_)
      rw [e0] at kE kV
      have hf : dfr s u := by
        rcases hs : eS Nv Fn x y T k s f 1 o i W with ⟨W2, ⟨e, pl⟩ | l⟩
        · rw [hs] at hz; exact hz.2.1
        · rw [hs] at hz; exact hz.1.2.1
      rw [dfr_a hf (by decide), h45]
      rcases hs : eS Nv Fn x y T k s f 1 o i W with ⟨W2, ⟨e, pl⟩ | l⟩
      · rw [hs] at hz
        have e7 := hz.2.2.2.2.2.2.1
        have e5 := hz.2.2.2.2.1
        exact w_err hm (by omega) (by omega) (PQ_e hz (kE W2 e pl u hs hz))
      · rw [hs] at hz
        obtain ⟨hz, q2, rfl, hg2⟩ := hz
        exact kV W2 l u q2 hs hz hg2
end exps
