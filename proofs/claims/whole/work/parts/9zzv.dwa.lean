/-! the reference does: nouns of all sorts, and all of it -/
section nouns3
variable {xt : mj_X} {pre post : mj_H} {Nv : Int → Option VV} {Fn : Int → Option (Nat → Tok)} {x y : Option VV} {T : Nat → Tok} {k mk ln : Nat}
/-- a list's end: its parts are put into one -/
theorem L_end {d W W1 n b0 j N : Nat} {pl : Int} {s t : RS} {ch : Nat → VV} {L : DR} {Q : RS → Int → Prop} (hm : pre.length = 102) (hd : 42 ≤ d) (hn : n < 84000) (hO : DOK s W k N) (hp : PM s W 0 t W1 j) (hb : s.1 13 = (b0 : Int)) (hj : j ≤ 300) (hjN : j ≤ N) (hpl : s.2.2.1 47 n = pl) (hch : ∀ q, q < j → ∃ p : Nat, t.2.2.1 12 ((s.1 13).toNat + q) = (p : Int) ∧ gr t p (ch (j - 1 - q))) (hL : L = dGa (cpS s) W1 j ch pl) (kQ : ∀ u z, dq s W 0 (N : Int) L u z → Q u z) : HL xt d pre post t n ((b0 : Nat) : Int) (-1) (PQ pre post Q) := by
  have t13 := hp.2.2.2.2.2.2.1
  have h13 := hO.2.2.2.2.1
  have hrx : rext t (rvS t b0 j j) := ⟨Int.le_refl _, Int.le_refl _, fun hd _ _ => by rw [rvS_a (by decide), rvS_a (by decide)]; exact ⟨rfl, rfl⟩, fun _ _ => rfl⟩
  have hpr : PM s W 0 (rvS t b0 j j) W1 j := by
    obtain ⟨a1, a2, a3, a4, a5, a6, a7, a8, a9⟩ := hp
    obtain ⟨b1, b2, b3, b4, b5, b6⟩ := a2
    exact ⟨rext_tr a1 hrx, ⟨b1, b2, b3, fun k c1 c2 c12 c14 c15 => (rvS_a c12).trans (b4 k c1 c2 c12 c14 c15), b5, fun q hq => (rvS_lo (by omega)).trans (b6 q hq)⟩, a3, a4, a5, a6, a7, a8, a9⟩
  have hwv : WV s (rvS t b0 j j) j ch := fun q hq => by
    obtain ⟨p, p1, p2⟩ := hch (j - 1 - q) (by omega)
    rw [show j - 1 - (j - 1 - q) = q by omega] at p2
    refine ⟨p, ?_, gr_x hrx p2⟩
    rw [show (s.1 13).toNat + q = b0 + q by omega, rvS_at hq]
    rw [show (s.1 13).toNat + (j - 1 - q) = b0 + (j - 1 - q) by omega] at p1
    exact p1
  have hga := pgV_g (R_ga (xt := xt) (post := post) (pl := pl) hm hd hO hpr hwv hj hjN (by omega) hb)
  have t47 : t.2.2.1 47 n = pl := by rw [dfr_a hp.2.1 (by decide)]; exact hpl
  have fin : ∀ u z, GQ (dq s W (0 + 7 + 3 * (j : Int)) (N : Int) (dGa (cpS s) W1 j ch pl)) u z → PQ pre post Q (some (ii z)) (rS pre post u) := fun u z hz => PQ_i hz.1 hz.2.1 (kQ u z (by rw [hL]; exact dq_w hz.2.2 (by omega) (Int.le_refl _)))
  by_cases hj0 : j = 0
  · exact l_end0 (j := j) hm hn (by omega) (Or.inl ⟨rfl, hp.2.2.1⟩) (by omega) (by omega) (by rw [t47]; exact hga) fin hj0
  · exact l_end1 (j := j) hm hn (by omega) (Or.inl ⟨rfl, hp.2.2.1⟩) (by omega) (by omega) (by rw [t47]; exact hga) fin (by omega)
/-- an error in a list -/
theorem L_err {d W W' n b0 e N : Nat} {X pl : Int} {s t : RS} {Q : RS → Int → Prop} (hm : pre.length = 102) (hd : 42 ≤ d) (hn : n < 84000) (hO : DOK s W k N) (hX : -1 ≤ X ∧ X ≤ 84000) (he : dqE s W (N : Int) W' e pl t) (hb : s.1 13 = (b0 : Int)) (kQ : ∀ u z, dqE s W (N : Int) W' e pl u → Q u z) : HL xt d pre post t n ((b0 : Nat) : Int) X (PQ pre post Q) := by
  have h13 := hO.2.2.2.2.1
  have t13 := he.2.2.2.2.2.2.2.1
  have t5 := he.2.2.2.2.1
  have t7 := he.2.2.2.2.2.2.1
  obtain ⟨j, hj⟩ : ∃ j : Nat, t.1 13 = ((b0 + j : Nat) : Int) := ⟨(t.1 13).toNat - b0, by omega⟩
  have hrx : rext t (rvS t b0 j j) := ⟨Int.le_refl _, Int.le_refl _, fun hd _ _ => by rw [rvS_a (by decide), rvS_a (by decide)]; exact ⟨rfl, rfl⟩, fun _ _ => rfl⟩
  have her : dqE s W (N : Int) W' e pl (rvS t b0 j j) := by
    obtain ⟨a1, a2, a3, a4, a5, a6, a7, a8, a9, a10⟩ := he
    obtain ⟨b1, b2, b3, b4, b5, b6⟩ := a2
    exact ⟨rext_tr a1 hrx, ⟨b1, b2, b3, fun k c1 c2 c12 c14 c15 => (rvS_a c12).trans (b4 k c1 c2 c12 c14 c15), b5, fun q hq => (rvS_lo (by omega)).trans (b6 q hq)⟩, a3, a4, a5, a6, a7, a8, a9, a10⟩
  have hga := pgV_g (R_gaE (xt := xt) (pre := pre) (post := post) (d := d) (p := t.2.2.1 47 n) hm (by omega) her hb (by omega) (by omega))
  have fin : ∀ u z, GQ (fun t z => z = -1 ∧ dqE s W (N : Int) W' e pl t) u z → PQ pre post Q (some (ii z)) (rS pre post u) := fun u z hz => PQ_i hz.1 hz.2.1 (kQ u z hz.2.2.2)
  by_cases hj0 : j = 0
  · exact l_end0 hm hn hX (Or.inr (by omega)) hj (by omega) hga fin hj0
  · exact l_end1 hm hn hX (Or.inr (by omega)) hj (by omega) hga fin (by omega)
theorem CN_m3 {f : Nat} (hm : pre.length = 102) (hK : TOKS T mk ln) (hT : TKO T) (ih0 : CX0 xt pre post Nv Fn x y T k mk f) (ih0' : ∀ g, g < f → CX0 xt pre post Nv Fn x y T k mk g) (ih4 : CL4 xt pre post Nv Fn x y T k mk f) : CN xt pre post Nv Fn x y T k mk 3 90 (f + 1) := by
  intro d W n o i j B N X s hi hpR ho hd hN hO hE hB hn hr
  have hrf := DOK_rf hO
  have k10 : k ≤ 10 := hO.2.2.1.1
  have h13 := hO.2.2.2.2.1
  have h5 := hO.2.1
  obtain ⟨b0, hb0⟩ : ∃ b0 : Nat, s.1 13 = (b0 : Int) := ⟨(s.1 13).toNat, by omega⟩
  by_cases h1 : tqS (T i) = 1
  · obtain ⟨-, h43, h, h3, h44, hv⟩ := (rR_nu h1).mp hr
    have e : eS Nv Fn x y T k s (f + 1) 3 o i W = (W, .inr (nuV T i (soN T 1 201 i))) := if_pos h1
    have hg := flat_gr h3 hv nuV_k
    have := gr_lt hO hg
    rw [e]
    exact n_val hm (by omega) hn h43 h44 (by omega) (by omega) ⟨hrf, h, rfl, hg⟩
  rw [rR_m3 h1] at hr
  by_cases h2 : tqS (T i) = 2
  · rw [if_pos h2] at hr
    obtain ⟨-, h43, h, h3, h44, hv⟩ := hr
    have e : eS Nv Fn x y T k s (f + 1) 3 o i W = (W, .inr (txV T i)) := (if_neg h1).trans (if_pos h2)
    have hg := flat_gr h3 hv txV_k
    have := gr_lt hO hg
    rw [e]
    exact n_val hm (by omega) hn h43 h44 (by omega) (by omega) ⟨hrf, h, rfl, hg⟩
  rw [if_neg h2] at hr
  by_cases h3 : tqS (T i) = 3
  · rw [if_pos h3] at hr
    obtain ⟨-, h43, h49, h47⟩ := hr
    have e : eS Nv Fn x y T k s (f + 1) 3 o i W = dNm Nv x y (cpS s) (tqD (T i)) (tqP (T i) : Int) W := (if_neg h1).trans ((if_neg h2).trans (if_pos h3))
    rw [e]
    refine n_name hm (by omega) hn h43 ?_
    rw [h49, h47]
    exact R_name hm (by omega) hO hE (hT.2.2 i (Or.inl h3))
  rw [if_neg h3] at hr
  by_cases h40 : isMk T i 40
  · rw [if_pos h40] at hr
    have ho2 : o < 12 := by
      by_cases z : o < 12
      · exact z
      · rw [pR3_x (by omega) (fun q => z q.2) (fun q => z q.2)] at hpR; cases hpR
    have e9 : eS Nv Fn x y T k s (f + 1) 3 o i W = (if isMk T (i + 1) 41 then dGa (cpS s) W 0 (fun _ => vnest 0 (fun _ => v1 0 0)) (tqP (T i) : Int) else dB (eS Nv Fn x y T k s f 4 (o + 1) (i + 1) W) (fun W r => if plN T f (o + 1) (i + 1) = 1 then (W, .inr (vd r 0)) else dGa (cpS s) W (plN T f (o + 1) (i + 1)) (vd r) (tqP (T i) : Int))) := (if_neg h1).trans ((if_neg h2).trans ((if_neg h3).trans (if_pos h40)))
    obtain ⟨L, hL⟩ : ∃ L, L = eS Nv Fn x y T k s (f + 1) 3 o i W := ⟨_, rfl⟩
    rw [← hL]
    by_cases h41 : isMk T (i + 1) 41
    · rw [if_pos h41] at hr e9
      obtain ⟨-, h43, h44, h45, h47⟩ := hr
      refine n_list hm (by omega) hn h43 (l_start hm (by omega) hn (by omega) ?_)
      rw [h44, hb0]
      exact L_end (j := 0) (ch := fun _ => vnest 0 (fun _ => v1 0 0)) hm (by omega) hn hO hrf hb0 (by omega) (by omega) h47 (fun q hq => absurd hq (by omega)) (hL.trans e9) (fun u z hz => hz)
    · rw [if_neg h41] at hr e9
      obtain ⟨-, h43, h45, h47, l, hlB, h44, hr4⟩ := hr
      rw [pR3_l h40 ho2 h41] at hpR
      have hi1 := TOKS_lt hK (i := i) (by have := h40.1; omega)
      have hpl := plN_le hK f (o + 1) (i + 1) j (by omega) hpR
      have hmk := hK.1
      have hjm := pR_mk hK f 4 (o + 1) (i + 1) j (by omega) hpR
      by_cases hp1 : plN T f (o + 1) (i + 1) = 1
      · -- one part
        refine n_list hm (by omega) hn h43 (l_one hm (by omega) hn (by omega) ?_)
        rw [h44]
        cases f with
        | zero => cases hpR
        | succ f =>
          rcases hj : pR T f 0 (o + 1) (i + 1) with e | j1
          · rw [pR4_e hj] at hpR; cases hpR
          have h59 : ¬ isMk T j1 59 := fun z => by
            have hq : pR T (f + 1) 4 (o + 1) (i + 1) = pR T f 4 (o + 1) (j1 + 1) := pR4_g hj z
            rw [hq] at hpR
            have hl1 := TOKS_lt hK (i := j1) (by have := z.1; omega)
            have := (plN_le hK f (o + 1) (j1 + 1) j (by omega) hpR).1
            have e1 : plN T (f + 1) (o + 1) (i + 1) = plN T f (o + 1) (j1 + 1) + 1 := by
              show (match pR T f 0 (o + 1) (i + 1) with | .inl _ => 1 | .inr j => if isMk T j 59 then plN T f (o + 1) (j + 1) + 1 else 1) = _
              rw [hj]
              exact if_pos z
            omega
          have hr4 : (match pR T f 0 (o + 1) (i + 1) with | .inl _ => False | .inr j => ∃ e : Nat, e < B ∧ rR s T f 0 (o + 1) (i + 1) B e (-1) ∧ s.2.2.1 48 e = -1 ∧ (if isMk T j 59 then rR s T f 4 (o + 1) (j + 1) B l (e : Int) else l = e)) := hr4
          rw [hj] at hr4
          obtain ⟨e, heB, hr0, -, hle⟩ := hr4
          rw [if_neg h59] at hle
          subst hle
          have hj1 := pR_mk hK f 0 (o + 1) (i + 1) j1 (by omega) hj
          have h41b : isMk T j1 41 := by
            by_cases z : isMk T j1 41
            · exact z
            · rw [pR4_x hj h59 z] at hpR; cases hpR
          rw [pR4_n hj h59 h41b] at hpR
          have hpR : j1 + 1 = j := by injection hpR
          have hw := CX0_V (d := d - 1 - 1) hm (ih0' f (by omega)) (by omega) hj (by omega) (by omega) (by omega) hO hE hB hlB hr0
          have e2 : eS Nv Fn x y T k s (f + 1) 4 (o + 1) (i + 1) W = dB (eS Nv Fn x y T k s f 0 (o + 1) (i + 1) W) (fun W v => (W, .inr (vnest 1 (fun _ => v)))) := by
            show (match pR T f 0 (o + 1) (i + 1) with | .inl _ => ((W, .inl (1, 0)) : DR) | .inr j => if isMk T j 59 then _ else dB (eS Nv Fn x y T k s f 0 (o + 1) (i + 1) W) (fun W v => (W, .inr (vnest 1 (fun _ => v))))) = _
            rw [hj]
            exact if_neg h59
          have e3 : L = eS Nv Fn x y T k s f 0 (o + 1) (i + 1) W := by
            rw [hL, e9, e2]
            rcases hs : eS Nv Fn x y T k s f 0 (o + 1) (i + 1) W with ⟨W', ⟨e, pl⟩ | v⟩
            · rfl
            · exact if_pos hp1
          rw [e3]
          exact hw
      · refine n_list hm (by omega) hn h43 (l_start hm (by omega) hn (by omega) ?_)
        rw [h44, hb0]
        refine ih4 (d - 1 - 1) W l n (o + 1) (i + 1) j B N (-1) ((b0 : Nat) : Int) s _ (by omega) hpR (by omega) (by omega) (by omega) hO hE hB (by omega) hr4 (fun W' e pl t X' he hq hX' => ?_) (fun W' r t he hp hvm hch => ?_)
        · exact L_err hm (by omega) hn hO hX' hq hb0 (fun u z hz => by rw [hL, e9, dBe he]; exact hz)
        · refine L_end (j := vm r) (ch := vd r) hm (by omega) hn hO hp hb0 (by omega) (by omega) h47 hch ?_ (fun u z hz => hz)
          rw [hL, e9, dBv he, if_neg hp1, hvm]
  · rw [if_neg h40] at hr
    have h91 : isMk T i 91 ∧ o < 12 := by
      by_cases z : isMk T i 91 ∧ o < 12
      · exact z
      · rw [pR3_x (by omega) (fun q => h40 q.1) z] at hpR; cases hpR
    have hi1 := TOKS_lt hK (i := i) (by have := h91.1.1; omega)
    rcases hj : pR T f 0 (o + 1) (i + 1) with e | j1
    · rw [hj] at hr; exact hr.elim
    rw [hj] at hr
    rcases hj2 : pR T f 0 (o + 1) (j1 + 1) with e | j2
    · have hr : (match pR T f 0 (o + 1) (j1 + 1) with | .inl _ => False | .inr k => ∃ a b c : Nat, (n < B ∧ a < B ∧ b < B ∧ c < B) ∧ rR s T f 0 (o + 1) (i + 1) B a (-1) ∧ rR s T f 0 (o + 1) (j1 + 1) B b (-1) ∧ rR s T f 0 (o + 1) (k + 1) B c (-1) ∧ s.2.2.1 43 n = 4 ∧ s.2.2.1 44 n = (a : Int) ∧ s.2.2.1 45 n = (b : Int) ∧ s.2.2.1 46 n = (c : Int) ∧ s.2.2.1 47 n = (tqP (T i) : Int)) := hr
      rw [hj2] at hr; exact hr.elim
    have hr : (match pR T f 0 (o + 1) (j1 + 1) with | .inl _ => False | .inr k => ∃ a b c : Nat, (n < B ∧ a < B ∧ b < B ∧ c < B) ∧ rR s T f 0 (o + 1) (i + 1) B a (-1) ∧ rR s T f 0 (o + 1) (j1 + 1) B b (-1) ∧ rR s T f 0 (o + 1) (k + 1) B c (-1) ∧ s.2.2.1 43 n = 4 ∧ s.2.2.1 44 n = (a : Int) ∧ s.2.2.1 45 n = (b : Int) ∧ s.2.2.1 46 n = (c : Int) ∧ s.2.2.1 47 n = (tqP (T i) : Int)) := hr
    rw [hj2] at hr
    obtain ⟨a, b, c, ⟨-, haB, hbB, hcB⟩, ra, rb, rc, h43, h44, h45, h46, h47⟩ := hr
    have hjm := pR_mk hK f 0 (o + 1) (i + 1) j1 (by omega) hj
    have h59a : isMk T j1 59 := by
      by_cases z : isMk T j1 59
      · exact z
      · rw [pR3_c2 h91.1 h91.2 hj z] at hpR; cases hpR
    have hl1 := TOKS_lt hK (i := j1) (by have := h59a.1; omega)
    have hjm2 := pR_mk hK f 0 (o + 1) (j1 + 1) j2 (by omega) hj2
    have h59b : isMk T j2 59 := by
      by_cases z : isMk T j2 59
      · exact z
      · rw [pR3_c4 h91.1 h91.2 hj h59a hj2 z] at hpR; cases hpR
    have hl2 := TOKS_lt hK (i := j2) (by have := h59b.1; omega)
    rcases hj3 : pR T f 0 (o + 1) (j2 + 1) with e | j3
    · rw [pR3_c5 h91.1 h91.2 hj h59a hj2 h59b hj3] at hpR; cases hpR
    have hjm3 := pR_mk hK f 0 (o + 1) (j2 + 1) j3 (by omega) hj3
    have hj3l : j = j3 + 1 := by
      rw [pR3_c6 h91.1 h91.2 hj h59a hj2 h59b hj3] at hpR
      by_cases z : isMk T j3 93
      · rw [if_pos z] at hpR; injection hpR with hpR; omega
      · rw [if_neg z] at hpR; cases hpR
    have e9 : eS Nv Fn x y T k s (f + 1) 3 o i W = dB (eS Nv Fn x y T k s f 0 (o + 1) (i + 1) W) (fun W c => if vk c ≠ 0 then dEr (cpS s) W 5 (tqP (T i) : Int) else if vn c 0 = 0 then eS Nv Fn x y T k s f 0 (o + 1) (j2 + 1) W else eS Nv Fn x y T k s f 0 (o + 1) (j1 + 1) W) := by
      refine (if_neg h1).trans ((if_neg h2).trans ((if_neg h3).trans ((if_neg h40).trans ?_)))
      rw [hj]
      show (match pR T f 0 (o + 1) (j1 + 1) with | .inl _ => ((W, .inl (1, 0)) : DR) | .inr k_1 => dB (eS Nv Fn x y T k s f 0 (o + 1) (i + 1) W) (fun W c => if vk c ≠ 0 then dEr (cpS s) W 5 (tqP (T i) : Int) else if vn c 0 = 0 then eS Nv Fn x y T k s f 0 (o + 1) (k_1 + 1) W else eS Nv Fn x y T k s f 0 (o + 1) (j1 + 1) W)) = _
      rw [hj2]
    obtain ⟨L, hL⟩ : ∃ L, L = eS Nv Fn x y T k s (f + 1) 3 o i W := ⟨_, rfl⟩
    rw [← hL]
    have hw := CX0_V (d := d - 1) hm ih0 (by omega) hj (by omega) (by omega) (by omega) hO hE hB haB ra
    rw [← h44] at hw
    rcases hs : eS Nv Fn x y T k s f 0 (o + 1) (i + 1) W with ⟨W1, ⟨e, pl⟩ | v⟩
    · rw [hs] at hw
      refine n_chE hm (by omega) hn h43 hw (fun u z hz => ?_) (fun u z hz => ?_)
      · have e5 := hz.2.2.2.2.1
        have e7 := hz.2.2.2.2.2.2.1
        have e5 : u.1 5 = (e : Int) := e5
        have e7 : 1 ≤ e ∧ e ≤ 100 := e7
        omega
      · rw [hL, e9, dBe hs]; exact hz
    · rw [hs] at hw
      have hv5 : ∀ u z, dq s W 0 (N : Int) (W1, .inr v) u z → u.1 5 = 0 ∧ rB u ∧ (0 ≤ u.1 10 ∧ u.1 10 ≤ 100) ∧ ∃ q : Nat, z = (q : Int) ∧ rv u 7 q v := fun u z hz => by
        obtain ⟨hz, q, e1, hg⟩ := hz
        have hu : DOK u W1 k N := DOK_j hO hz (by omega) (by omega)
        obtain ⟨-, -, -, -, -, -, -, -, -, -, hca⟩ := DOK_nat hu
        exact ⟨hz.2.2.1, hu.1, by omega, q, e1, hg.2.1⟩
      have nxt : ∀ (i2 j4 nd : Nat) (g : Nat), g = 45 ∨ g = 46 → i2 ≤ mk → pR T f 0 (o + 1) i2 = .inr j4 → (j4 - i2) + 484 + 700 * k ≤ N → nd < B → rR s T f 0 (o + 1) i2 B nd (-1) → s.2.2.1 g n = (nd : Int) → ∀ u z, dq s W 0 (N : Int) (W1, .inr v) u z → pgV xt (d - 1) 239 [.ref 102, ii (u.2.2.1 g n)] (rS pre post u) (RA pre post (dq s W 0 (N : Int) (eS Nv Fn x y T k s f 0 (o + 1) i2 W1))) := fun i2 j4 nd g hg hi2 hp2 hN2 hnd hr2 hgn u z hz => by
        have hz1 := hz.1
        have hu : DOK u W1 k N := DOK_j hO hz1 (by omega) (by omega)
        have hw2 := CX0_V (xt := xt) (post := post) (d := d - 1) hm ih0 hi2 hp2 (by omega) (by omega) hN2 hu (ENR_x hz1.1 hz1.2.1 hE) hB hnd (rR_k _ _ _ _ _ _ _ _ _ _ (ndK_df hz1.1 hz1.2.1 B) (Nat.le_refl _) hr2)
        rw [eS_cp (PM_cp hz1)] at hw2
        rw [dfr_a hz1.2.1 (by omega), hgn]
        exact pgV_i hw2 (fun v h' q => RA_mono q (fun t z hz2 => dq_tr hz1 hz2 (Int.le_refl _) (by omega)))
      by_cases hk0 : vk v = 0
      · by_cases hv0 : vn v 0 = 0
        · have e : L = eS Nv Fn x y T k s f 0 (o + 1) (j2 + 1) W1 := by rw [hL, e9, dBv hs, if_neg (by omega), if_pos hv0]
          rw [e]
          exact n_chF hm (by omega) hn h43 hw hv5 (Q2 := fun _ _ => True) (by omega) hk0 hv0 (nxt (j2 + 1) j3 c 46 (Or.inr rfl) (by omega) hj3 (by omega) hcB rc h46)
        · have e : L = eS Nv Fn x y T k s f 0 (o + 1) (j1 + 1) W1 := by rw [hL, e9, dBv hs, if_neg (by omega), if_neg hv0]
          rw [e]
          exact n_chT hm (by omega) hn h43 hw hv5 (Q2 := fun _ _ => True) (by omega) hk0 hv0 (nxt (j1 + 1) j2 b 45 (Or.inl rfl) (by omega) hj2 (by omega) hbB rb h45)
      · have e : L = dEr (cpS s) W1 5 (tqP (T i) : Int) := by rw [hL, e9, dBv hs, if_pos hk0]
        rw [e]
        refine n_chK hm (by omega) hn h43 hw hv5 (by omega) ⟨hk0, ?_⟩ (fun u z hz => ?_)
        · obtain ⟨t9, z9, hx9⟩ : ∃ t z, dq s W 0 (N : Int) (W1, .inr v) t z := by
            obtain ⟨r9, h9, -, x9, -, t9, z9, -, -, -, -, q9⟩ := hw
            exact ⟨t9, z9, q9⟩
          obtain ⟨-, -, -, q, -, hrv⟩ := hv5 t9 z9 hx9
          have := (vw1_m (rv_wf hrv).1).2.2
          omega
        · rw [dfr_a hz.1.2.1 (by decide), h47]
          exact dqE_fl (e := 5) hz.1 (by omega) (by omega) (by omega)
end nouns3
