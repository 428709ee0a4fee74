/-! the reference does: a call; EACH -/
/-- worth: what a row of nodes stands for -/
def CEX (xt : mj_X) (pre post : mj_H) (Nv : Int → Option VV) (Fn : Int → Option (Nat → Tok)) (k f : Nat) : Prop := ∀ (d W n o i j mk ln B : Nat) (T : Nat → Tok) (s : RS) (x y : Option VV), TOKS T mk ln → TKO T → i ≤ mk → pR T f 0 o i = .inr j → o ≤ 12 → 100 * k + 5 * (13 - o) + 93 ≤ d → DOK s W k ((j - i) + 484 + 700 * k) → ENR Nv Fn x y k s → B ≤ 84000 → n < B → rR s T f 0 o i B n (-1) → pgV xt d 239 [.ref 102, ii (n : Int)] (rS pre post s) (RA pre post (dq s W 0 (((j - i) + 484 + 700 * k : Nat) : Int) (eE (eC Nv Fn k) T Nv x y (cpS s) f 0 o i zB W)))
section cals2
variable {xt : mj_X} {pre post : mj_H} {Nv : Int → Option VV} {Fn : Int → Option (Nat → Tok)} {k : Nat}
theorem cpS_ca {s : RS} {pl xx yy : Int} (h : 0 ≤ s.1 10) : cpS (caS s pl xx yy) = some (dPl (cpS s) pl) := by
  unfold cpS
  rw [caS_10, caS_11, if_pos (by omega)]
  by_cases z : s.1 10 = 0
  · rw [if_pos z, if_neg (by omega)]; rfl
  · rw [if_neg z, if_pos (by omega)]; rfl
theorem dq_co {s u : RS} {W N : Nat} {pl xx yy z : Int} {r : DR} {n2 : Int} (h10 : 0 ≤ s.1 10) (hW : 5 ≤ W) (h : dq (caS s pl xx yy) (W - 5) 0 n2 r u z) (hn : n2 ≤ (N : Int)) : dq s W 9 (N : Int) r (coS s u) z := by
  have c3 := caS_k (t := s) (p := pl) (xx := xx) (yy := yy) (k := 3) (by decide) (by decide) (by decide) (by decide) (by decide) (by decide)
  have c4 := caS_k (t := s) (p := pl) (xx := xx) (yy := yy) (k := 4) (by decide) (by decide) (by decide) (by decide) (by decide) (by decide)
  have c6 := caS_k (t := s) (p := pl) (xx := xx) (yy := yy) (k := 6) (by decide) (by decide) (by decide) (by decide) (by decide) (by decide)
  have c13 := caS_k (t := s) (p := pl) (xx := xx) (yy := yy) (k := 13) (by decide) (by decide) (by decide) (by decide) (by decide) (by decide)
  have c7 := caS_7 (t := s) (p := pl) (xx := xx) (yy := yy)
  have o3 := coS_k (t := s) (u := u) (k := 3) (by decide) (by decide) (by decide)
  have o4 := coS_k (t := s) (u := u) (k := 4) (by decide) (by decide) (by decide)
  have o5 := coS_k (t := s) (u := u) (k := 5) (by decide) (by decide) (by decide)
  have o6 := coS_k (t := s) (u := u) (k := 6) (by decide) (by decide) (by decide)
  have o7 := coS_k (t := s) (u := u) (k := 7) (by decide) (by decide) (by decide)
  have o8 := coS_k (t := s) (u := u) (k := 8) (by decide) (by decide) (by decide)
  have o13 := coS_k (t := s) (u := u) (k := 13) (by decide) (by decide) (by decide)
  obtain ⟨W', ⟨e, p2⟩ | v⟩ := r
  · obtain ⟨b1, b2, b3, b4, b5, b6, b7, b8, b9, b10⟩ := h
    exact ⟨rext_co b1, dfr_co b2 h10, by omega, by omega, by omega, by omega, b7, by omega, by omega, by omega⟩
  · obtain ⟨⟨a1, a2, a3, a4, a5, a6, a7, a8, a9⟩, q, e1, e2⟩ := h
    exact ⟨⟨rext_co a1, dfr_co a2 h10, by omega, by omega, by omega, by omega, by omega, by omega, by omega⟩, q, e1, gr_x ⟨by omega, by omega, fun _ _ _ => ⟨rfl, rfl⟩, fun _ _ => rfl⟩ e2⟩
theorem CCL_s (hm : pre.length = 102) (hX : CEX xt pre post Nv Fn k fuR) : CCL xt pre post Nv Fn (k + 1) := by
  intro d W wq s x y l w c r lz pl hd hO hE hc hl hw
  by_cases hFn : Fn c = none
  · exact CCL_e hm (by omega) hO hE.1 hc (Or.inl hFn)
  have hrf := DOK_rf hO
  have hO2 := hO
  have hwl := gr_lt hO hw
  obtain ⟨q, b, base, h4, h3, h13, q3, q2, b2, hb, hca⟩ := DOK_nat hO
  obtain ⟨⟨B1, B2, B3, B4⟩, h5, ⟨hk10, h10⟩, ⟨h8, hW⟩, ⟨w1, w2⟩, hC, hV⟩ := hO
  obtain ⟨n, m, a1, a2, a3, a4, a5, a6⟩ := id hE.1
  rcases a6 c r hc with ⟨z1, z2⟩ | ⟨z1, nd, T, z2, z3, z4⟩
  · exact absurd z2 hFn
  obtain ⟨mk, ln, j, B, t1, t2, t3, t4, t5, t6, t7⟩ := z4
  have e : eC Nv Fn (k + 1) c l w pl (cpS s) W = dTk (cpS s) W 5 pl (fun W => eE (eC Nv Fn k) T Nv (some (l.getD w)) (l.map (fun _ => w)) (some (dPl (cpS s) pl)) fuR 0 1 3 zB W) := by
    show (match Fn c with | none => dEr (cpS s) W 2 pl | some T => dTk (cpS s) W 5 pl (fun W => eE (eC Nv Fn k) T Nv (some (l.getD w)) (l.map (fun _ => w)) (some (dPl (cpS s) pl)) fuR 0 1 3 zB W)) = _
    rw [z3]
  rw [e]
  by_cases hW5 : W < 5
  · rw [show dTk (cpS s) W 5 pl (fun W => eE (eC Nv Fn k) T Nv (some (l.getD w)) (l.map (fun _ => w)) (some (dPl (cpS s) pl)) fuR 0 1 3 zB W) = dEr (cpS s) W 10 pl from if_pos hW5]
    exact c_wk hm (by omega) (by omega) h5 hca ⟨by omega, by omega⟩ a1 a2 a3 a4 rfl z1 (by omega) (by omega) (dqE_fl (e := 10) hrf (by omega) (by omega) (by omega))
  rw [show dTk (cpS s) W 5 pl (fun W => eE (eC Nv Fn k) T Nv (some (l.getD w)) (l.map (fun _ => w)) (some (dPl (cpS s) pl)) fuR 0 1 3 zB W) = eE (eC Nv Fn k) T Nv (some (l.getD w)) (l.map (fun _ => w)) (some (dPl (cpS s) pl)) fuR 0 1 3 zB (W - 5) from if_neg hW5]
  have hj := pR_mk t1 _ _ _ _ _ (by omega) t4
  have hmk := t1.1
  have hN : (j - 3) + 484 + 700 * k ≤ 700 * (k + 1) := by omega
  have main : ∀ xx yy : Int, gX s xx (some (l.getD w)) → gX s yy (l.map (fun _ => w)) → pgV xt (d - 1) 239 [.ref 102, ii (s.2.2.1 22 (fndK (s.2.2.2 20) m (Int64.ofInt r)))] (rS pre post (caS s pl xx yy)) (RA pre post (dq (caS s pl xx yy) (W - 5) 0 (((j - 3) + 484 + 700 * k : Nat) : Int) (eE (eC Nv Fn k) T Nv (some (l.getD w)) (l.map (fun _ => w)) (some (dPl (cpS s) pl)) fuR 0 1 3 zB (W - 5)))) := by
    intro xx yy hx hy
    have c3 := caS_k (t := s) (p := pl) (xx := xx) (yy := yy) (k := 3) (by decide) (by decide) (by decide) (by decide) (by decide) (by decide)
    have c4 := caS_k (t := s) (p := pl) (xx := xx) (yy := yy) (k := 4) (by decide) (by decide) (by decide) (by decide) (by decide) (by decide)
    have c5 := caS_k (t := s) (p := pl) (xx := xx) (yy := yy) (k := 5) (by decide) (by decide) (by decide) (by decide) (by decide) (by decide)
    have c13 := caS_k (t := s) (p := pl) (xx := xx) (yy := yy) (k := 13) (by decide) (by decide) (by decide) (by decide) (by decide) (by decide)
    have c23 := caS_k (t := s) (p := pl) (xx := xx) (yy := yy) (k := 23) (by decide) (by decide) (by decide) (by decide) (by decide) (by decide)
    have c24 := caS_k (t := s) (p := pl) (xx := xx) (yy := yy) (k := 24) (by decide) (by decide) (by decide) (by decide) (by decide) (by decide)
    have c8 := caS_8 (t := s) (p := pl) (xx := xx) (yy := yy)
    have c10 := caS_10 (t := s) (p := pl) (xx := xx) (yy := yy)
    have hnd : ∀ B, ndK s (caS s pl xx yy) B := fun B => ⟨fun _ _ _ _ _ => rfl, fun _ _ => rfl, rext_ca⟩
    rw [z2, ← cpS_ca (xx := xx) (yy := yy) (by omega)]
    refine hX (d - 1) (W - 5) nd 1 3 j mk ln B T (caS s pl xx yy) _ _ t1 t3 t2 t4 (by decide) (by omega) ⟨⟨by omega, by omega, by omega, by omega⟩, by omega, ⟨by omega, by omega⟩, ⟨by omega, by omega⟩, ⟨by omega, by omega⟩, by omega, by omega⟩ ⟨RNV_x rext_ca c23 c24 rfl rfl rfl rfl hnd hE.1, fun z => absurd z (by omega), fun _ => ?_⟩ t5 t6 (rR_k _ _ _ _ _ _ _ _ _ _ (hnd B) (Nat.le_refl _) t7)
    rw [caS_58, caS_59]
    exact ⟨gX_x rext_ca hx, gX_x rext_ca hy⟩
  cases l with
  | none =>
    rw [show lz = -1 from hl]
    exact c_goA hm (by omega) (by omega) h5 hca ⟨by omega, by omega⟩ a1 a2 a3 a4 rfl z1 (by omega) (by omega) (main (wq : Int) (-1) ⟨wq, rfl, hw⟩ rfl) (fun u z hz => dq_co (by omega) (by omega) hz (by omega))
  | some v =>
    obtain ⟨lq, rfl, hlq⟩ := hl
    have hll := gr_lt hO2 hlq
    exact c_goB hm (by omega) (by omega) h5 hca ⟨by omega, by omega⟩ a1 a2 a3 a4 rfl z1 hll (by omega) (by omega) (main (lq : Int) (wq : Int) ⟨lq, rfl, hlq⟩ ⟨wq, rfl, hw⟩) (fun u z hz => dq_co (by omega) (by omega) hz (by omega))
end cals2
theorem vit_if {w : VV} {j : Nat} : vit w (if vk w ≤ 1 then 0 else j) = vit w j := by
  by_cases h : vk w ≤ 1
  · rw [if_pos h, vit_1 h, vit_1 h]
  · rw [if_neg h]
theorem it_if {w : VV} {j : Nat} (h : vk w ≤ 1 ∨ j < vm w) : vk w ≤ 1 ∨ (if vk w ≤ 1 then 0 else j) < vm w := by
  by_cases z : vk w ≤ 1
  · exact Or.inl z
  · rw [if_neg z]; exact h
theorem it_120 {w : VV} {j : Nat} (h : j ≤ 120) : (if vk w ≤ 1 then 0 else j) ≤ 120 := by
  split
  · exact Nat.zero_le _
  · exact h
section eachs
variable {xt : mj_X} {pre post : mj_H} {Nv : Int → Option VV} {Fn : Int → Option (Nat → Tok)} {x y : Option VV} {T : Nat → Tok} {i k a : Nat}
/-- what an act among many leaves -/
abbrev QA (s : RS) (W : Nat) (c : Int) (W1 j : Nat) (ch : Nat → VV) (wq : Nat) (w : VV) (n2 : Int) (c2 : Int) (r : DR) (t2 : RS) (z2 : Int) : Prop := ∃ u : RS, PM s W c u W1 j ∧ WV s u j ch ∧ gr u wq w ∧ dq u W1 c2 n2 r t2 z2
theorem QA_w {s : RS} {W W1 j wq N' : Nat} {c c2 : Int} {ch : Nat → VV} {w : VV} {r : DR} {t2 : RS} {z2 : Int} (h13 : 0 ≤ s.1 13) (h : QA s W c W1 j ch wq w (N' : Int) c2 r t2 z2) (hb : s.1 13 + (j : Int) + (N' : Int) < 8192) : ∃ w1 : Nat, t2.1 13 = (w1 : Int) ∧ w1 < 8192 := by
  obtain ⟨u, hu, -, -, hd⟩ := h
  have u13 := hu.2.2.2.2.2.2.1
  obtain ⟨W', ⟨e, pl⟩ | v⟩ := r
  · have b8 := hd.2.2.2.2.2.2.2.1
    exact ⟨(t2.1 13).toNat, by omega, by omega⟩
  · have b8 := hd.1.2.2.2.2.2.2.1
    exact ⟨(t2.1 13).toNat, by omega, by omega⟩
/-- the error of one of many -/
theorem QA_e {s : RS} {W W1 j wq N' N W' e w1 : Nat} {c c2 pl z2 zz : Int} {ch : Nat → VV} {w : VV} {t2 : RS} (h : QA s W c W1 j ch wq w (N' : Int) c2 (W', .inl (e, pl)) t2 z2) (hw : t2.1 13 = (w1 : Int)) (h1 : N' + j + 1 ≤ N) (h2 : (N' : Int) - c + 1 ≤ (N : Int)) : dqE s W (N : Int) W' e pl (pshS t2 w1 zz) := by
  obtain ⟨u, hu, -, -, hd⟩ := h
  have := dqE_psh (z := zz) (dqE_tr (nd := (N : Int) - 1) hu hd (by omega) (by omega)) hw
  rw [show (N : Int) - 1 + 1 = (N : Int) by omega] at this
  exact this
/-- the value of one of many -/
theorem QA_v {s : RS} {W W1 j wq W' w1 : Nat} {c c2 z2 n2 : Int} {ch : Nat → VV} {w v : VV} {t2 : RS} (h13 : 0 ≤ s.1 13) (h : QA s W c W1 j ch wq w n2 c2 (W', .inr v) t2 z2) (hw : t2.1 13 = (w1 : Int)) : PM s W (c + c2) (pshS t2 w1 z2) W' (j + 1) ∧ WV s (pshS t2 w1 z2) (j + 1) (va_up ch j v) ∧ gr (pshS t2 w1 z2) wq w := by
  obtain ⟨u, hu, hv, hg, hd, q, rfl, hq⟩ := h
  have p := PM_tr hu hd
  have u13 := hu.2.2.2.2.2.2.1
  have v2 := WV_x h13 hv u13 hd.1 hd.2.1
  exact ⟨PM_psh p hw, WV_psh h13 v2 (by have := p.2.2.2.2.2.2.1; omega) hw hq, gr_x (rext_tr hd.1 rext_psh) hg⟩
theorem each1_lp {d W act wq base : Nat} {s : RS} {w : VV} {Q : RS → Int → Prop} (hm : pre.length = 102) (ha3 : a ≤ 3) (hA : CAP xt pre post Nv Fn x y T i k a) (hd : 100 * k + 2 * a + 80 ≤ d) (hO : DOK s W k (121 * (a + 1) + 700 * k)) (hE : ENR Nv Fn x y k s) (hac : acV s T i act) (hb : s.1 13 = (base : Int)) (hmw : vm w ≤ 120) (hQ : ∀ t z, dq s W 4 ((121 * (a + 1) + 700 * k : Nat) : Int) (dLp (fun j W => dAp (eC Nv Fn k) T i (cpS s) a none (vit w j) W) (fun W ch => dGa (cpS s) W (vm w) ch (tqP (T i) : Int)) (vm w) 0 (fun _ => w) (W - 3)) t z → Q t z) : ∀ (r j W1 : Nat) (t : RS) (ch : Nat → VV), j + r = vm w → PM s W (9 - (j : Int)) t W1 j → WV s t j ch → gr t wq w → dLp (fun j W => dAp (eC Nv Fn k) T i (cpS s) a none (vit w j) W) (fun W ch => dGa (cpS s) W (vm w) ch (tqP (T i) : Int)) (vm w) 0 (fun _ => w) (W - 3) = dLp (fun j W => dAp (eC Nv Fn k) T i (cpS s) a none (vit w j) W) (fun W ch => dGa (cpS s) W (vm w) ch (tqP (T i) : Int)) r j ch W1 → HE xt d pre post t act wq (vm w) j (rvI T (i + 1) a) (-1) (tqP (T i) : Int) (base : Int) (PQ pre post Q) := by
  have hk10 : k ≤ 10 := hO.2.2.1.1
  have h13 := hO.2.2.2.2.1
  intro r
  induction r with
  | zero =>
    intro j W1 t ch hj hp hv hg hr
    have hjn : j = vm w := by omega
    refine e_end hm (by omega) hp.2.2.1 (by omega) (pgV_g (R_ga (pl := (tqP (T i) : Int)) hm (by omega) hO hp hv (by omega) (by omega) (by omega) hb)) (fun u z hz => PQ_i hz.1 hz.2.1 (hQ u z ?_))
    rw [hr]
    show dq s W 4 _ (dGa (cpS s) W1 (vm w) ch (tqP (T i) : Int)) u z
    rw [← hjn]
    exact dq_w hz.2.2 (by omega) (Int.le_refl _)
  | succ r ih =>
    intro j W1 t ch hj hp hv hg hr
    have ht0 : DOK t W1 k 0 := DOK_j hO hp (by omega) (by omega)
    have hBt := ht0.1
    have hit := R_item (xt := xt) (post := post) (d := d) (i := if vk w ≤ 1 then 0 else j) hm (by omega) ht0 hg (it_if (Or.inr (by omega))) (it_120 (by omega))
    rw [vit_if] at hit
    refine e_turn1 (n := vm w) hm (by omega) hBt hg.2.1 hp.2.2.1 (by omega) (by omega) hit (Q2 := GQ (QA s W (9 - (j : Int) - 5) W1 j ch wq w ((121 * a + 700 * k : Nat) : Int) 4 (dAp (eC Nv Fn k) T i (cpS s) a none (vit w j) W1))) (fun u z hz => ?_) (fun u z hz => QA_w h13.1 hz.2.2 (by omega)) (fun u z w1 hz hw1 => ?_)
    · obtain ⟨pm, q, rfl, hq⟩ := hz
      have p2 : PM s W (9 - (j : Int) - 5) u W1 j := by
        have := PM_tr hp pm
        rw [show 9 - (j : Int) + -5 = 9 - (j : Int) - 5 by omega, Nat.add_zero] at this
        exact this
      have hu : DOK u W1 k (121 * a + 700 * k) := DOK_j hO p2 (by omega) (by omega)
      have hap := hA d W1 act q u (-1) none (vit w j) hd hu (ENR_x p2.1 p2.2.1 hE) (acV_x p2.2.1 hac) rfl hq
      rw [PM_cp p2] at hap
      exact pgV_g (pgV_i hap (fun v h' z => RA_mono z (fun t2 z2 h2 => ⟨u, p2, WV_x h13.1 hv hp.2.2.2.2.2.2.1 pm.1 pm.2.1, gr_x pm.1 hg, h2⟩)))
    · obtain ⟨z5, zr, hz⟩ := hz
      rcases hs : dAp (eC Nv Fn k) T i (cpS s) a none (vit w j) W1 with ⟨W', ⟨e, pl⟩ | v⟩
      · rw [hs] at hz
        have he := QA_e (N := 121 * (a + 1) + 700 * k) (zz := z) hz hw1 (by omega) (by omega)
        have e5 := he.2.2.2.2.1
        have e7 := he.2.2.2.2.2.2.1
        refine e_err hm (by omega) (by omega) (pgV_g (R_gaE (p := (tqP (T i) : Int)) hm (by omega) he hb (by omega) (by omega))) (fun u2 y2 h2 => PQ_i h2.1 h2.2.1 (hQ u2 y2 ?_))
        rw [hr]
        show dq s W 4 _ (dB (dAp (eC Nv Fn k) T i (cpS s) a none (vit w j) W1) _) u2 y2
        rw [hs]
        exact h2.2.2.2
      · rw [hs] at hz
        obtain ⟨g1, g2, g3⟩ := QA_v h13.1 hz hw1
        refine ih (j + 1) W' (pshS u w1 z) (va_up ch j v) (by omega) ?_ g2 g3 ?_
        · exact PM_c g1 (by push_cast; omega)
        · rw [hr]
          show dB (dAp (eC Nv Fn k) T i (cpS s) a none (vit w j) W1) _ = _
          rw [hs]
          rfl
theorem each2_lp {d W act wq lq base : Nat} {s : RS} {l w : VV} {Q : RS → Int → Prop} (hm : pre.length = 102) (ha3 : a ≤ 3) (hA : CAP xt pre post Nv Fn x y T i k a) (hd : 100 * k + 2 * a + 80 ≤ d) (hO : DOK s W k (121 * (a + 1) + 700 * k)) (hE : ENR Nv Fn x y k s) (hac : acV s T i act) (hb : s.1 13 = (base : Int)) (hmw : vm w ≤ 120) (hml : vm l ≤ 120) (hne : ¬ (¬ vk l ≤ 1 ∧ ¬ vk w ≤ 1 ∧ vm l ≠ vm w)) (hlg : gr s lq l) {n : Nat} (hn : n = if vk w ≤ 1 then vm l else vm w) (hw1m : vk w ≤ 1 → 1 ≤ vm w) (hl1m : vk l ≤ 1 → vm l = 1) (hQ : ∀ t z, dq s W 9 ((121 * (a + 1) + 700 * k : Nat) : Int) (dLp (fun j W => dAp (eC Nv Fn k) T i (cpS s) a (some (vit l j)) (vit w j) W) (fun W ch => dGa (cpS s) W n ch (tqP (T i) : Int)) n 0 (fun _ => w) (W - 3)) t z → Q t z) : ∀ (r j W1 : Nat) (t : RS) (ch : Nat → VV), j + r = n → PM s W (9 - (j : Int)) t W1 j → WV s t j ch → gr t wq w → dLp (fun j W => dAp (eC Nv Fn k) T i (cpS s) a (some (vit l j)) (vit w j) W) (fun W ch => dGa (cpS s) W n ch (tqP (T i) : Int)) n 0 (fun _ => w) (W - 3) = dLp (fun j W => dAp (eC Nv Fn k) T i (cpS s) a (some (vit l j)) (vit w j) W) (fun W ch => dGa (cpS s) W n ch (tqP (T i) : Int)) r j ch W1 → HE xt d pre post t act wq n j (rvI T (i + 1) a) (lq : Int) (tqP (T i) : Int) (base : Int) (PQ pre post Q) := by
  have hk10 : k ≤ 10 := hO.2.2.1.1
  have h13 := hO.2.2.2.2.1
  have hn120 : n ≤ 120 := by rw [hn]; split <;> omega
  have hlL := gr_lt hO hlg
  intro r
  induction r with
  | zero =>
    intro j W1 t ch hj hp hv hg hr
    have hjn : j = n := by omega
    refine e_end hm (by omega) hp.2.2.1 (by omega) (pgV_g (R_ga (pl := (tqP (T i) : Int)) hm (by omega) hO hp hv (by omega) (by omega) (by omega) hb)) (fun u z hz => PQ_i hz.1 hz.2.1 (hQ u z ?_))
    rw [hr]
    show dq s W 9 _ (dGa (cpS s) W1 n ch (tqP (T i) : Int)) u z
    rw [← hjn]
    exact dq_w hz.2.2 (by omega) (Int.le_refl _)
  | succ r ih =>
    intro j W1 t ch hj hp hv hg hr
    have ht0 : DOK t W1 k 0 := DOK_j hO hp (by omega) (by omega)
    have hBt := ht0.1
    have hlt := gr_x hp.1 hlg
    have hjl : vk l ≤ 1 ∨ j < vm l := by
      by_cases z : vk l ≤ 1
      · exact Or.inl z
      · refine Or.inr ?_
        by_cases y : vk w ≤ 1
        · rw [if_pos y] at hn; omega
        · rw [if_neg y] at hn
          have : vm l = vm w := Classical.byContradiction fun q => hne ⟨z, y, q⟩
          omega
    have hjw : vk w ≤ 1 ∨ j < vm w := by
      by_cases y : vk w ≤ 1
      · exact Or.inl y
      · rw [if_neg y] at hn; exact Or.inr (by omega)
    have hil := R_item (xt := xt) (post := post) (d := d) (i := if vk l ≤ 1 then 0 else j) hm (by omega) ht0 hlt (it_if hjl) (it_120 (by omega))
    rw [vit_if] at hil
    refine e_turn2 (n := n) hm (by omega) hBt hg.2.1 hp.2.2.1 (by omega) (by omega) hlL hlt.2.1 hil (Q1 := fun _ _ => True) (Q2 := GQ (QA s W (9 - (j : Int) - 10) W1 j ch wq w ((121 * a + 700 * k : Nat) : Int) 9 (dAp (eC Nv Fn k) T i (cpS s) a (some (vit l j)) (vit w j) W1))) (fun u z hz => ?_) (fun u z hz => ?_) (fun u z hz => QA_w h13.1 hz.2.2 (by omega)) (fun u z w1 hz hw1 => ?_)
    · have hu0 : DOK u W1 k 0 := DOK_j hO (PM_tr hp hz.1) (by omega) (by omega)
      exact ⟨hu0.1, rv_ext hz.1.1 hg.1 hg.2.1⟩
    · obtain ⟨pm, q, rfl, hq⟩ := hz
      have hu0 : DOK u W1 k 0 := DOK_j hO (PM_tr hp pm) (by omega) (by omega)
      have hiw := R_item (xt := xt) (post := post) (d := d) (i := if vk w ≤ 1 then 0 else j) hm (by omega) hu0 (gr_x pm.1 hg) (it_if hjw) (it_120 (by omega))
      rw [vit_if] at hiw
      refine pgV_i hiw (fun v h' z => RA_mono z (fun u2 z2 h2 => ⟨trivial, ?_⟩))
      obtain ⟨pm2, q2, rfl, hq2⟩ := h2
      have p2 : PM s W (9 - (j : Int) - 10) u2 W1 j := by
        have := PM_tr hp (PM_tr pm pm2)
        rw [show 9 - (j : Int) + (-5 + -5) = 9 - (j : Int) - 10 by omega, Nat.add_zero] at this
        exact this
      have hu : DOK u2 W1 k (121 * a + 700 * k) := DOK_j hO p2 (by omega) (by omega)
      have hap := hA d W1 act q2 u2 (q : Int) (some (vit l j)) (vit w j) hd hu (ENR_x p2.1 p2.2.1 hE) (acV_x p2.2.1 hac) ⟨q, rfl, gr_x pm2.1 hq⟩ hq2
      rw [PM_cp p2] at hap
      have pmm := PM_tr pm pm2
      exact pgV_g (pgV_i hap (fun v h' z => RA_mono z (fun t2 z2 h2 => ⟨u2, p2, WV_x h13.1 hv hp.2.2.2.2.2.2.1 pmm.1 pmm.2.1, gr_x pmm.1 hg, h2⟩)))
    · obtain ⟨z5, zr, hz⟩ := hz
      rcases hs : dAp (eC Nv Fn k) T i (cpS s) a (some (vit l j)) (vit w j) W1 with ⟨W', ⟨e, pl⟩ | v⟩
      · rw [hs] at hz
        have he := QA_e (N := 121 * (a + 1) + 700 * k) (zz := z) hz hw1 (by omega) (by omega)
        have e5 := he.2.2.2.2.1
        have e7 := he.2.2.2.2.2.2.1
        refine e_err hm (by omega) (by omega) (pgV_g (R_gaE (p := (tqP (T i) : Int)) hm (by omega) he hb (by omega) (by omega))) (fun u2 y2 h2 => PQ_i h2.1 h2.2.1 (hQ u2 y2 ?_))
        rw [hr]
        show dq s W 9 _ (dB (dAp (eC Nv Fn k) T i (cpS s) a (some (vit l j)) (vit w j) W1) _) u2 y2
        rw [hs]
        exact h2.2.2.2
      · rw [hs] at hz
        obtain ⟨g1, g2, g3⟩ := QA_v h13.1 hz hw1
        refine ih (j + 1) W' (pshS u w1 z) (va_up ch j v) (by omega) ?_ g2 g3 ?_
        · exact PM_c g1 (by push_cast; omega)
        · rw [hr]
          show dB (dAp (eC Nv Fn k) T i (cpS s) a (some (vit l j)) (vit w j) W1) _ = _
          rw [hs]
          rfl
end eachs
