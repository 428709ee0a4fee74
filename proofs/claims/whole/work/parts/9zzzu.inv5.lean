/-! print, keep, back -/
theorem bl_inj {f g : Nat → Int} {m : Nat} (h : bl f m = bl g m) : ∀ j, j < m → f j = g j := fun j hj => by
  rw [← bl_getD (f := f) hj, h, bl_getD hj]
section cph
variable {h : mj_H} {o a1 a2 a3 a4 n m n2 m2 : Nat} {kf jf kf2 jf2 : Nat → Int64} {vf of vf2 of2 : Nat → Option Nat}
theorem cpH_l : (cpH h o a1 a2 a3 a4 n m kf vf jf of).length = h.length := by
  unfold cpH
  rw [List.length_set, List.length_set, List.length_set, List.length_set, List.length_set]
theorem cpH_x {x : Nat} (h0 : x ≠ o) (h1 : x ≠ a1) (h2 : x ≠ a2) (h3 : x ≠ a3) (h4 : x ≠ a4) : (cpH h o a1 a2 a3 a4 n m kf vf jf of)[x]? = h[x]? := by
  unfold cpH
  rw [List.getElem?_set_ne (by omega), List.getElem?_set_ne (by omega), List.getElem?_set_ne (by omega), List.getElem?_set_ne (by omega), List.getElem?_set_ne (by omega)]
theorem cpH_S (hS : NS h o a1 a2 a3 a4 n2 kf2 vf2 m2 jf2 of2) (hD : NDis o a1 a2 a3 a4) : NS (cpH h o a1 a2 a3 a4 n m kf vf jf of) o a1 a2 a3 a4 n kf vf m jf of := by
  obtain ⟨s1, s2, s3, s4, s5⟩ := hS
  obtain ⟨d1, d2, d3, d4, d5, d6, d7, d8, d9, d10⟩ := hD
  have l : ∀ {x : Nat} {c : mj_E} {X : mj_H}, X.length = h.length → h[x]? = some c → x < X.length := fun e z => by rw [e]; exact hl_lt z
  refine ⟨hl_ne d4 (hl_ne d3 (hl_ne d2 (hl_ne d1 (hl_set (hl_lt s1))))), hl_ne d7 (hl_ne d6 (hl_ne d5 (hl_set (l ?_ s2)))), hl_ne d9 (hl_ne d8 (hl_set (l ?_ s3))), hl_ne d10 (hl_set (l ?_ s4)), hl_set (l ?_ s5)⟩
  · rw [List.length_set]
  · rw [List.length_set, List.length_set]
  · rw [List.length_set, List.length_set, List.length_set]
  · rw [List.length_set, List.length_set, List.length_set, List.length_set]
theorem cpH_sl (hS : NS h o a1 a2 a3 a4 n2 kf2 vf2 m2 jf2 of2) (hD : NDis o a1 a2 a3 a4) : mj_sl (cpH h o a1 a2 a3 a4 n m kf vf jf of) = mj_sl h := by
  obtain ⟨s1, s2, s3, s4, s5⟩ := hS
  obtain ⟨d1, d2, d3, d4, d5, d6, d7, d8, d9, d10⟩ := hD
  unfold cpH
  exact Eq.trans (sl_set (hl_ne (Ne.symm d10) (hl_ne (Ne.symm d9) (hl_ne (Ne.symm d7) (hl_ne (Ne.symm d4) s5)))) rfl) (Eq.trans (sl_set (hl_ne (Ne.symm d8) (hl_ne (Ne.symm d6) (hl_ne (Ne.symm d3) s4))) rfl) (Eq.trans (sl_set (hl_ne (Ne.symm d5) (hl_ne (Ne.symm d2) s3)) rfl) (Eq.trans (sl_set (hl_ne (Ne.symm d1) s2) rfl) (sl_set s1 rfl))))
end cph
section sts
variable {xt : mj_X} {d r : Nat} {h h1 h' pre post : mj_H} {s t : RS} {A A' : Nat → Prop}
theorem S_print {f1 : Nat → Value} (hx1 : xt 1 = some (.long, 0, f1)) (hd : 1500 ≤ d) (hI : INV (r + 1) h) : ∃ z : Int, STEP xt d 186 310 [] r h (ii z) := by
  have hI0 := hI
  obtain ⟨A, pre, post, s, fd, W, qr, qp, pr, pp, pm, n, m, le, lp, lw, bf, pf, v, w, g, vf, of, kf, jf, ⟨e, hm⟩, hfd, hC, ⟨⟨b1, b2, b3, b4, b5⟩, b6, b7, ⟨b8, b9⟩, b10⟩, hV, hN, hK, hR⟩ := hI
  have hRB := rB_R hR
  obtain ⟨hR1, hR2, hR3, hR4, hR5⟩ := hR
  have hC0 := hC
  obtain ⟨c1, hM, ⟨mk, ln, le_, gd, sf, pf', df, ⟨t1, t2, t3, t4, t5, t6, t7⟩, c3⟩, c4, c5, c6, ⟨c7, ⟨dg, c8⟩, c9⟩, c10⟩ := hC
  refine ⟨((((vaL 7 w).take 400).length : Nat) : Int), pgV_mono (a_print (by omega) hx1 hM.2.1 c1 c7 c9 c8 b9 hV.2.2.2.1) (fun y h1 q => ?_)⟩
  obtain ⟨hy, ⟨hl, hsl, hx⟩, f3, m3, dg3, p98, p100, p99, hm3, hl3⟩ := q
  have hkp : kpA A h A h1 := kp_lo hM.2.1 (fun x _ q => hx x (by omega) (by omega) (by omega))
  obtain ⟨pre1, post1, p1, p2, P⟩ := BAS (h1 := h1) e hm hM (by omega) (fun x _ q => hx x (by omega) (by omega) (by omega)) hkp (okA_len hM.2.1 (by omega))
  refine ⟨hy, ?_, by rw [p2]; exact rS_102 p1⟩
  rw [p2]
  refine pgV_mono (r_print_ p1 (by omega) hRB hV.1.2 hV.2.2.2.2) (fun y2 h2 q2 => ?_)
  obtain ⟨hy2, t, hh2, ti, tL, tI, tJ, t18, tbl⟩ := q2
  refine ⟨hy2, ?_⟩
  rw [hh2]
  obtain ⟨l, sl, f, k3, hM2⟩ := P t
  have hlen : ((vaL 7 w).take 400).length = m3 := by rw [hl3, bl_len]
  rw [hlen] at t18 tbl
  have hpf := bl_inj (tbl.trans hl3)
  have ry : RY s t := ⟨ti 3 (by decide) (by decide), ti 4 (by decide) (by decide), ti 50 (by decide) (by decide), ti 30 (by decide) (by decide), tI 1 (by decide) (by decide), tI 2 (by decide) (by decide), by rw [tJ], fun k q1 q2 => tI k (by omega) (by omega), by rw [tJ]⟩
  have f2x : ∀ x, x ≠ 98 → x ≠ 100 → x ≠ 99 → x < 102 ∨ 127 ≤ x → (rS pre1 post1 t)[x]? = h[x]? := fun x q1 q2 q3 q4 => (f x q4).trans (hx x q1 q2 q3)
  have e3 := ti 3 (by decide) (by decide)
  have e4 := ti 4 (by decide) (by decide)
  have e50 := ti 50 (by decide) (by decide)
  exact ⟨A, pre1, post1, t, fd, W, qr, qp, pr, pp, m3, n, m, le, lp, lw, bf, f3, v, w, g, vf, of, kf, jf, ⟨rfl, p1⟩, hfd, ICL_n hC0 hM2 (fun x q1 q2 q3 => f2x x (by omega) (by omega) (by omega) (by omega)) ((f2x 2 (by decide) (by decide) (by decide) (by omega)).trans c1) ((f2x 3 (by decide) (by decide) (by decide) (by omega)).trans t5) ((f2x 15 (by decide) (by decide) (by decide) (by omega)).trans c10) ((f 98 (by omega)).trans p98) ⟨dg3, (f 99 (by omega)).trans p99⟩ ((f 100 (by omega)).trans p100), ⟨⟨(ti 33 (by decide) (by decide)).trans b1, (ti 8 (by decide) (by decide)).trans b2, (ti 5 (by decide) (by decide)).trans b3, (ti 6 (by decide) (by decide)).trans b4, (ti 7 (by decide) (by decide)).trans b5⟩, by rw [tI 32 (by decide) (by decide)]; exact b6, by rw [tI 32 (by decide) (by decide)]; exact b7, ⟨t18, hm3⟩, hpf⟩, IVL_k hV k3 (RY_XX ry).1 (RY_v ry hV.2.2.2.2) (ti 30 (by decide) (by decide)) (ti 31 (by decide) (by decide)), NMT_k hN k3 (RY_XX ry) (NS_e hN.1 (f2x 4 (by decide) (by decide) (by decide) (by omega)) (f2x 5 (by decide) (by decide) (by decide) (by omega)) (f2x 6 (by decide) (by decide) (by decide) (by omega)) (f2x 7 (by decide) (by decide) (by decide) (by omega)) (f2x 8 (by decide) (by decide) (by decide) (by omega))) (ti 23 (by decide) (by decide)) (ti 24 (by decide) (by decide)) (by rw [tJ]) (by rw [tJ]) (tI 21 (by decide) (by decide)) (tI 22 (by decide) (by decide)), KEP_k (by omega) (fun x q1 q2 => f2x x (by omega) (by omega) (by omega) (by omega)) k3 (fun a ha => Or.inl ha) (RY_XX ry) (by rw [tJ]) (tI 26 (by decide) (by decide)) (tI 27 (by decide) (by decide)) (tI 28 (by decide) (by decide)) (tI 29 (by decide) (by decide)) hK, by omega, by omega, by omega, by omega, by omega⟩
theorem kpS_i {k : Nat} : (kpS s k 40).1 = s.1 := rfl
theorem kpS_I {k j : Nat} (h : j ≠ 26 ∧ j ≠ 27 ∧ j ≠ 28 ∧ j ≠ 29) : (kpS s k 40).2.2.1 j = s.2.2.1 j := by
  unfold kpS
  dsimp only
  rw [up_ne _ _ (by omega), up_ne _ _ (by omega), up_ne _ _ (by omega), up_ne _ _ (by omega)]
theorem kpS_29 {k : Nat} : (kpS s k 40).2.2.1 29 = va_up (s.2.2.1 29) k 1 := by simp [kpS, va_up]
theorem kpS_27 {k : Nat} : (kpS s k 40).2.2.1 27 = va_up (s.2.2.1 27) k (s.1 23) := by simp [kpS, va_up]
theorem kpS_28 {k : Nat} : (kpS s k 40).2.2.1 28 = va_up (s.2.2.1 28) k (s.1 24) := by simp [kpS, va_up]
theorem kpS_26 {k : Nat} : (kpS s k 40).2.2.1 26 = kpF (s.2.2.1 26) (s.2.2.1 21) (s.2.2.1 22) k 40 := by simp [kpS, va_up]
theorem kpS_J {k j : Nat} (h : j ≠ 25) : (kpS s k 40).2.2.2 j = s.2.2.2 j := by
  show va_up s.2.2.2 25 (kpF (s.2.2.2 25) (s.2.2.2 19) (s.2.2.2 20) k 40) j = _
  rw [up_ne _ _ h]
theorem kpS_25 {k : Nat} : (kpS s k 40).2.2.2 25 = kpF (s.2.2.2 25) (s.2.2.2 19) (s.2.2.2 20) k 40 := by
  show va_up s.2.2.2 25 (kpF (s.2.2.2 25) (s.2.2.2 19) (s.2.2.2 20) k 40) 25 = _
  rw [up_eq]
theorem kpF_a {α : Type} {f a b : Nat → α} {k j : Nat} (h : j < 40) : kpF f a b k 40 (80 * k + j) = a j := by
  unfold kpF
  rw [if_pos (by omega), show 80 * k + j - 80 * k = j by omega]
theorem kpF_b {α : Type} {f a b : Nat → α} {k j : Nat} (h : j < 40) : kpF f a b k 40 (80 * k + 40 + j) = b j := by
  unfold kpF
  rw [if_neg (by omega), if_pos (by omega), show 80 * k + 40 + j - (80 * k + 40) = j by omega]
theorem kpF_o {α : Type} {f a b : Nat → α} {k k' x : Nat} (h : k' ≠ k) (h1 : 80 * k' ≤ x) (h2 : x < 80 * k' + 80) : kpF f a b k 40 x = f x := by
  unfold kpF
  rw [if_neg (by omega), if_neg (by omega)]
theorem S_keep {k : Int} (hd : 1500 ≤ d) (hk : -2147483648 ≤ k ∧ k ≤ 2147483647) (hI : INV (r + 1) h) : ∃ z : Int, STEP xt d 188 312 [ii k] r h (ii z) := by
  have hI0 := hI
  obtain ⟨A, pre, post, s, fd, W, qr, qp, pr, pp, pm, n, m, le, lp, lw, bf, pf, v, w, g, vf, of, kf, jf, ⟨e, hm⟩, hfd, hC, ⟨⟨b1, b2, b3, b4, b5⟩, b6, b7, ⟨b8, b9⟩, b10⟩, hV, hN, hK, hR1, hR2, hR3, hR4, hR5⟩ := hI
  have hC0 := hC
  obtain ⟨c1, hM, ⟨mk, ln, le_, gd, sf, pf', df, ⟨t1, t2, t3, t4, t5, t6, t7⟩, c3⟩, c4, c5, c6, ⟨c7, c8, c9⟩, c10⟩ := hC
  have m1 := hM.1
  by_cases hno : k < 0 ∨ 4 ≤ k
  · refine ⟨0, S_pureV hI0 (x_imp (a_keepN (by omega) c1 c10 hk hno) (fun y h1 q => ⟨_, q.1, rfl, q.2⟩)) ?_⟩
    have := r_keepN (xt := xt) (d := d) (post := post) (s := s) hm (by omega) hk (by omega)
    rw [← e] at this
    exact this
  obtain ⟨k, rfl⟩ : ∃ k' : Nat, k = (k' : Int) := ⟨k.toNat, by omega⟩
  have hk4 : k < 4 := by omega
  obtain ⟨ob, k1, k2⟩ := hK
  have fin : ∀ (h1 : mj_H) (o : Nat) (g' : Nat → Option Nat) (kf' jf' : Nat → Int64) (vf' of' : Nat → Option Nat), (h.length ≤ h1.length ∧ h1.length ≤ h.length + 5) → mj_sl h1 ≤ mj_sl h + 200 → (∀ x, x < h.length → ¬ (o ≤ x ∧ x < o + 5) → x ≠ 15 → h1[x]? = h[x]?) → h1[15]? = some (cA 6 4 g') → (127 ≤ o ∧ o + 5 ≤ h1.length) → (∀ i, i < 5 → ¬ A (o + i)) → NS h1 o (o + 1) (o + 2) (o + 3) (o + 4) n kf' vf' m jf' of' → (∀ j, j < 40 → kf' j = kf j) → (∀ j, j < 40 → jf' j = jf j) → (∀ j, j < 40 → vf' j = vf j) → (∀ j, j < 40 → of' j = of j) → g' k = some o → (∀ j, j ≠ k → g' j = g j) → (∀ j, j < 4 → j ≠ k → g j ≠ none → ob j + 5 ≤ o ∨ o + 5 ≤ ob j) → pgV xt d 312 [.ref 102, ii (k : Int)] h1 (fun y2 h2 => y2 = ii 1 ∧ INV r h2) ∧ ∃ c, h1[102]? = some (cO 12 c) := by
    intro h1 o g' kf' jf' vf' of' hl hsl hx g15 ho hoA hS q7 q8 q9 q10 gk gj hdis
    have nin : ∀ a, A a → ¬ (o ≤ a ∧ a < o + 5) := fun a ha z => hoA (a - o) (by omega) (by rw [show o + (a - o) = a by omega]; exact ha)
    have hkp : kpA A h A h1 := fun a e' ha hg => ⟨ha, (hx a (hM.2.1 a ha).1 (nin a ha) (by have := hM.2.1 a ha; omega)).trans hg⟩
    obtain ⟨pre1, post1, p1, p2, P⟩ := BAS (h1 := h1) e hm hM (by omega) (fun x q q2 => hx x q (by omega) (by omega)) hkp (okA_len hM.2.1 (by omega))
    refine ⟨?_, by rw [p2]; exact rS_102 p1⟩
    rw [p2]
    refine pgV_mono (r_keep_ p1 (by omega) hk4) (fun y2 h2 q2 => ?_)
    obtain ⟨hy2, hh2⟩ := q2
    refine ⟨hy2, ?_⟩
    rw [hh2]
    obtain ⟨l, sl, f, k3, hM2⟩ := P (kpS s k 40)
    have ry : RY s (kpS s k 40) := ⟨rfl, rfl, rfl, rfl, kpS_I (by omega), kpS_I (by omega), kpS_J (by decide), fun j q1 q2 => kpS_I (by omega), kpS_J (by decide)⟩
    have f2x : ∀ x, x < h.length → ¬ (o ≤ x ∧ x < o + 5) → x ≠ 15 → x < 102 ∨ 127 ≤ x → (rS pre1 post1 (kpS s k 40))[x]? = h[x]? := fun x q1 q2 q3 q4 => (f x q4).trans (hx x q1 q2 q3)
    have lo : ∀ x, x < 102 → x ≠ 15 → (rS pre1 post1 (kpS s k 40))[x]? = h[x]? := fun x q1 q2 => f2x x (by omega) (by omega) q2 (by omega)
    refine ⟨A, pre1, post1, kpS s k 40, fd, W, qr, qp, pr, pp, pm, n, m, le, lp, lw, bf, pf, v, w, g', vf, of, kf, jf, ⟨rfl, p1⟩, hfd, ICL_n hC0 hM2 (fun x q1 q2 q3 => lo x (by omega) q3) ((lo 2 (by omega) (by decide)).trans c1) ((lo 3 (by omega) (by decide)).trans t5) ((f 15 (by omega)).trans g15) ((lo 98 (by omega) (by decide)).trans c7) (by rw [lo 99 (by omega) (by decide)]; exact c8) ((lo 100 (by omega) (by decide)).trans c9), ⟨⟨b1, b2, b3, b4, b5⟩, by rw [kpS_I (by omega)]; exact b6, by rw [kpS_I (by omega)]; exact b7, ⟨b8, b9⟩, by rw [kpS_I (by omega)]; exact b10⟩, IVL_k hV k3 (RY_XX ry).1 (RY_v ry hV.2.2.2.2) rfl rfl, NMT_k hN k3 (RY_XX ry) (NS_e hN.1 (lo 4 (by omega) (by decide)) (lo 5 (by omega) (by decide)) (lo 6 (by omega) (by decide)) (lo 7 (by omega) (by decide)) (lo 8 (by omega) (by decide))) rfl rfl (kpS_J (by decide)) (kpS_J (by decide)) (kpS_I (by omega)) (kpS_I (by omega)), ⟨va_up ob k o, fun j hj => ?_, fun j j' hj hj' hne q1 q2 => ?_⟩, by omega, by omega, ⟨hR3.1, by have := hR3.2; rw [kpS_i]; omega⟩, ⟨hR4.1, by have := hR4.2; rw [kpS_i]; omega⟩, ⟨hR5.1, by have := hR5.2; rw [kpS_i]; omega⟩⟩
    · by_cases z : j = k
      · subst z
        rw [up_eq, kpS_29, up_eq]
        refine Or.inr ⟨gk, rfl, ⟨ho.1, by omega⟩, hoA, n, m, kf', jf', vf', of', NMT_k2 hN k3 (RY_XX ry) (NS_e hS (f _ (by omega)) (f _ (by omega)) (f _ (by omega)) (f _ (by omega)) (f _ (by omega))) (by rw [kpS_27, up_eq]) (by rw [kpS_28, up_eq]) (fun i hi => by rw [kpS_25, kpF_a hi]) (fun i hi => by rw [kpS_25, kpF_b hi]) (fun i hi => by rw [kpS_26, kpF_a hi]) (fun i hi => by rw [kpS_26, kpF_b hi]) q7 q8 q9 q10⟩
      · rw [up_ne _ _ z, gj j z, kpS_29, up_ne _ _ z]
        rcases k1 j hj with y | ⟨y1, y2, y3⟩
        · exact Or.inl y
        · have hdj := hdis j hj z (by rw [y1]; simp)
          exact Or.inr ⟨y1, y2, KPT_k2 (by omega) (fun x x1 x2 x3 x4 => f2x x x2 (by omega) (by omega) (by omega)) k3 (fun a ha => Or.inl ha) (RY_XX ry) (fun i i1 i2 => by rw [kpS_25, kpF_o z i1 i2]) (fun i i1 i2 => by rw [kpS_26, kpF_o z i1 i2]) (by rw [kpS_27, up_ne _ _ z]) (by rw [kpS_28, up_ne _ _ z]) y3⟩
    · by_cases z : j = k
      · have z' : j' ≠ k := fun y => hne (z.trans y.symm)
        rw [gj j' z'] at q2
        rw [z, up_eq, up_ne _ _ z']
        have := hdis j' hj' z' q2
        omega
      · rw [gj j z] at q1
        by_cases z' : j' = k
        · rw [z', up_eq, up_ne _ _ z]
          exact hdis j hj z q1
        · rw [gj j' z'] at q2
          rw [up_ne _ _ z, up_ne _ _ z']
          exact k2 j j' hj hj' hne q1 q2
  rcases k1 k hk4 with ⟨gn, -⟩ | ⟨gs, -, ⟨o1, o2⟩, o3, n', m', kf', jf', vf', of', hN'⟩
  · refine ⟨1, pgV_mono (a_keepNew (by omega) c1 c10 hk4 m1 gn hN.1 (ENA_T hN.2.2.2.2.1) (ENA_T hN.2.2.2.2.2)) (fun y h1 q => ⟨q.1, ?_⟩)⟩
    have hD : NDis h.length (h.length + 1) (h.length + 2) (h.length + 3) (h.length + 4) := by unfold NDis; omega
    have hS := nmN_NS (h := h) (Y := cA 6 4 (va_up g k (some h.length))) m1
    have l5 : ((h ++ nmN h.length).set 15 (cA 6 4 (va_up g k (some h.length)))).length = h.length + 5 := by rw [List.length_set, List.length_append]; rfl
    have hh := q.2
    refine fin h1 h.length (va_up g k (some h.length)) (cpF (fun _ => 0) kf 40) (cpF (fun _ => 0) jf 40) (cpF (fun _ => none) vf 40) (cpF (fun _ => none) of 40) ?_ ?_ (fun x x1 x2 x3 => ?_) ?_ ?_ (fun i hi z => by have := hM.2.1 _ z; omega) ?_ (fun j hj => cpF_at _ _ hj) (fun j hj => cpF_at _ _ hj) (fun j hj => cpF_at _ _ hj) (fun j hj => cpF_at _ _ hj) (up_eq _ _ _) (fun j hj => up_ne _ _ hj) (fun j hj hjk hg => ?_)
    · rw [hh, cpH_l, l5]; omega
    · rw [hh, cpH_sl hS hD, show mj_sl ((h ++ nmN h.length).set 15 (cA 6 4 (va_up g k (some h.length)))) = mj_sl (h ++ nmN h.length) from sl_set (hl_app c10) rfl, sl_app]
      show mj_sl h + 166 ≤ _
      omega
    · rw [hh, cpH_x (by omega) (by omega) (by omega) (by omega) (by omega), List.getElem?_set_ne (by omega), List.getElem?_append_left x1]
    · rw [hh, cpH_x (by omega) (by omega) (by omega) (by omega) (by omega)]
      exact hl_set (by rw [List.length_append]; omega)
    · rw [hh, cpH_l, l5]; omega
    · rw [hh]; exact cpH_S hS hD
    · rcases k1 j hj with y | ⟨y1, y2, y3⟩
      · exact absurd y.1 hg
      · exact Or.inl y3.1.2
  · have hD : NDis (ob k) (ob k + 1) (ob k + 2) (ob k + 3) (ob k + 4) := by unfold NDis; omega
    refine ⟨1, pgV_mono (a_keepY (by omega) c1 c10 hk4 gs hN'.1 hN.1 (by omega) hD (ENA_T hN.2.2.2.2.1) (ENA_T hN.2.2.2.2.2)) (fun y h1 q => ⟨q.1, ?_⟩)⟩
    have hh := q.2
    refine fin h1 (ob k) g (cpF kf' kf 40) (cpF jf' jf 40) (cpF vf' vf 40) (cpF of' of 40) ?_ ?_ (fun x x1 x2 x3 => ?_) ?_ ?_ o3 ?_ (fun j hj => cpF_at _ _ hj) (fun j hj => cpF_at _ _ hj) (fun j hj => cpF_at _ _ hj) (fun j hj => cpF_at _ _ hj) gs (fun j hj => rfl) (fun j hj hjk hg => ?_)
    · rw [hh, cpH_l]; omega
    · rw [hh, cpH_sl hN'.1 hD]; omega
    · rw [hh, cpH_x (by omega) (by omega) (by omega) (by omega) (by omega)]
    · rw [hh, cpH_x (by omega) (by omega) (by omega) (by omega) (by omega)]; exact c10
    · rw [hh, cpH_l]; omega
    · rw [hh]; exact cpH_S hN'.1 hD
    · exact k2 j k hj hk4 hjk hg (by rw [gs]; simp)
theorem bkS_i {k j : Nat} (h : j ≠ 23 ∧ j ≠ 24) : (bkS s k 40).1 j = s.1 j := by
  unfold bkS
  dsimp only
  rw [up_ne _ _ (by omega), up_ne _ _ (by omega)]
theorem bkS_I {k j : Nat} (h : j ≠ 21 ∧ j ≠ 22) : (bkS s k 40).2.2.1 j = s.2.2.1 j := by
  unfold bkS
  dsimp only
  rw [up_ne _ _ (by omega), up_ne _ _ (by omega)]
theorem bkS_J {k j : Nat} (h : j ≠ 19 ∧ j ≠ 20) : (bkS s k 40).2.2.2 j = s.2.2.2 j := by
  unfold bkS
  dsimp only
  rw [up_ne _ _ (by omega), up_ne _ _ (by omega)]
theorem bkS_v {k : Nat} : (bkS s k 40).1 23 = s.2.2.1 27 k ∧ (bkS s k 40).1 24 = s.2.2.1 28 k ∧ (bkS s k 40).2.2.1 21 = bkF (s.2.2.1 21) (s.2.2.1 26) (80 * k) 40 ∧ (bkS s k 40).2.2.1 22 = bkF (s.2.2.1 22) (s.2.2.1 26) (80 * k + 40) 40 ∧ (bkS s k 40).2.2.2 19 = bkF (s.2.2.2 19) (s.2.2.2 25) (80 * k) 40 ∧ (bkS s k 40).2.2.2 20 = bkF (s.2.2.2 20) (s.2.2.2 25) (80 * k + 40) 40 := by
  refine ⟨?_, ?_, ?_, ?_, ?_, ?_⟩ <;> simp [bkS, va_up]
theorem bkF_at {α : Type} {f a : Nat → α} {b j : Nat} (h : j < 40) : bkF f a b 40 j = a (b + j) := if_pos h
theorem S_back {k : Int} (hd : 1500 ≤ d) (hk : -2147483648 ≤ k ∧ k ≤ 2147483647) (hI : INV (r + 1) h) : ∃ z : Int, STEP xt d 190 313 [ii k] r h (ii z) := by
  have hI0 := hI
  obtain ⟨A, pre, post, s, fd, W, qr, qp, pr, pp, pm, n, m, le, lp, lw, bf, pf, v, w, g, vf, of, kf, jf, ⟨e, hm⟩, hfd, hC, ⟨⟨b1, b2, b3, b4, b5⟩, b6, b7, ⟨b8, b9⟩, b10⟩, hV, hN, hK, hR1, hR2, hR3, hR4, hR5⟩ := hI
  have hC0 := hC
  obtain ⟨c1, hM, ⟨mk, ln, le_, gd, sf, pf', df, ⟨t1, t2, t3, t4, t5, t6, t7⟩, c3⟩, c4, c5, c6, ⟨c7, c8, c9⟩, c10⟩ := hC
  have m1 := hM.1
  by_cases hno : k < 0 ∨ 4 ≤ k
  · refine ⟨0, S_pureV hI0 (x_imp (a_backN (by omega) c1 c10 hk hno) (fun y h1 q => ⟨_, q.1, rfl, q.2⟩)) ?_⟩
    have := r_backN (xt := xt) (d := d) (post := post) (s := s) hm (by omega) hk (by omega)
    rw [← e] at this
    exact this
  obtain ⟨k, rfl⟩ : ∃ k' : Nat, k = (k' : Int) := ⟨k.toNat, by omega⟩
  have hk4 : k < 4 := by omega
  have hK0 := hK
  obtain ⟨ob, k1, k2⟩ := hK
  rcases k1 k hk4 with ⟨gn, g0⟩ | ⟨gs, g1, ⟨o1, o2⟩, o3, n', m', kf', jf', vf', of', hN'⟩
  · refine ⟨0, S_pureV hI0 (x_imp (a_backF (by omega) c1 c10 hk4 gn) (fun y h1 q => ⟨_, q.1, rfl, q.2⟩)) ?_⟩
    have := r_backF (xt := xt) (d := d) (post := post) (s := s) hm (by omega) hk4 g0
    rw [← e] at this
    exact this
  refine ⟨1, pgV_mono (a_backY (by omega) c1 c10 hk4 gs hN'.1 hN.1 (by omega) (ENA_T hN'.2.2.2.2.1) (ENA_T hN'.2.2.2.2.2)) (fun y h1 q => ?_)⟩
  obtain ⟨hy, hh⟩ := q
  have hD : NDis 4 5 6 7 8 := by unfold NDis; decide
  have hl : h1.length = h.length := by rw [hh, cpH_l]
  have hsl : mj_sl h1 = mj_sl h := by rw [hh, cpH_sl hN.1 hD]
  have hx : ∀ x, ¬ (4 ≤ x ∧ x ≤ 8) → h1[x]? = h[x]? := fun x z => by rw [hh, cpH_x (by omega) (by omega) (by omega) (by omega) (by omega)]
  have hS : NS h1 4 5 6 7 8 n' (cpF kf kf' 40) (cpF vf vf' 40) m' (cpF jf jf' 40) (cpF of of' 40) := by rw [hh]; exact cpH_S hN.1 hD
  have hkp : kpA A h A h1 := kp_lo hM.2.1 (fun x _ q => hx x (by omega))
  obtain ⟨pre1, post1, p1, p2, P⟩ := BAS (h1 := h1) e hm hM (by omega) (fun x _ q => hx x (by omega)) hkp (okA_len hM.2.1 (by omega))
  refine ⟨hy, ?_, by rw [p2]; exact rS_102 p1⟩
  rw [p2]
  refine pgV_mono (r_back_ p1 (by omega) hk4 g1) (fun y2 h2 q2 => ?_)
  obtain ⟨hy2, hh2⟩ := q2
  refine ⟨hy2, ?_⟩
  rw [hh2]
  obtain ⟨l, sl, f, k3, hM2⟩ := P (bkS s k 40)
  have ry : RY s (bkS s k 40) := ⟨bkS_i (by omega), bkS_i (by omega), bkS_i (by omega), bkS_i (by omega), bkS_I (by omega), bkS_I (by omega), bkS_J (by omega), fun j q1 q2 => bkS_I (by omega), bkS_J (by omega)⟩
  have f2x : ∀ x, ¬ (4 ≤ x ∧ x ≤ 8) → x < 102 ∨ 127 ≤ x → (rS pre1 post1 (bkS s k 40))[x]? = h[x]? := fun x q2 q4 => (f x q4).trans (hx x q2)
  obtain ⟨v23, v24, v21, v22, v19, v20⟩ := bkS_v (s := s) (k := k)
  have e3 := bkS_i (s := s) (k := k) (j := 3) (by omega)
  have e4 := bkS_i (s := s) (k := k) (j := 4) (by omega)
  have e50 := bkS_i (s := s) (k := k) (j := 50) (by omega)
  refine ⟨A, pre1, post1, bkS s k 40, fd, W, qr, qp, pr, pp, pm, n', m', le, lp, lw, bf, pf, v, w, g, cpF vf vf' 40, cpF of of' 40, cpF kf kf' 40, cpF jf jf' 40, ⟨rfl, p1⟩, hfd, ICL_e hM2 (fun x q1 q2 => f2x x q2 (by omega)) hC0, ⟨⟨(bkS_i (by omega)).trans b1, (bkS_i (by omega)).trans b2, (bkS_i (by omega)).trans b3, (bkS_i (by omega)).trans b4, (bkS_i (by omega)).trans b5⟩, by rw [bkS_I (by omega)]; exact b6, by rw [bkS_I (by omega)]; exact b7, ⟨(bkS_i (by omega)).trans b8, b9⟩, by rw [bkS_I (by omega)]; exact b10⟩, IVL_k hV k3 (RY_XX ry).1 (RY_v ry hV.2.2.2.2) (bkS_i (by omega)) (bkS_i (by omega)), NMT_k2 hN' k3 (RY_XX ry) (NS_e hS (f _ (by omega)) (f _ (by omega)) (f _ (by omega)) (f _ (by omega)) (f _ (by omega))) v23 v24 (fun j hj => by rw [v19, bkF_at hj]) (fun j hj => by rw [v20, bkF_at hj]) (fun j hj => by rw [v21, bkF_at hj]) (fun j hj => by rw [v22, bkF_at hj]) (fun j hj => cpF_at _ _ hj) (fun j hj => cpF_at _ _ hj) (fun j hj => cpF_at _ _ hj) (fun j hj => cpF_at _ _ hj), KEP_k (by omega) (fun x q1 q2 => f2x x (by omega) (by omega)) k3 (fun a ha => Or.inl ha) (RY_XX ry) (bkS_J (by omega)) (bkS_I (by omega)) (bkS_I (by omega)) (bkS_I (by omega)) (bkS_I (by omega)) hK0, by omega, by omega, by omega, by omega, by omega⟩
end sts
