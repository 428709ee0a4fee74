/-! feed, point, print, keep, back -/
theorem fdS_i {s : RS} {f k : Nat} {a : Int} (h : k ≠ 33) : (fdS s f a).1 k = s.1 k := by
  show va_up s.1 33 ((f + 4 : Nat) : Int) k = _
  rw [up_ne _ _ h]
theorem fdS_I {s : RS} {f k : Nat} {a : Int} (h : k ≠ 32) : (fdS s f a).2.2.1 k = s.2.2.1 k := by
  show va_up s.2.2.1 32 (g4 (s.2.2.1 32) f a) k = _
  rw [up_ne _ _ h]
theorem fdS_32 {s : RS} {f : Nat} {a : Int} : (fdS s f a).2.2.1 32 = g4 (s.2.2.1 32) f a := by
  show va_up s.2.2.1 32 (g4 (s.2.2.1 32) f a) 32 = _
  rw [up_eq]
section sts
variable {xt : mj_X} {d r : Nat} {h h1 h' pre post : mj_H} {s t : RS} {A A' : Nat → Prop}
/-- only fields and arrays that tell no values, names or nodes have changed -/
def RY (s t : RS) : Prop := t.1 3 = s.1 3 ∧ t.1 4 = s.1 4 ∧ t.1 50 = s.1 50 ∧ t.1 30 = s.1 30 ∧ t.2.2.1 1 = s.2.2.1 1 ∧ t.2.2.1 2 = s.2.2.1 2 ∧ t.2.2.2 0 = s.2.2.2 0 ∧ (∀ k, 43 ≤ k → k ≤ 48 → t.2.2.1 k = s.2.2.1 k) ∧ t.2.2.2 49 = s.2.2.2 49
theorem RY_XX (h : RY s t) : RXX s t := RXX_f h.1 h.2.1 h.2.2.1 h.2.2.2.2.1 h.2.2.2.2.2.1 h.2.2.2.2.2.2.1 h.2.2.2.2.2.2.2.1 h.2.2.2.2.2.2.2.2
theorem RY_v (h : RY s t) {d q : Nat} {v : VV} (hv : rv s d q v) : rv t d q v := rv_f h.1 h.2.1 h.2.2.2.2.1 h.2.2.2.2.2.1 h.2.2.2.2.2.2.1 hv
theorem S_feed {a1 a2 a3 a4 a5 : Int} (hd : 1500 ≤ d) (r1 : -2147483648 ≤ a1 ∧ a1 ≤ 2147483647) (r2 : -2147483648 ≤ a2 ∧ a2 ≤ 2147483647) (r3 : -2147483648 ≤ a3 ∧ a3 ≤ 2147483647) (r4 : -2147483648 ≤ a4 ∧ a4 ≤ 2147483647) (r5 : -2147483648 ≤ a5 ∧ a5 ≤ 2147483647) (hI : INV (r + 1) h) : ∃ z : Int, STEP xt d 13 200 [ii a1, ii a2, ii a3, ii a4, ii a5] r h (ii z) := by
  have hI0 := hI
  obtain ⟨A, pre, post, s, fd, W, qr, qp, pr, pp, pm, n, m, le, lp, lw, bf, pf, v, w, g, vf, of, kf, jf, ⟨e, hm⟩, ⟨f1, f2, f3⟩, hC, ⟨⟨b1, b2, b3, b4, b5⟩, b6, b7, ⟨b8, b9⟩, b10⟩, hV, hN, hK, hR1, hR2, hR3, hR4, hR5⟩ := hI
  have hC0 := hC
  obtain ⟨c1, hM, ⟨mk, ln, le_, gd, sf, pf', df, ⟨t1, t2, t3, t4, t5, t6, t7⟩, c3⟩, c4, c5, c6, ⟨c7, c8, c9⟩, c10⟩ := hC
  by_cases hf : fd + 20 ≤ 200
  · refine ⟨((fd + 20 : Nat) : Int), pgV_mono (a_feed (a := a1) (b := a2) (c := a3) (e := a4) (g := a5) (by omega) c1 t5 hf) (fun y h1 q => ?_)⟩
    obtain ⟨hy, hh⟩ := q
    have hl : h1.length = h.length := by rw [hh, List.length_set, List.length_set]
    have hsl : mj_sl h1 = mj_sl h := by rw [hh]; exact Eq.trans (sl_set (hl_ne (by decide) c1) rfl) (sl_set t5 rfl)
    have hx : ∀ x, x ≠ 2 → x ≠ 3 → h1[x]? = h[x]? := fun x q1 q2 => by rw [hh, List.getElem?_set_ne (by omega), List.getElem?_set_ne (by omega)]
    have g2 : h1[2]? = some (acC ((fd + 20 : Nat) : Int) qr qp le lp lw) := by rw [hh]; exact hl_set (by rw [List.length_set]; exact hl_lt c1)
    have g3 : h1[3]? = some (cI 200 (f4 (f4 (f4 (f4 (f4 bf fd a1) (fd + 4) a2) (fd + 8) a3) (fd + 12) a4) (fd + 16) a5)) := by rw [hh]; exact hl_ne (by decide) (hl_set (hl_lt t5))
    have hkp : kpA A h A h1 := kp_lo hM.2.1 (fun x _ q => hx x (by omega) (by omega))
    obtain ⟨pre1, post1, p1, p2, P⟩ := BAS (h1 := h1) e hm hM (by omega) (fun x _ q => hx x (by omega) (by omega)) hkp (okA_len hM.2.1 (by omega))
    refine ⟨hy, ?_, by rw [p2]; exact rS_102 p1⟩
    obtain ⟨l, sl, f, k3, hM2⟩ := P (fdS (fdS (fdS (fdS (fdS s fd a1) (fd + 4) a2) (fd + 8) a3) (fd + 12) a4) (fd + 16) a5)
    rw [p2]
    refine pgV_mono (r_feed_ p1 (by omega) b1 hf r1 r2 r3 r4 r5) (fun y2 h2 q2 => ?_)
    obtain ⟨hy2, hh2⟩ := q2
    refine ⟨hy2, ?_⟩
    rw [hh2]
    obtain ⟨t, ht⟩ : ∃ t, t = fdS (fdS (fdS (fdS (fdS s fd a1) (fd + 4) a2) (fd + 8) a3) (fd + 12) a4) (fd + 16) a5 := ⟨_, rfl⟩
    have ti : ∀ k, k ≠ 33 → t.1 k = s.1 k := fun k hk => by rw [ht, fdS_i hk, fdS_i hk, fdS_i hk, fdS_i hk, fdS_i hk]
    have tI : ∀ k, k ≠ 32 → t.2.2.1 k = s.2.2.1 k := fun k hk => by rw [ht, fdS_I hk, fdS_I hk, fdS_I hk, fdS_I hk, fdS_I hk]
    have tJ : t.2.2.2 = s.2.2.2 := by rw [ht]; rfl
    have t33 : t.1 33 = ((fd + 20 : Nat) : Int) := by rw [ht, fdS_33]
    have t32 : t.2.2.1 32 = g4 (g4 (g4 (g4 (g4 (s.2.2.1 32) fd a1) (fd + 4) a2) (fd + 8) a3) (fd + 12) a4) (fd + 16) a5 := by rw [ht, fdS_32, fdS_32, fdS_32, fdS_32, fdS_32]
    rw [← ht] at l sl f k3 hM2 ⊢
    have ry : RY s t := ⟨ti 3 (by decide), ti 4 (by decide), ti 50 (by decide), ti 30 (by decide), tI 1 (by decide), tI 2 (by decide), by rw [tJ], fun k q1 q2 => tI k (by omega), by rw [tJ]⟩
    have f2x : ∀ x, x ≠ 2 → x ≠ 3 → x < 102 ∨ 127 ≤ x → (rS pre1 post1 t)[x]? = h[x]? := fun x q1 q2 q3 => (f x q3).trans (hx x q1 q2)
    have e3 := ti 3 (by decide)
    have e4 := ti 4 (by decide)
    have e50 := ti 50 (by decide)
    refine ⟨A, pre1, post1, t, fd + 20, W, qr, qp, pr, pp, pm, n, m, le, lp, lw, _, pf, v, w, g, vf, of, kf, jf, ⟨rfl, p1⟩, ⟨by omega, by omega, f3⟩, ICL_n hC0 hM2 (fun x q1 q2 q3 => f2x x (by omega) (by omega) (by omega)) ((f 2 (by omega)).trans g2) ((f 3 (by omega)).trans g3) ((f2x 15 (by decide) (by decide) (by omega)).trans c10) ((f2x 98 (by decide) (by decide) (by omega)).trans c7) (by rw [f2x 99 (by decide) (by decide) (by omega)]; exact c8) ((f2x 100 (by decide) (by decide) (by omega)).trans c9), ⟨⟨t33, (ti 8 (by decide)).trans b2, (ti 5 (by decide)).trans b3, (ti 6 (by decide)).trans b4, (ti 7 (by decide)).trans b5⟩, ?_, ?_, ⟨(ti 18 (by decide)).trans b8, b9⟩, by rw [tI 16 (by decide)]; exact b10⟩, IVL_k hV k3 (RY_XX ry).1 (RY_v ry hV.2.2.2.2) (ti 30 (by decide)) (ti 31 (by decide)), NMT_k hN k3 (RY_XX ry) (NS_e hN.1 (f2x 4 (by decide) (by decide) (by omega)) (f2x 5 (by decide) (by decide) (by omega)) (f2x 6 (by decide) (by decide) (by omega)) (f2x 7 (by decide) (by decide) (by omega)) (f2x 8 (by decide) (by decide) (by omega))) (ti 23 (by decide)) (ti 24 (by decide)) (by rw [tJ]) (by rw [tJ]) (tI 21 (by decide)) (tI 22 (by decide)), KEP_k (by omega) (fun x q1 q2 => f2x x (by omega) (by omega) (by omega)) k3 (fun a ha => Or.inl ha) (RY_XX ry) (by rw [tJ]) (tI 26 (by decide)) (tI 27 (by decide)) (tI 28 (by decide)) (tI 29 (by decide)) hK, by omega, by omega, by omega, by omega, by omega⟩
    · rw [t32]
      exact g4_r (g4_r (g4_r (g4_r (g4_r b6))))
    · rw [t32]
      exact g4_f4 (g4_f4 (g4_f4 (g4_f4 (g4_f4 b7))))
  · refine ⟨-1, S_pureV hI0 (a_feedN (by omega) c1 t5 (by omega) f1) ?_⟩
    have := r_feedN_ (xt := xt) (d := d) (post := post) (a := a1) (b := a2) (c := a3) (e := a4) (g := a5) hm (by omega) b1 (show 200 < fd + 20 by omega) f1
    rw [← e] at this
    exact this
theorem S_point {what k : Int} {f1 : Nat → Value} (hx1 : xt 1 = some (.long, 0, f1)) (hd : 1500 ≤ d) (hw : -2147483648 ≤ what ∧ what ≤ 2147483647) (hk : -2147483648 ≤ k ∧ k ≤ 2147483647) (hI : INV (r + 1) h) : ∃ z : Int, STEP xt d 182 306 [ii what, ii k] r h (ii z) := by
  have hI0 := hI
  obtain ⟨A, pre, post, s, fd, W, qr, qp, pr, pp, pm, n, m, le, lp, lw, bf, pf, v, w, g, vf, of, kf, jf, ⟨e, hm⟩, hfd, hC, ⟨⟨b1, b2, b3, b4, b5⟩, b6, b7, ⟨b8, b9⟩, b10⟩, hV, hN, hK, hR⟩ := hI
  have hRB := rB_R hR
  obtain ⟨hR1, hR2, hR3, hR4, hR5⟩ := hR
  have hC0 := hC
  obtain ⟨c1, hM, ⟨mk, ln, le_, gd, sf, pf', df, ⟨t1, t2, t3, t4, t5, t6, t7⟩, c3⟩, c4, c5, c6, ⟨c7, c8, c9⟩, c10⟩ := hC
  obtain ⟨⟨v1, v2⟩, v3, v4, v5, v6⟩ := hV
  -- the new value: at qn in the class, at pn in the reference
  have go : ∀ (h0 : mj_H) (A0 : Nat → Prop) (qn : Nat) (u : VV), h0.length ≤ h.length + 1 → h.length ≤ h0.length → mj_sl h0 ≤ mj_sl h + 9 → (∀ x, x < h.length → h0[x]? = h[x]?) → (∀ a, A0 a → A a ∨ h.length ≤ a) → okA A0 h0 → kpA A h A0 h0 → cv A0 h0 7 qn u → (∀ p q : mj_H, p.length = 102 → pgV xt d 306 [.ref 102, ii what, ii k] (rS p q s) (fun y h2 => y = ii 1 ∧ ∃ (pn : Nat) (s1 : RS), h2 = rS p q (fiS s1 31 (pn : Int)) ∧ rv s1 7 pn u ∧ vwS s 2 s1)) → ∀ h1, h1 = h0.set 2 (acC (fd : Int) qr qn le lp lw) → pgV xt d 306 [.ref 102, ii what, ii k] h1 (fun y2 h2 => y2 = ii 1 ∧ INV r h2) ∧ ∃ c, h1[102]? = some (cO 12 c) := by
    intro h0 A0 qn u l1 l2 l3 x0 a0 ok0 k0 cv0 href h1 hh
    have m1 := hM.1
    have g20 : h0[2]? = some (acC (fd : Int) qr qp le lp lw) := (x0 2 (by omega)).trans c1
    have hl : h1.length = h0.length := by rw [hh, List.length_set]
    have hsl : mj_sl h1 = mj_sl h0 := by rw [hh]; exact sl_set g20 rfl
    have hx : ∀ x, x ≠ 2 → h1[x]? = h0[x]? := fun x q1 => by rw [hh, List.getElem?_set_ne (by omega)]
    have g2 : h1[2]? = some (acC (fd : Int) qr qn le lp lw) := by rw [hh]; exact hl_set (hl_lt g20)
    have k1 : kpA A0 h0 A0 h1 := kp_lo ok0 (fun x _ q => hx x (by omega))
    obtain ⟨pre1, post1, p1, p2, P⟩ := BAS (h1 := h1) (A' := A0) e hm hM (by omega) (fun x q1 q => (hx x (by omega)).trans (x0 x q1)) (kpA_tr k0 k1) (okA_len ok0 (by omega))
    refine ⟨?_, by rw [p2]; exact rS_102 p1⟩
    rw [p2]
    refine pgV_mono (href pre1 post1 p1) (fun y2 h2 q2 => ?_)
    obtain ⟨hy2, pn, s1, hh2, hrv, ⟨w1, w2, w3, w4, w5⟩⟩ := q2
    refine ⟨hy2, ?_⟩
    rw [hh2]
    obtain ⟨t, ht⟩ : ∃ t, t = fiS s1 31 (pn : Int) := ⟨_, rfl⟩
    have ti : ∀ k, k ≠ 31 → t.1 k = s.1 k := fun k hk => by rw [ht, fi_k hk, w1]
    have t31 : t.1 31 = (pn : Int) := by rw [ht]; exact fi_at
    have tA : t.2.2 = s1.2.2 := by rw [ht]; rfl
    have tI : ∀ k, k ≠ 1 → k ≠ 2 → t.2.2.1 k = s.2.2.1 k := fun k q1 q2 => by rw [tA]; exact w4 k q1 q2
    have tJ : t.2.2.2 = s.2.2.2 := by rw [tA]; exact w3
    obtain ⟨l, sl, f, k3, hM2⟩ := P t
    rw [← ht]
    have e3 := ti 3 (by decide)
    have e4 := ti 4 (by decide)
    have e50 := ti 50 (by decide)
    have rx : RXX s t := ⟨⟨by omega, by omega, fun q q3 _ => by rw [tA]; exact w5 q (by omega), fun q _ => by rw [tJ]⟩, by omega, fun k x q1 q2 _ => by rw [tI k (by omega) (by omega)], fun x _ => by rw [tJ]⟩
    have f2x : ∀ x, x ≠ 2 → x < h.length → x < 102 ∨ 127 ≤ x → (rS pre1 post1 t)[x]? = h[x]? := fun x q1 q2 q3 => ((f x q3).trans (hx x q1)).trans (x0 x q2)
    refine ⟨A0, pre1, post1, t, fd, W, qr, qn, pr, pn, pm, n, m, le, lp, lw, bf, pf, v, u, g, vf, of, kf, jf, ⟨rfl, p1⟩, hfd, ICL_n hC0 hM2 (fun x q1 q2 q3 => f2x x (by omega) (by omega) (by omega)) ((f 2 (by omega)).trans g2) ((f2x 3 (by decide) (by omega) (by omega)).trans t5) ((f2x 15 (by decide) (by omega) (by omega)).trans c10) ((f2x 98 (by decide) (by omega) (by omega)).trans c7) (by rw [f2x 99 (by decide) (by omega) (by omega)]; exact c8) ((f2x 100 (by decide) (by omega) (by omega)).trans c9), ⟨⟨(ti 33 (by decide)).trans b1, (ti 8 (by decide)).trans b2, (ti 5 (by decide)).trans b3, (ti 6 (by decide)).trans b4, (ti 7 (by decide)).trans b5⟩, by rw [tI 32 (by decide) (by decide)]; exact b6, by rw [tI 32 (by decide) (by decide)]; exact b7, ⟨(ti 18 (by decide)).trans b8, b9⟩, by rw [tI 16 (by decide) (by decide)]; exact b10⟩, ⟨⟨(ti 30 (by decide)).trans v1, t31⟩, gv_k k3 v3, gr_x rx.1 v4, ?_, ?_⟩, NMT_k hN k3 rx (NS_e hN.1 (f2x 4 (by decide) (by omega) (by omega)) (f2x 5 (by decide) (by omega) (by omega)) (f2x 6 (by decide) (by omega) (by omega)) (f2x 7 (by decide) (by omega) (by omega)) (f2x 8 (by decide) (by omega) (by omega))) (ti 23 (by decide)) (ti 24 (by decide)) (by rw [tJ]) (by rw [tJ]) (tI 21 (by decide) (by decide)) (tI 22 (by decide) (by decide)), KEP_k (by omega) (fun x q1 q2 => f2x x (by omega) q2 (by omega)) k3 a0 rx (by rw [tJ]) (tI 26 (by decide) (by decide)) (tI 27 (by decide) (by decide)) (tI 28 (by decide) (by decide)) (tI 29 (by decide) (by decide)) hK, by omega, by omega, by omega, by omega, by omega⟩
    · refine cv_keep (A := A0) (h := h1) (fun a e' ha hg => ⟨ha, ?_⟩) (cv_keep k1 cv0)
      rw [f a (by have := ok0 a ha; omega)]
      exact hg
    · exact rv_f (s := s1) (by rw [ht]; exact fi_k (by decide)) (by rw [ht]; exact fi_k (by decide)) (by rw [tA]) (by rw [tA]) (by rw [tA]) hrv
  have same : ∀ (qn : Nat) (u : VV), cv A h 7 qn u → (∀ p q : mj_H, p.length = 102 → pgV xt d 306 [.ref 102, ii what, ii k] (rS p q s) (fun y h2 => y = ii 1 ∧ ∃ (pn : Nat) (s1 : RS), h2 = rS p q (fiS s1 31 (pn : Int)) ∧ rv s1 7 pn u ∧ vwS s 2 s1)) → pgV xt d 182 [.ref 2, ii what, ii k] h (fun y h1 => y = ii 1 ∧ h1 = h.set 2 (acC (fd : Int) qr qn le lp lw)) → ∃ z : Int, STEP xt d 182 306 [ii what, ii k] r h (ii z) := fun qn u hcv href hcls => ⟨1, pgV_mono hcls (fun y h1 q => ⟨q.1, go h A qn u (by omega) (Nat.le_refl _) (by omega) (fun _ _ => rfl) (fun _ ha => Or.inl ha) hM.2.1 (kpA_rf A h) hcv href h1 q.2⟩)⟩
  have vw0 : vwS s 2 s := ⟨rfl, rfl, rfl, fun _ _ _ => rfl, fun _ _ => ⟨rfl, rfl⟩⟩
  by_cases h0 : what = 0
  · refine same qr v v3.1 (fun p q hp => pgV_mono (r_pt0 hp (by omega) hw hk h0) (fun y h2 z => ⟨z.1, pr, s, ?_, v4.2.1, vw0⟩)) (a_pt0 (by omega) c1 hw hk h0)
    rw [z.2, v1]
  by_cases h1' : what = 1
  · by_cases hj : k < 0 ∨ (n : Int) ≤ k
    · refine ⟨0, S_pureV hI0 (a_pt1N (by omega) c1 hw hk (NMT_S hN) h1' hj) ?_⟩
      have n7 := hN.2.1
      have := r_pt1N (xt := xt) (d := d) (post := post) (s := s) hm (by omega) hw hk h1' (by omega) (by omega)
      rw [← e] at this
      exact this
    · obtain ⟨j, rfl⟩ : ∃ j : Nat, k = (j : Int) := ⟨k.toNat, by omega⟩
      have n7 := hN.2.1
      obtain ⟨_, _, q, p, _, _, _, z4, z5, u, z6, z7⟩ := hN.2.2.1 j (by omega)
      refine same q u z6.1 (fun p' q' hp => pgV_mono (r_pt1Y hp (by omega) hw h1' (by omega) (by omega)) (fun y h2 z => ⟨z.1, p, s, ?_, z7.2.1, vw0⟩)) (a_pt1Y (by omega) c1 hw (NMT_S hN) h1' (by omega) z4)
      rw [z.2, z5]
  by_cases h2' : what = 2 ∧ 6 ≤ vk w ∧ 0 ≤ k ∧ k < (vm w : Int)
  · obtain ⟨i1, i2, i3, i4⟩ := h2'
    obtain ⟨j, rfl⟩ : ∃ j : Nat, k = (j : Int) := ⟨k.toNat, by omega⟩
    have href : ∀ p q : mj_H, p.length = 102 → pgV xt d 306 [.ref 102, ii what, ii (j : Int)] (rS p q s) (fun y h2 => y = ii 1 ∧ ∃ (pn : Nat) (s1 : RS), h2 = rS p q (fiS s1 31 (pn : Int)) ∧ rv s1 7 pn (vit w j) ∧ vwS s 2 s1) := fun p q hp => pgV_mono (r_pt2Y hp (by omega) hw i1 hRB v2 v6 i2 (by omega)) (fun y h2 z => by
      obtain ⟨z1, pn, s1, z2, z3, z4, -⟩ := z
      exact ⟨z1, pn, s1, z2, z3, z4⟩)
    have hc := a_pt2Y (xt := xt) (d := d) (by omega) c1 hw v5 hx1 hM.1 i1 i2 (show j < vm w by omega)
    -- the class makes a value, and then the reference goes on
    refine ⟨1, pgV_mono hc (fun y h1 q => ?_)⟩
    obtain ⟨hy, p1, h0, ⟨q', X, eq', eh, lX, sX, hcv⟩, hh⟩ := q
    have eq'' : p1 = q' := by injection eq'
    subst eq''
    have l0 : h0.length = h.length + X.length := by rw [eh, List.length_append]
    have s0 : mj_sl h0 = mj_sl h + mj_sl X := by rw [eh, sl_app]
    have x0 : ∀ x, x < h.length → h0[x]? = h[x]? := fun x hx => by rw [eh, List.getElem?_append_left hx]
    have k0 : kpA A h (newA A h h0) h0 := fun a e' ha hg => ⟨Or.inl ha, by rw [x0 a (hM.2.1 a ha).1]; exact hg⟩
    exact ⟨hy, go h0 (newA A h h0) p1 (vit w j) (by omega) (by omega) (by omega) x0 (fun a ha => ha.elim Or.inl (fun y => Or.inr y.1)) (okA_new hM.2.1 hM.1 (by omega)) k0 hcv href h1 hh⟩
  · refine ⟨0, S_pureV hI0 (a_ptN (by omega) c1 hw hk v5 ⟨h0, h1'⟩ (by omega)) ?_⟩
    have := r_ptN (xt := xt) (d := d) (post := post) (s := s) hm (by omega) hw hk ⟨h0, h1'⟩ hRB v2 v6 (by omega)
    rw [← e] at this
    exact this
end sts
