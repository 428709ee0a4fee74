/-! calls other than line -/
section sts
variable {xt : mj_X} {d r : Nat} {h h1 h' pre post : mj_H} {s t : RS} {A A' : Nat → Prop}
theorem BAS (e : h = rS pre post s) (hm : pre.length = 102) (hM : MH A h) (hl : h.length ≤ h1.length) (hx : ∀ x, x < h.length → (17 ≤ x ∧ x ≤ 97) ∨ (101 ≤ x ∧ x < 127) → h1[x]? = h[x]?) (hk : kpA A h A' h1) (hA : okA A' h1) : ∃ pre1 post1, pre1.length = 102 ∧ h1 = rS pre1 post1 s ∧ ∀ t : RS, (rS pre1 post1 t).length = h1.length ∧ mj_sl (rS pre1 post1 t) = mj_sl h1 ∧ (∀ x, x < 102 ∨ 127 ≤ x → (rS pre1 post1 t)[x]? = h1[x]?) ∧ kpA A h A' (rS pre1 post1 t) ∧ MH A' (rS pre1 post1 t) := by
  have hl127 := hM.1
  obtain ⟨pre1, post1, p1, p2⟩ := rS_split (s := s) hm (show 127 ≤ h1.length by omega) (fun x q1 q2 => (hx x (by omega) (by omega)).trans (by rw [e]))
  refine ⟨pre1, post1, p1, p2, fun t => ?_⟩
  have f : ∀ x, x < 102 ∨ 127 ≤ x → (rS pre1 post1 t)[x]? = h1[x]? := fun x z => by rw [p2]; exact rS_fr p1 z
  have l : (rS pre1 post1 t).length = h1.length := by rw [p2, rS_len, rS_len]
  have k2 : kpA A' h1 A' (rS pre1 post1 t) := fun a e' ha hg => ⟨ha, by rw [f a (by have := hA a ha; omega)]; exact hg⟩
  have k3 := kpA_tr hk k2
  refine ⟨l, by rw [p2]; exact rS_sl, f, k3, ?_⟩
  exact MH_e (by omega) (fun x z => (f x (by omega)).trans (hx x (by omega) (by omega))) k3 (okA_len hA (by omega)) hM
theorem kp_lo (hA : okA A h) (hx : ∀ x, x < h.length → (x = 25 ∨ x = 101 ∨ 127 ≤ x) → h1[x]? = h[x]?) : kpA A h A h1 := fun a _ ha hg => ⟨ha, (hx a (hA a ha).1 (hA a ha).2).trans hg⟩
theorem ICL_n {fd W qr qp pm fd' qr' qp' pm' : Nat} {le lp lw le' lp' lw' : Int} {bf pf bf' pf' : Nat → Int} {g g' : Nat → Option Nat} (hC : ICL A h fd W qr qp le lp lw bf pm pf g) (hM : MH A' h') (hx : ∀ x, 9 ≤ x → x < 98 → x ≠ 15 → h'[x]? = h[x]?) (c2 : h'[2]? = some (acC (fd' : Int) qr' qp' le' lp' lw')) (c3 : h'[3]? = some (cI 200 bf')) (c15 : h'[15]? = some (cA 6 4 g')) (c98 : h'[98]? = some (cO 6 [.ref 100, .ref 99, ii (pm' : Int)])) (c99 : ∃ dg, h'[99]? = some (cB 20 dg)) (c100 : h'[100]? = some (cB 400 pf')) : ICL A' h' fd' W qr' qp' le' lp' lw' bf' pm' pf' g' := by
  obtain ⟨-, -, ⟨mk, ln, le_, gd, sf, pf', df, ⟨t1, t2, t3, t4, t5, t6, t7⟩, c3'⟩, c4, c5, c6, -, -⟩ := hC
  exact ⟨c2, hM, ⟨mk, ln, le_, gd, sf, pf', df, ⟨by rw [hx 9 (by omega) (by omega) (by omega)]; exact t1, by rw [hx 10 (by omega) (by omega) (by omega)]; exact t2, by rw [hx 11 (by omega) (by omega) (by omega)]; exact t3, by rw [hx 12 (by omega) (by omega) (by omega)]; exact t4, c3, t6, t7⟩, c3'⟩, by rw [hx 13 (by omega) (by omega) (by omega)]; exact c4, by rw [hx 16 (by omega) (by omega) (by omega)]; exact c5, by rw [hx 32 (by omega) (by omega) (by omega)]; exact c6, ⟨c98, c99, c100⟩, c15⟩
theorem IVL_k {qr qp pr pp : Nat} {v w : VV} (hV : IVL A h s qr qp pr pp v w) (hk : kpA A h A' h') (hx : rext s t) (hp : rv t 7 pp w) (e30 : t.1 30 = s.1 30) (e31 : t.1 31 = s.1 31) : IVL A' h' t qr qp pr pp v w := ⟨⟨e30.trans hV.1.1, e31.trans hV.1.2⟩, gv_k hk hV.2.1, gr_x hx hV.2.2.1, cv_keep hk hV.2.2.2.1, hp⟩
/-- a call that changes nothing -/
theorem S_pure {kc kr : Nat} {As : List Value} {z : Value} (hI : INV (r + 1) h) (hc : pgP xt d kc (.ref 2 :: As) h z) (hr : pgP xt d kr (.ref 102 :: As) h z) : STEP xt d kc kr As r h z := by
  refine x_imp hc (fun y h1 q => ?_)
  obtain ⟨e1, e2⟩ := q
  refine ⟨z, e1, rfl, ?_, ?_⟩
  · rw [e2]
    refine x_imp hr (fun y h1 q => ?_)
    obtain ⟨e1, e2⟩ := q
    exact ⟨z, e1, rfl, by rw [e2]; exact INV_dn hI⟩
  · rw [e2]
    obtain ⟨A, pre, post, s, fd, W, qr, qp, pr, pp, pm, n, m, le, lp, lw, bf, pf, v, w, g, vf, of, kf, jf, ⟨a1, a2⟩, -⟩ := hI
    rw [a1]
    exact rS_102 a2
/-- a call that changes nothing, on both sides told by pgV -/
theorem S_pureV {kc kr : Nat} {As : List Value} {z : Value} (hI : INV (r + 1) h) (hc : pgV xt d kc (.ref 2 :: As) h (fun y h1 => y = z ∧ h1 = h)) (hr : pgV xt d kr (.ref 102 :: As) h (fun y h1 => y = z ∧ h1 = h)) : STEP xt d kc kr As r h z := by
  refine S_pure hI (x_imp hc (fun y h1 q => ?_)) (x_imp hr (fun y h1 q => ?_))
  · obtain ⟨v, e1, e2, e3⟩ := q
    exact ⟨by rw [e1, e2], e3⟩
  · obtain ⟨v, e1, e2, e3⟩ := q
    exact ⟨by rw [e1, e2], e3⟩
theorem rB_R {fd W r : Nat} (h : ROOM h1 s fd W r) : rB s := ⟨h.2.2.2.1.1, by have := h.2.2.2.1.2; omega, h.2.2.1.1, by have := h.2.2.1.2; omega⟩
theorem S_told {what : Int} (hd : 1500 ≤ d) (hw : -2147483648 ≤ what ∧ what ≤ 2147483647) (hI : INV (r + 1) h) : ∃ z : Int, STEP xt d 181 305 [ii what] r h (ii z) := by
  have hI0 := hI
  obtain ⟨A, pre, post, s, fd, W, qr, qp, pr, pp, pm, n, m, le, lp, lw, bf, pf, v, w, g, vf, of, kf, jf, ⟨a1, a2⟩, -, ⟨c1, -, -, -, ⟨tp, dp, ca, ou, er, pl, lv, nw, vx, vy, dg, lf, rt, c5⟩, -⟩, ⟨⟨b1, b2, b3, b4, b5⟩, -⟩, -⟩ := hI
  refine ⟨toldF what le lp lw (W : Int), S_pure hI0 (a_told (by omega) c1 hw c5) ?_⟩
  have := r_told_ (xt := xt) (d := d) (post := post) (s := s) a2 (by omega) hw
  rw [b2, b3, b4, b5, ← a1] at this
  exact this
theorem S_kind (hd : 1500 ≤ d) (hI : INV (r + 1) h) : ∃ z : Int, STEP xt d 183 307 [] r h (ii z) := by
  have hI0 := hI
  obtain ⟨A, pre, post, s, fd, W, qr, qp, pr, pp, pm, n, m, le, lp, lw, bf, pf, v, w, g, vf, of, kf, jf, ⟨a1, a2⟩, -, ⟨c1, -⟩, -, ⟨⟨-, v2⟩, -, -, v5, v6⟩, -, -, hR⟩ := hI
  refine ⟨(vk w : Int), S_pure hI0 (a_kind (by omega) c1 v5) ?_⟩
  have := r_kind_ (xt := xt) (d := d) (post := post) a2 (by omega) (rB_R hR) v2 v6
  rw [← a1] at this
  exact this
theorem S_count {what : Int} (hd : 1500 ≤ d) (hw : -2147483648 ≤ what ∧ what ≤ 2147483647) (hI : INV (r + 1) h) : ∃ z : Int, STEP xt d 184 308 [ii what] r h (ii z) := by
  have hI0 := hI
  obtain ⟨A, pre, post, s, fd, W, qr, qp, pr, pp, pm, n, m, le, lp, lw, bf, pf, v, w, g, vf, of, kf, jf, ⟨a1, a2⟩, -, ⟨c1, -⟩, -, ⟨⟨-, v2⟩, -, -, v5, v6⟩, -, -, hR⟩ := hI
  refine ⟨cntF what 6 w, S_pure hI0 (a_count (by omega) c1 hw v5) ?_⟩
  have := r_count_ (xt := xt) (d := d) (post := post) a2 (by omega) (rB_R hR) v2 v6 hw
  rw [← a1] at this
  exact this
theorem S_item {k : Int} {f1 : Nat → Value} (hx1 : xt 1 = some (.long, 0, f1)) (hd : 1500 ≤ d) (hk : -2147483648 ≤ k ∧ k ≤ 2147483647) (hI : INV (r + 1) h) : ∃ z : Int64, STEP xt d 185 309 [ii k] r h (.long z) := by
  have hI0 := hI
  obtain ⟨A, pre, post, s, fd, W, qr, qp, pr, pp, pm, n, m, le, lp, lw, bf, pf, v, w, g, vf, of, kf, jf, ⟨a1, a2⟩, -, ⟨c1, -⟩, -, ⟨⟨-, v2⟩, -, -, v5, v6⟩, -, -, hR⟩ := hI
  refine ⟨itF w k, S_pure hI0 (a_item (by omega) c1 v5 hx1 hk) ?_⟩
  have := r_item_ (xt := xt) (d := d) (post := post) a2 (by omega) (rB_R hR) v2 v6 hk
  rw [← a1] at this
  exact this
theorem S_octet {k : Int} (hd : 1500 ≤ d) (hk : -2147483648 ≤ k ∧ k ≤ 2147483647) (hI : INV (r + 1) h) : ∃ z : Int, STEP xt d 187 311 [ii k] r h (ii z) := by
  have hI0 := hI
  obtain ⟨A, pre, post, s, fd, W, qr, qp, pr, pp, pm, n, m, le, lp, lw, bf, pf, v, w, g, vf, of, kf, jf, ⟨a1, a2⟩, -, ⟨c1, -, -, -, -, -, ⟨c7, c8, c9⟩, -⟩, ⟨-, -, -, ⟨b6, b7⟩, b8⟩, -⟩ := hI
  refine ⟨if 0 ≤ k ∧ k < (pm : Int) then pf k.toNat else -1, S_pure hI0 (a_octet (by omega) c1 hk c7 c9 b7) ?_⟩
  have := r_octet_ (xt := xt) (d := d) (post := post) a2 (by omega) hk b6 b7
  rw [← a1] at this
  by_cases z : 0 ≤ k ∧ k < (pm : Int)
  · rw [if_pos z, b8 k.toNat (by omega)] at this
    rw [if_pos z]
    exact this
  · rw [if_neg z] at this ⊢
    exact this
theorem S_names {what : Int} (hd : 1500 ≤ d) (hw : -2147483648 ≤ what ∧ what ≤ 2147483647) (hI : INV (r + 1) h) : ∃ z : Int, STEP xt d 191 314 [ii what] r h (ii z) := by
  have hI0 := hI
  obtain ⟨A, pre, post, s, fd, W, qr, qp, pr, pp, pm, n, m, le, lp, lw, bf, pf, v, w, g, vf, of, kf, jf, ⟨a1, a2⟩, -, ⟨c1, -⟩, -, -, hN, -⟩ := hI
  refine ⟨nmsF what n m, S_pure hI0 (a_names (by omega) c1 hw (NMT_S hN)) ?_⟩
  have := r_names_ (xt := xt) (d := d) (post := post) a2 (by omega) hw hN.2.1.2.1 hN.2.1.2.2
  rw [← a1] at this
  exact this
theorem S_letter {what i k : Int} (hd : 1500 ≤ d) (hw : -2147483648 ≤ what ∧ what ≤ 2147483647) (hi : -2147483648 ≤ i ∧ i ≤ 2147483647) (hk : -2147483648 ≤ k ∧ k ≤ 2147483647) (hI : INV (r + 1) h) : ∃ z : Int, STEP xt d 193 315 [ii what, ii i, ii k] r h (ii z) := by
  have hI0 := hI
  obtain ⟨A, pre, post, s, fd, W, qr, qp, pr, pp, pm, n, m, le, lp, lw, bf, pf, v, w, g, vf, of, kf, jf, ⟨a1, a2⟩, -, ⟨c1, -⟩, -, -, hN, -⟩ := hI
  obtain ⟨⟨n1, n2, n3, n4, n5⟩, ⟨n6, n7, n8⟩, n9, n10, -⟩ := hN
  have hkey := n_keyAt (xt := xt) (d := d - 1) hw hi (by omega) n1 n2 n3 n4 n5 (by decide) (by omega) (by omega)
  have cls : ∀ c : Int, 0 ≤ c → c ≤ 9223372036854775807 → (if 0 ≤ i ∧ ((what = 0 ∧ i < (n : Int)) ∨ (what = 1 ∧ i < (m : Int))) then (if what = 0 then kf i.toNat else jf i.toNat) else 0) = Int64.ofInt c → pgP xt d 193 [.ref 2, ii what, ii i, ii k] h (ii (ltC c k)) := fun c h0 h9 e => by
    rw [e] at hkey
    by_cases z : 0 ≤ k ∧ k < 8
    · obtain ⟨k', rfl⟩ : ∃ k' : Nat, k = (k' : Int) := ⟨k.toNat, by omega⟩
      exact a_letY (by omega) c1 n1 (by omega) h0 h9 hkey
    · exact a_letN (by omega) c1 n1 hk (by omega)
  have out : (what < 0 ∨ 1 < what ∨ i < 0 ∨ (what = 0 ∧ (n : Int) ≤ i) ∨ (what = 1 ∧ (m : Int) ≤ i)) → ∃ z : Int, STEP xt d 193 315 [ii what, ii i, ii k] r h (ii z) := fun ho => by
    refine ⟨-1, S_pure hI0 ?_ ?_⟩
    · have := cls 0 (by omega) (by omega) ((if_neg (by omega)).trans (by decide))
      rw [ltC_0] at this
      exact this
    · have := r_letN (xt := xt) (d := d) (post := post) (k := k) a2 (by omega) n7 n8 (by omega) (by omega) hk hw hi (by omega)
      rw [← a1] at this
      exact this
  by_cases ho : what < 0 ∨ 1 < what ∨ i < 0 ∨ (what = 0 ∧ (n : Int) ≤ i) ∨ (what = 1 ∧ (m : Int) ≤ i)
  · exact out ho
  obtain ⟨i', rfl⟩ : ∃ i' : Nat, i = (i' : Int) := ⟨i.toNat, by omega⟩
  have fin : ∀ (f : Nat → Int) (q ln : Nat), 1 ≤ ln → ln ≤ 8 → (∀ k, k < ln → isLtI (f (q + k))) → (if what = 0 then kf i' else jf i') = Int64.ofInt (ckI f q ln) → (what = 0 ∧ s.2.2.2 19 i' = Int64.ofInt (rkI f q ln) ∨ what = 1 ∧ s.2.2.2 20 i' = Int64.ofInt (rkI f q ln)) → ∃ z : Int, STEP xt d 193 315 [ii what, ii (i' : Int), ii k] r h (ii z) := fun f q ln l1 l8 lf ek er => by
    refine ⟨if 0 ≤ k ∧ k < (ln : Int) then f (q + k.toNat) else -1, S_pure hI0 ?_ ?_⟩
    · have hc := ck_r ln lf
      have p : ∀ k : Nat, k < 9 → (32 : Int) ^ k ≤ 1099511627776 := by decide +kernel
      have p2 := p ln (by omega)
      have := cls (ckI f q ln) hc.1 (by omega) (by rw [if_pos (by omega)]; exact ek)
      rw [ltC_v l1 l8 lf] at this
      exact this
    · by_cases hk0 : 0 ≤ k
      · rcases er with ⟨w0, e0⟩ | ⟨w0, e0⟩
        · have := r_letV (xt := xt) (d := d) (post := post) (k := k) a2 (by omega) n7 n8 (by omega) (by omega) hk l1 l8 lf rfl w0 (show i' < n by omega) e0 hk0
          rw [← a1] at this
          exact this
        · have := r_letF (xt := xt) (d := d) (post := post) (k := k) a2 (by omega) n7 n8 (by omega) (by omega) hk l1 l8 lf rfl w0 (show i' < m by omega) e0 hk0
          rw [← a1] at this
          exact this
      · rw [if_neg (by omega)]
        have := r_letN (xt := xt) (d := d) (post := post) (k := k) (i := (i' : Int)) a2 (by omega) n7 n8 (by omega) (by omega) hk hw hi (by omega)
        rw [← a1] at this
        exact this
  rcases (show what = 0 ∨ what = 1 by omega) with w0 | w0
  · obtain ⟨c, r', q, p, ⟨f, q', ln, l1, l8, lf, ec, er⟩, e1, e2, -⟩ := n9 i' (by omega)
    exact fin f q' ln l1 l8 lf (by rw [if_pos w0, e1, ec]) (Or.inl ⟨w0, by rw [e2, er]⟩)
  · obtain ⟨c, r', q, p, ⟨f, q', ln, l1, l8, lf, ec, er⟩, e1, e2, -⟩ := n10 i' (by omega)
    exact fin f q' ln l1 l8 lf (by rw [if_neg (by omega), e1, ec]) (Or.inr ⟨w0, by rw [e2, er]⟩)
end sts
