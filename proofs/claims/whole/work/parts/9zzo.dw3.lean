/-! the reference does: what a doing leaves, and what it wants -/
theorem pgV_i {xt : mj_X} {d k : Nat} {As : List Value} {h : mj_H} {Q Q' : Value → mj_H → Prop} (a : pgV xt d k As h Q) (hi : ∀ x h', Q x h' → Q' x h') : pgV xt d k As h Q' := x_imp a (fun _ h' ⟨x, e, b⟩ => ⟨x, e, hi x h' b⟩)
/-- j more wait; c: how much less the values are worth than the WORK -/
def PM (s : RS) (W : Nat) (c : Int) (t : RS) (W1 j : Nat) : Prop := rext s t ∧ dfr s t ∧ t.1 5 = 0 ∧ t.1 6 = s.1 6 ∧ t.1 8 = (W1 : Int) ∧ t.1 7 + (W1 : Int) = s.1 7 + (W : Int) ∧ t.1 13 = s.1 13 + (j : Int) ∧ t.1 3 + (W1 : Int) ≤ s.1 3 + (W : Int) ∧ 5 * t.1 4 + 3 * (W1 : Int) + c ≤ 5 * s.1 4 + 3 * (W : Int)
/-- these j wait -/
def WV (s t : RS) (j : Nat) (ch : Nat → VV) : Prop := ∀ i, i < j → ∃ p : Nat, t.2.2.1 12 ((s.1 13).toNat + i) = (p : Int) ∧ gr t p (ch i)
/-- an error -/
def dqE (s : RS) (W : Nat) (nd : Int) (W' e : Nat) (pl : Int) (t : RS) : Prop := rext s t ∧ dfr s t ∧ t.1 8 = (W' : Int) ∧ t.1 7 + (W' : Int) = s.1 7 + (W : Int) ∧ t.1 5 = (e : Int) ∧ t.1 6 = pl ∧ (1 ≤ e ∧ e ≤ 100) ∧ (s.1 13 ≤ t.1 13 ∧ t.1 13 ≤ s.1 13 + nd) ∧ t.1 3 + (W' : Int) ≤ s.1 3 + (W : Int) + 291000 ∧ 5 * t.1 4 + 3 * (W' : Int) ≤ 5 * s.1 4 + 3 * (W : Int) + 12000 + nd
def dqV (s : RS) (W : Nat) (c : Int) (W' : Nat) (v : VV) (t : RS) (z : Int) : Prop := PM s W c t W' 0 ∧ ∃ q : Nat, z = (q : Int) ∧ gr t q v
def dq (s : RS) (W : Nat) (c nd : Int) (r : DR) (t : RS) (z : Int) : Prop := match r.2 with
  | .inl e => dqE s W nd r.1 e.1 e.2 t
  | .inr v => dqV s W c r.1 v t z
theorem gr_x {s t : RS} {q : Nat} {v : VV} (hx : rext s t) (h : gr s q v) : gr t q v := ⟨h.1, rv_ext hx h.1 h.2.1, h.2.2.1, h.2.2.2⟩
theorem rext_psh {t : RS} {w0 : Nat} {z : Int} : rext t (pshS t w0 z) := ⟨by rw [psh_k (by decide)]; exact Int.le_refl _, by rw [psh_k (by decide)]; exact Int.le_refl _, fun _ _ _ => by rw [psh_a (by decide), psh_a (by decide)]; exact ⟨rfl, rfl⟩, fun _ _ => rfl⟩
theorem dfr_psh {t : RS} {w0 : Nat} {z : Int} (hw : t.1 13 = (w0 : Int)) : dfr t (pshS t w0 z) := ⟨fun k _ _ _ _ _ _ _ _ c13 _ => psh_k c13, fun _ => psh_k (by decide), rfl, fun k _ _ c12 _ _ => psh_a c12, fun _ _ => rfl, fun j hj => psh_wk (by omega)⟩
theorem rext_ga {t : RS} {b : Nat} : rext t (gaB t b) := ⟨by rw [gaB_k (by decide)]; exact Int.le_refl _, by rw [gaB_k (by decide)]; exact Int.le_refl _, fun _ _ _ => ⟨rfl, rfl⟩, fun _ _ => rfl⟩
theorem dfr_ga {t : RS} {b : Nat} : dfr t (gaB t b) := ⟨fun k _ _ _ _ _ _ _ _ c13 _ => gaB_k c13, fun _ => gaB_k (by decide), rfl, fun _ _ _ _ _ _ => rfl, fun _ _ => rfl, fun _ _ => rfl⟩
section PMs
variable {s t u : RS} {W W1 W2 j j2 : Nat} {c c2 : Int} {ch : Nat → VV}
theorem PM_rf (h5 : s.1 5 = 0) (h8 : s.1 8 = (W : Int)) : PM s W 0 s W 0 := ⟨rext_rf s, dfr_rf s, h5, rfl, h8, rfl, by omega, by omega, by omega⟩
theorem PM_tr (a : PM s W c t W1 j) (b : PM t W1 c2 u W2 j2) : PM s W (c + c2) u W2 (j + j2) := by
  obtain ⟨a1, a2, a3, a4, a5, a6, a7, a8, a9⟩ := a
  obtain ⟨b1, b2, b3, b4, b5, b6, b7, b8, b9⟩ := b
  exact ⟨rext_tr a1 b1, dfr_tr a2 b2 (by omega), b3, by omega, b5, by omega, by omega, by omega, by omega⟩
theorem PM_c {c' : Int} (a : PM s W c t W1 j) (h : c' ≤ c) : PM s W c' t W1 j := by
  obtain ⟨a1, a2, a3, a4, a5, a6, a7, a8, a9⟩ := a
  exact ⟨a1, a2, a3, a4, a5, a6, a7, a8, by omega⟩
theorem WV_x (h13 : 0 ≤ s.1 13) (h : WV s t j ch) (hj : t.1 13 = s.1 13 + (j : Int)) (hx : rext t u) (hf : dfr t u) : WV s u j ch := fun i hi => by
  obtain ⟨p, p1, p2⟩ := h i hi
  exact ⟨p, by rw [hf.2.2.2.2.2 _ (by omega)]; exact p1, gr_x hx p2⟩
theorem PM_psh {w0 : Nat} {z : Int} (a : PM s W c t W1 j) (hw : t.1 13 = (w0 : Int)) : PM s W c (pshS t w0 z) W1 (j + 1) := by
  have b : PM t W1 0 (pshS t w0 z) W1 1 := by
    have k5 := psh_k (s := t) (n := w0) (x := z) (k := 5) (by decide)
    have k6 := psh_k (s := t) (n := w0) (x := z) (k := 6) (by decide)
    have k7 := psh_k (s := t) (n := w0) (x := z) (k := 7) (by decide)
    have k8 := psh_k (s := t) (n := w0) (x := z) (k := 8) (by decide)
    have k3 := psh_k (s := t) (n := w0) (x := z) (k := 3) (by decide)
    have k4 := psh_k (s := t) (n := w0) (x := z) (k := 4) (by decide)
    have k13 := psh_13 (s := t) (n := w0) (x := z)
    obtain ⟨a1, a2, a3, a4, a5, a6, a7, a8, a9⟩ := a
    exact ⟨rext_psh, dfr_psh hw, by omega, k6, by omega, by omega, by omega, by omega, by omega⟩
  have := PM_tr a b
  rw [Int.add_zero] at this
  exact this
theorem WV_psh {w0 q : Nat} {v : VV} (h13 : 0 ≤ s.1 13) (h : WV s t j ch) (hj : t.1 13 = s.1 13 + (j : Int)) (hw : t.1 13 = (w0 : Int)) (hg : gr t q v) : WV s (pshS t w0 (q : Int)) (j + 1) (va_up ch j v) := fun i hi => by
  by_cases e : i = j
  · rw [e, up_eq, show (s.1 13).toNat + j = w0 by omega]
    exact ⟨q, psh_w, gr_x rext_psh hg⟩
  · rw [up_ne _ _ e]
    obtain ⟨p, p1, p2⟩ := h i (by omega)
    exact ⟨p, by rw [psh_wk (by omega)]; exact p1, gr_x rext_psh p2⟩
theorem PM_ga {base : Nat} (a : PM s W c t W1 j) (hb : s.1 13 = (base : Int)) : PM s W c (gaB t base) W1 0 := by
  obtain ⟨a1, a2, a3, a4, a5, a6, a7, a8, a9⟩ := a
  have k5 := gaB_k (s := t) (base := base) (k := 5) (by decide)
  have k6 := gaB_k (s := t) (base := base) (k := 6) (by decide)
  have k7 := gaB_k (s := t) (base := base) (k := 7) (by decide)
  have k8 := gaB_k (s := t) (base := base) (k := 8) (by decide)
  have k3 := gaB_k (s := t) (base := base) (k := 3) (by decide)
  have k4 := gaB_k (s := t) (base := base) (k := 4) (by decide)
  have k13 := gaB_13 (s := t) (base := base)
  exact ⟨rext_tr a1 rext_ga, dfr_tr a2 dfr_ga (by omega), by omega, by omega, by omega, by omega, by omega, by omega, by omega⟩
theorem PM_tk (n : Nat) (a : PM s W c t W1 j) (h : n ≤ W1) : PM s W (c + 3 * (n : Int)) (takeS t (n : Int)) (W1 - n) j := by
  obtain ⟨a1, a2, a3, a4, a5, a6, a7, a8, a9⟩ := a
  have k5 := takeS_k (t := t) (n := (n : Int)) (k := 5) (by decide) (by decide)
  have k6 := takeS_k (t := t) (n := (n : Int)) (k := 6) (by decide) (by decide)
  have k3 := takeS_k (t := t) (n := (n : Int)) (k := 3) (by decide) (by decide)
  have k4 := takeS_k (t := t) (n := (n : Int)) (k := 4) (by decide) (by decide)
  have k13 := takeS_k (t := t) (n := (n : Int)) (k := 13) (by decide) (by decide)
  have k7 := takeS_7 (t := t) (n := (n : Int))
  have k8 := takeS_8 (t := t) (n := (n : Int))
  exact ⟨rext_tk a1 _, dfr_tk a2 _, by omega, by omega, by omega, by omega, by omega, by omega, by omega⟩
/-- one value was made -/
theorem PM_v (a : PM s W c t W1 j) (hx : rext t u) (hf : rfr t u) (h3 : u.1 3 ≤ t.1 3) (h4 : u.1 4 ≤ t.1 4 + 1) (h5 : u.1 5 = 0) (h6 : u.1 6 = t.1 6) : PM s W (c - 5) u W1 j := by
  obtain ⟨a1, a2, a3, a4, a5, a6, a7, a8, a9⟩ := a
  have k7 := hf.1 7 (by decide) (by decide) (by decide) (by decide) (by decide)
  have k8 := hf.1 8 (by decide) (by decide) (by decide) (by decide) (by decide)
  have k13 := hf.1 13 (by decide) (by decide) (by decide) (by decide) (by decide)
  exact ⟨rext_tr a1 hx, dfr_tr a2 (dfr_r hf) (by omega), h5, by omega, by omega, by omega, by omega, by omega, by omega⟩
theorem PM_cp (a : PM s W c t W1 j) : cpS t = cpS s := cpS_d a.2.1
theorem dqE_tr {n2 nd pl : Int} {W' e : Nat} (a : PM s W c t W1 j) (b : dqE t W1 n2 W' e pl u) (h1 : n2 + (j : Int) ≤ nd) (h2 : n2 - c ≤ nd) : dqE s W nd W' e pl u := by
  obtain ⟨a1, a2, a3, a4, a5, a6, a7, a8, a9⟩ := a
  obtain ⟨b1, b2, b3, b4, b5, b6, b7, b8, b9, b10⟩ := b
  exact ⟨rext_tr a1 b1, dfr_tr a2 b2 (by omega), b3, by omega, b5, b6, b7, by omega, by omega, by omega⟩
theorem dqE_n {nd nd' pl : Int} {W' e : Nat} (b : dqE s W nd W' e pl u) (h : nd ≤ nd') : dqE s W nd' W' e pl u := by
  obtain ⟨b1, b2, b3, b4, b5, b6, b7, b8, b9, b10⟩ := b
  exact ⟨b1, b2, b3, b4, b5, b6, b7, by omega, b9, by omega⟩
theorem dqE_psh {nd pl z : Int} {W' e w0 : Nat} (b : dqE s W nd W' e pl u) (hw : u.1 13 = (w0 : Int)) : dqE s W (nd + 1) W' e pl (pshS u w0 z) := by
  obtain ⟨b1, b2, b3, b4, b5, b6, b7, b8, b9, b10⟩ := b
  have k5 := psh_k (s := u) (n := w0) (x := z) (k := 5) (by decide)
  have k6 := psh_k (s := u) (n := w0) (x := z) (k := 6) (by decide)
  have k7 := psh_k (s := u) (n := w0) (x := z) (k := 7) (by decide)
  have k8 := psh_k (s := u) (n := w0) (x := z) (k := 8) (by decide)
  have k3 := psh_k (s := u) (n := w0) (x := z) (k := 3) (by decide)
  have k4 := psh_k (s := u) (n := w0) (x := z) (k := 4) (by decide)
  have k13 := psh_13 (s := u) (n := w0) (x := z)
  exact ⟨rext_tr b1 rext_psh, dfr_tr b2 (dfr_psh hw) (by omega), by omega, by omega, by omega, by omega, b7, by omega, by omega, by omega⟩
theorem dqE_fl {nd pl : Int} {e : Nat} (a : PM s W c t W1 j) (he : 1 ≤ e ∧ e ≤ 100) (h1 : (j : Int) ≤ nd) (h2 : -c ≤ nd + 12000) : dqE s W nd W1 e (dPl (cpS s) pl) (failS t (e : Int) pl) := by
  have hcp := PM_cp a
  obtain ⟨a1, a2, a3, a4, a5, a6, a7, a8, a9⟩ := a
  have k3 := failS_k (t := t) (c := (e : Int)) (p := pl) (k := 3) (by decide) (by decide)
  have k4 := failS_k (t := t) (c := (e : Int)) (p := pl) (k := 4) (by decide) (by decide)
  have k7 := failS_k (t := t) (c := (e : Int)) (p := pl) (k := 7) (by decide) (by decide)
  have k8 := failS_k (t := t) (c := (e : Int)) (p := pl) (k := 8) (by decide) (by decide)
  have k13 := failS_k (t := t) (c := (e : Int)) (p := pl) (k := 13) (by decide) (by decide)
  exact ⟨rext_fl a1 _ _, dfr_fl a2 _ _, by omega, by omega, failS_5, by rw [failS_6, hcp], he, by omega, by omega, by omega⟩
theorem dqE_ga {nd pl : Int} {W' e base : Nat} (b : dqE s W nd W' e pl u) (hb : s.1 13 = (base : Int)) (hnd : 0 ≤ nd) : dqE s W nd W' e pl (va_up (va_up u.1 13 ((base : Nat) : Int)) 9 3, u.2.1, u.2.2.1, u.2.2.2) := by
  obtain ⟨b1, b2, b3, b4, b5, b6, b7, b8, b9, b10⟩ := b
  obtain ⟨y, hy⟩ : ∃ y : RS, y = (va_up (va_up u.1 13 ((base : Nat) : Int)) 9 3, u.2.1, u.2.2.1, u.2.2.2) := ⟨_, rfl⟩
  rw [← hy]
  have k : ∀ k, k ≠ 13 → k ≠ 9 → y.1 k = u.1 k := fun k c1 c2 => by rw [hy]; show va_up (va_up u.1 13 ((base : Nat) : Int)) 9 3 k = _; rw [up_ne _ _ c2, up_ne _ _ c1]
  have k13 : y.1 13 = (base : Int) := by rw [hy]; show va_up (va_up u.1 13 ((base : Nat) : Int)) 9 3 13 = _; rw [up_ne _ _ (by decide), up_eq]
  have k3 := k 3 (by decide) (by decide)
  have k4 := k 4 (by decide) (by decide)
  have k5 := k 5 (by decide) (by decide)
  have k6 := k 6 (by decide) (by decide)
  have k7 := k 7 (by decide) (by decide)
  have k8 := k 8 (by decide) (by decide)
  have hx : rext u y := ⟨by omega, by omega, fun _ _ _ => by rw [hy]; exact ⟨rfl, rfl⟩, fun _ _ => by rw [hy]⟩
  have hf : dfr u y := ⟨fun j _ _ _ _ _ _ c9 _ c13 _ => k j c13 c9, fun _ => k 11 (by decide) (by decide), by rw [hy], fun _ _ _ _ _ _ => by rw [hy], fun _ _ => by rw [hy], fun _ _ => by rw [hy]⟩
  exact ⟨rext_tr b1 hx, dfr_tr b2 hf (by omega), by omega, by omega, by omega, by omega, b7, by omega, by omega, by omega⟩
theorem dq_tr {n2 nd z : Int} {r : DR} (a : PM s W c t W1 0) (b : dq t W1 c2 n2 r u z) (h1 : n2 ≤ nd) (h2 : n2 - c ≤ nd) : dq s W (c + c2) nd r u z := by
  obtain ⟨W', ⟨e, pl⟩ | v⟩ := r
  · exact dqE_tr a b (by omega) h2
  · exact ⟨PM_tr a b.1, b.2⟩
theorem dq_w {c' n2 nd z : Int} {r : DR} (b : dq s W c n2 r u z) (hc : c' ≤ c) (hn : n2 ≤ nd) : dq s W c' nd r u z := by
  obtain ⟨W', ⟨e, pl⟩ | v⟩ := r
  · exact dqE_n b hn
  · exact ⟨PM_c b.1 hc, b.2⟩
end PMs
/-- where a doing begins: k calls may still open; N: how many may wait more -/
def DOK (s : RS) (W k N : Nat) : Prop := rB s ∧ s.1 5 = 0 ∧ (k ≤ 10 ∧ s.1 10 = 10 - (k : Int)) ∧ (s.1 8 = (W : Int) ∧ W ≤ 500000) ∧ (0 ≤ s.1 13 ∧ s.1 13 + (N : Int) ≤ 7900) ∧ s.1 3 + (W : Int) ≤ 529000 ∧ 5 * s.1 4 + 3 * (W : Int) + (N : Int) ≤ 1539000
section DOKs
variable {s t : RS} {W W1 k N N' j : Nat} {c : Int}
theorem DOK_j (h : DOK s W k N) (p : PM s W c t W1 j) (h1 : N' + j ≤ N) (h2 : (N' : Int) - c ≤ (N : Int)) : DOK t W1 k N' := by
  obtain ⟨⟨b1, b2, b3, b4⟩, h5, ⟨hk, h10⟩, ⟨h8, hW⟩, ⟨w1, w2⟩, hC, hV⟩ := h
  obtain ⟨a1, a2, a3, a4, a5, a6, a7, a8, a9⟩ := p
  have e10 := a2.1 10 (by decide) (by decide) (by decide) (by decide) (by decide) (by decide) (by decide) (by decide) (by decide) (by decide)
  have x1 := a1.1
  have x2 := a1.2.1
  exact ⟨⟨by omega, by omega, by omega, by omega⟩, a3, ⟨hk, by omega⟩, ⟨a5, by omega⟩, ⟨by omega, by omega⟩, by omega, by omega⟩
theorem DOK_n (h : DOK s W k N) (h1 : N' ≤ N) : DOK s W k N' := by
  obtain ⟨b, h5, hk, h8, ⟨w1, w2⟩, hC, hV⟩ := h
  exact ⟨b, h5, hk, h8, ⟨w1, by omega⟩, hC, by omega⟩
theorem DOK_nat (h : DOK s W k N) : ∃ q b base : Nat, s.1 4 = (q : Int) ∧ s.1 3 = (b : Int) ∧ s.1 13 = (base : Int) ∧ 3 ≤ q ∧ q + 2100 < 310000 ∧ b + 291000 ≤ 820000 ∧ base ≤ 7900 ∧ (0 ≤ s.1 10 ∧ s.1 10 ≤ 10) := by
  obtain ⟨⟨b1, b2, b3, b4⟩, h5, ⟨hk, h10⟩, ⟨h8, hW⟩, ⟨w1, w2⟩, hC, hV⟩ := h
  exact ⟨(s.1 4).toNat, (s.1 3).toNat, (s.1 13).toNat, by omega, by omega, by omega, by omega, by omega, by omega, by omega, by omega⟩
theorem DOK_rf (h : DOK s W k N) : PM s W 0 s W 0 := PM_rf h.2.1 h.2.2.2.1.1
theorem gr_lt {q : Nat} {v : VV} (h : DOK s W k N) (g : gr s q v) : q < 310000 := by
  obtain ⟨⟨b1, b2, b3, b4⟩, -⟩ := h
  have := rv_lt g.2.1
  omega
end DOKs
/-- an act's answer as a doing's -/
theorem RA_d {pre post : mj_H} {s : RS} {W : Nat} {c nd : Int} {r : DR} {x : Value} {h' : mj_H} (h : dres pre post s W c nd r x h') (hnd : 0 ≤ nd) (hR : 5 * s.1 4 + 3 * (W : Int) ≤ 1550000 + c) : RA pre post (dq s W c nd r) x h' := by
  obtain ⟨t, rfl, h1, h2, h3, h4, h5⟩ := h
  obtain ⟨W', ⟨e, pl⟩ | v⟩ := r
  · obtain ⟨⟨y, rfl, y1, y2⟩, e1, e2, e3, e4, e5, e6⟩ := h5
    have e1 : t.1 5 = (e : Int) := e1
    have e3 : 1 ≤ e ∧ e ≤ 100 := e3
    have e6 : 5 * t.1 4 + 3 * (W' : Int) ≤ 5 * s.1 4 + 3 * (W : Int) + 12000 := e6
    exact ⟨t, y, rfl, rfl, by omega, ⟨y1, y2⟩, h1, h2, h3, h4, e1, e2, e3, e4, e5, by omega⟩
  · obtain ⟨e1, e2, e3, e4, e5, q, rfl, e6⟩ := h5
    have e5 : 5 * t.1 4 + 3 * (W' : Int) + c ≤ 5 * s.1 4 + 3 * (W : Int) := e5
    have hl := rv_lt e6.2.1
    exact ⟨t, (q : Int), rfl, rfl, by omega, by omega, ⟨h1, h2, e1, e2, h3, h4, by omega, e4, e5⟩, q, rfl, e6⟩
/-- the verbs; an ADVERB's sign; a name's two keys -/
def TKO (T : Nat → Tok) : Prop := (∀ j, tqS (T j) = 6 → tqD (T j) = 39 ∨ tqD (T j) = 47 ∨ tqD (T j) = 92) ∧ (∀ j, tqS (T j) = 5 → (tqD (T j) = 33 ∨ tqD (T j) = 35 ∨ tqD (T j) = 36 ∨ tqD (T j) = 37 ∨ tqD (T j) = 38 ∨ tqD (T j) = 42 ∨ tqD (T j) = 43 ∨ tqD (T j) = 44 ∨ tqD (T j) = 45 ∨ tqD (T j) = 46 ∨ tqD (T j) = 60 ∨ tqD (T j) = 61 ∨ tqD (T j) = 62 ∨ tqD (T j) = 63 ∨ tqD (T j) = 64 ∨ tqD (T j) = 94 ∨ tqD (T j) = 95 ∨ tqD (T j) = 124 ∨ tqD (T j) = 126)) ∧ (∀ j, tqS (T j) = 3 ∨ tqS (T j) = 4 → nmR (tqD (T j)) (tqR (T j)))
theorem RA_g {pre post : mj_H} {Q : RS → Int → Prop} {x : Value} {h' : mj_H} (h : RA pre post Q x h') : RA pre post (fun t z => (0 ≤ t.1 5 ∧ t.1 5 ≤ 100) ∧ (-1 ≤ z ∧ z ≤ 310000) ∧ Q t z) x h' := by
  obtain ⟨t, z, a, b, c, e, f⟩ := h
  exact ⟨t, z, a, b, c, e, c, e, f⟩
/-- the ranges of an answer, with it -/
abbrev GQ (Q : RS → Int → Prop) (t : RS) (z : Int) : Prop := (0 ≤ t.1 5 ∧ t.1 5 ≤ 100) ∧ (-1 ≤ z ∧ z ≤ 310000) ∧ Q t z
theorem pgV_g {xt : mj_X} {d k : Nat} {As : List Value} {h pre post : mj_H} {Q : RS → Int → Prop} (a : pgV xt d k As h (RA pre post Q)) : pgV xt d k As h (RA pre post (GQ Q)) := pgV_i a (fun _ _ z => RA_g z)
/-- an answer at the end -/
abbrev PQ (pre post : mj_H) (Q : RS → Int → Prop) (r : Option Value) (h' : mj_H) : Prop := ∃ x, r = some x ∧ RA pre post Q x h'
theorem PQ_i {pre post : mj_H} {Q : RS → Int → Prop} {t : RS} {z : Int} (h5 : 0 ≤ t.1 5 ∧ t.1 5 ≤ 100) (hz : -1 ≤ z ∧ z ≤ 310000) (h : Q t z) : PQ pre post Q (some (ii z)) (rS pre post t) := ⟨_, rfl, t, z, rfl, rfl, h5, hz, h⟩
theorem PQ_e {pre post : mj_H} {Q : RS → Int → Prop} {s t : RS} {W W' e : Nat} {nd pl : Int} (b : dqE s W nd W' e pl t) (h : Q t (-1)) : PQ pre post Q (some (ii (-1))) (rS pre post t) := by
  obtain ⟨b1, b2, b3, b4, b5, b6, b7, b8, b9, b10⟩ := b
  exact PQ_i (by omega) (by omega) h
section acts
variable {xt : mj_X} {pre post : mj_H} {d W k N : Nat} {s : RS}
theorem R_one {wq : Nat} {w : VV} {vb pl : Int} (hm : pre.length = 102) (hd : 60 ≤ d) (hRS : RSO) (hRP : RPA) (h : DOK s W k N) (hw : gr s wq w) (hvb : vb = 33 ∨ vb = 35 ∨ vb = 36 ∨ vb = 37 ∨ vb = 38 ∨ vb = 42 ∨ vb = 43 ∨ vb = 44 ∨ vb = 45 ∨ vb = 46 ∨ vb = 60 ∨ vb = 61 ∨ vb = 62 ∨ vb = 63 ∨ vb = 64 ∨ vb = 94 ∨ vb = 95 ∨ vb = 124 ∨ vb = 126) : pgV xt d 281 [.ref 102, ii vb, ii (wq : Int), ii pl] (rS pre post s) (RA pre post (dq s W 4 (N : Int) (dOne (cpS s) W vb w pl))) := by
  obtain ⟨q, b, base, h4, h3, h13, q3, q2, b2, hb, hca⟩ := DOK_nat h
  obtain ⟨hB, h5, hk, ⟨h8, hW⟩, hw13, hC, hV⟩ := h
  exact pgV_i (r_monad_ hm hd hRS hB hw.2.1 hw.1 hw.2.2.1 hw.2.2.2 h4 h3 q3 q2 h5 (by omega) b2 h13 hb h8 hW (nd := (N : Int)) (by omega) hRP hvb) (fun x h' z => RA_d z (by omega) (by omega))
theorem R_two {lq wq : Nat} {l w : VV} {vb pl : Int} (hm : pre.length = 102) (hd : 60 ≤ d) (hRS : RST2) (hRP : RPA) (h : DOK s W k N) (hl : gr s lq l) (hw : gr s wq w) (hvb : vb = 33 ∨ vb = 35 ∨ vb = 36 ∨ vb = 37 ∨ vb = 38 ∨ vb = 42 ∨ vb = 43 ∨ vb = 44 ∨ vb = 45 ∨ vb = 46 ∨ vb = 60 ∨ vb = 61 ∨ vb = 62 ∨ vb = 63 ∨ vb = 64 ∨ vb = 94 ∨ vb = 95 ∨ vb = 124 ∨ vb = 126) : pgV xt d 255 [.ref 102, ii vb, ii (lq : Int), ii (wq : Int), ii pl] (rS pre post s) (RA pre post (dq s W 9 (N : Int) (dTwo (cpS s) W vb l w pl))) := by
  obtain ⟨q, b, base, h4, h3, h13, q3, q2, b2, hb, hca⟩ := DOK_nat h
  obtain ⟨hB, h5, hk, ⟨h8, hW⟩, hw13, hC, hV⟩ := h
  exact pgV_i (r_dyad_ hm hd hRS hB hl.2.1 hl.1 hw.2.1 hw.1 hl.2.2.1 hl.2.2.2 hw.2.2.1 hw.2.2.2 h4 h3 q3 q2 h5 (by omega) b2 h13 hb h8 hW (nd := (N : Int)) (by omega) hRP hvb) (fun x h' z => RA_d z (by omega) (by omega))
/-- an item -/
theorem R_item {wq i : Nat} {w : VV} (hm : pre.length = 102) (hd : 3 ≤ d) (h : DOK s W k N) (hw : gr s wq w) (hi : vk w ≤ 1 ∨ i < vm w) (hi2 : i ≤ 120) : pgV xt d 261 [.ref 102, ii (wq : Int), ii ((i : Nat) : Int)] (rS pre post s) (RA pre post (fun t z => PM s W (-5) t W 0 ∧ ∃ q : Nat, z = (q : Int) ∧ gr t q (vit w i))) := by
  obtain ⟨q, b, base, h4, h3, h13, q3, q2, b2, hb, hca⟩ := DOK_nat h
  have hrf := DOK_rf h
  obtain ⟨hB, h5, hk, ⟨h8, hW⟩, hw13, hC, hV⟩ := h
  refine pgV_i (r_itemOf_ (place := 0) (e := 6) hm hd hB hw.2.1 hw.1 h4 h3 q3 (by omega) h5 (by omega) (by omega) hi hi2) (fun x h' z => ?_)
  obtain ⟨t, rfl, x1, x2, x3, x4, x5, x6, p, p3, rfl, p4⟩ := rG_r z
  have hv := vlv_it (rv_wf hw.2.1).1 hw.2.2.2 hw.2.2.1 hi
  have hl := rv_lt p4
  have x3b := rcb_le (o := .inr (vit w i)) (cb := 0)
  have x4b := rvb_le (o := .inr (vit w i)) (vb := 1)
  have pm := PM_v hrf x1 x2 (by omega) (by omega) x5 x6
  exact ⟨t, (p : Int), rfl, rfl, by omega, by omega, pm, p, rfl, p3, p4, hv.1, hv.2⟩
/-- put into one: j wait behind s's -/
theorem R_ga {t : RS} {c : Int} {W1 j base : Nat} {ch : Nat → VV} {pl : Int} (hm : pre.length = 102) (hd : 42 ≤ d) (h : DOK s W k N) (hp : PM s W c t W1 j) (hv : WV s t j ch) (hj : j ≤ 300) (hjN : j ≤ N) (hc : -c ≤ (N : Int)) (hb0 : s.1 13 = (base : Int)) : pgV xt d 244 [.ref 102, ii ((base : Nat) : Int), ii pl] (rS pre post t) (RA pre post (dq s W (c + 7 + 3 * (j : Int)) (N : Int) (dGa (cpS s) W1 j ch pl))) := by
  have ht : DOK t W1 k 0 := DOK_j h hp (by omega) (by omega)
  obtain ⟨q, b, bs2, h4, h3, h13, q3, q2, b2, hb, hca⟩ := DOK_nat ht
  obtain ⟨hB, h5, hk, ⟨h8, hW⟩, hw13, hC, hV⟩ := ht
  have w13 := hp.2.2.2.2.2.2.1
  obtain ⟨-, -, -, -, ⟨s13, s13b⟩, -, hVs⟩ := h
  have e := r_gath_ (xt := xt) (d := d) (n := j) (base := base) (place := pl) (nd := 0) (post := post) hm hd hB h4 h3 q3 (by omega) (by omega) (by omega) (by omega) (by omega) h5 h8 hW (by omega) (ch := ch) (fun i hi => by
    obtain ⟨p, p1, p2⟩ := hv i hi
    rw [show (s.1 13).toNat + i = base + i by omega] at p1
    exact ⟨p, p2.1, p1, p2.2.1⟩) (fun i hi => by obtain ⟨p, p1, p2⟩ := hv i hi; exact p2.2.2.1) hj
  refine pgV_i e (fun x h' z => ?_)
  have pg := PM_ga hp hb0
  have hp9 := hp.2.2.2.2.2.2.2.2
  have k4 := gaB_k (s := t) (base := base) (k := 4) (by decide)
  have z2 := RA_d z (by omega) (by omega)
  rw [PM_cp hp] at z2
  refine RA_mono z2 (fun u y hy => ?_)
  have := dq_tr (nd := (N : Int)) pg hy (by omega) (by omega)
  rw [show c + (7 + 3 * (j : Int)) = c + 7 + 3 * (j : Int) by omega] at this
  exact this
/-- an error stands: nothing is put into one -/
theorem R_gaE {u : RS} {nd pl p : Int} {W' e base : Nat} (hm : pre.length = 102) (hd : 1 ≤ d) (b : dqE s W nd W' e pl u) (hb : s.1 13 = (base : Int)) (hnd : 0 ≤ nd) (h9 : s.1 13 + nd ≤ 8192) : pgV xt d 244 [.ref 102, ii ((base : Nat) : Int), ii p] (rS pre post u) (RA pre post (fun t z => z = -1 ∧ dqE s W nd W' e pl t)) := by
  have hz := dqE_ga b hb hnd
  obtain ⟨b1, b2, b3, b4, b5, b6, b7, b8, b9, b10⟩ := b
  refine pgV_i (r_gathE hm hd (by omega) (by omega) (by omega) (by omega)) (fun x h' z => ?_)
  obtain ⟨rfl, rfl⟩ := z
  refine ⟨_, _, rfl, rfl, ?_, by omega, rfl, hz⟩
  have := hz.2.2.2.2.1
  omega
end acts
