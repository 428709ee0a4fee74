/-! the reference: a line -/
section nameSs
variable {s : RS} {K V c K2 V2 c2 n m k : Nat} {key : Int64} {x : Int}
theorem nS_i (h1 : k ≠ c) (h2 : k ≠ c2) : (nameS s K V c K2 V2 c2 n m key x).1 k = s.1 k := (up_ne _ _ h1).trans (up_ne _ _ h2)
theorem nS_I (h1 : k ≠ V) (h2 : k ≠ V2) : (nameS s K V c K2 V2 c2 n m key x).2.2.1 k = s.2.2.1 k := (up_ne _ _ h1).trans (up_ne _ _ h2)
theorem nS_J (h1 : k ≠ K) (h2 : k ≠ K2) : (nameS s K V c K2 V2 c2 n m key x).2.2.2 k = s.2.2.2 k := (up_ne _ _ h1).trans (up_ne _ _ h2)
theorem nS_c : (nameS s K V c K2 V2 c2 n m key x).1 c = ((max n (fndK (s.2.2.2 K) n key + 1) : Nat) : Int) := up_eq _ _ _
theorem nS_c2 (h : c2 ≠ c) : (nameS s K V c K2 V2 c2 n m key x).1 c2 = ((delN m (fndK (s.2.2.2 K2) m key) : Nat) : Int) := (up_ne _ _ h).trans (up_eq _ _ _)
theorem nS_V : (nameS s K V c K2 V2 c2 n m key x).2.2.1 V = va_up (s.2.2.1 V) (fndK (s.2.2.2 K) n key) x := up_eq _ _ _
theorem nS_V2 (h : V2 ≠ V) : (nameS s K V c K2 V2 c2 n m key x).2.2.1 V2 = delF (s.2.2.1 V2) m (fndK (s.2.2.2 K2) m key) := (up_ne _ _ h).trans (up_eq _ _ _)
theorem nS_K : (nameS s K V c K2 V2 c2 n m key x).2.2.2 K = va_up (s.2.2.2 K) (fndK (s.2.2.2 K) n key) key := up_eq _ _ _
theorem nS_K2 (h : K2 ≠ K) : (nameS s K V c K2 V2 c2 n m key x).2.2.2 K2 = delF (s.2.2.2 K2) m (fndK (s.2.2.2 K2) m key) := (up_ne _ _ h).trans (up_eq _ _ _)
end nameSs
section lines
variable {xt : mj_X} {pre post : mj_H} {Nv : Int → Option VV} {Fn : Int → Option (Nat → Tok)}
theorem pgN_i {d k : Nat} {As : List Value} {h : mj_H} {P Q : mj_H → Prop} (a : pgN xt d k As h P) (hi : ∀ h', P h' → Q h') : pgN xt d k As h Q := pgN_mono a hi
/-- the names, while a line is done -/
theorem RNC_V {s u : RS} {n m : Nat} (h : RNC Nv Fn s n m) (hl : LM s u) (hn : NF s u) (h50 : s.1 50 ≤ 84000) : RNV Nv Fn u := by
  obtain ⟨a1, a2, a3, a4, a5, a6⟩ := h
  obtain ⟨l1, l2, l3, l4, l5, l6, l7⟩ := hl
  obtain ⟨n1, n2, n3, n4, n5, n6⟩ := hn
  refine ⟨n, m, by omega, by omega, a3, a4, fun c r hc => ?_, fun c r hc => ?_⟩
  · rw [n5, n3]
    rcases a5 c r hc with z | ⟨z, q, v, e1, e2, e3⟩
    · exact Or.inl z
    · exact Or.inr ⟨z, q, v, e1, e2, gr_x l1 e3⟩
  · rw [n6, n4]
    rcases a6 c r hc with z | ⟨z, q, T, e1, e2, mk, ln, j, B, t1, t2, t3, t4, t5, t6, t7⟩
    · exact Or.inl z
    · exact Or.inr ⟨z, q, T, e1, e2, mk, ln, j, B, t1, t2, t3, t4, by omega, t6, rR_k _ _ _ _ _ _ _ _ _ _ ⟨fun k y h1 h2 h3 => l5 k y h1 h2 (by omega), fun y h => l6 y (by omega), l1⟩ (Nat.le_refl _) t7⟩
/-- what the state must be ahead of a line of ln bytes -/
def LOK (s : RS) (W ln : Nat) : Prop := (s.1 8 = (W : Int) ∧ W ≤ 500000) ∧ (0 ≤ s.1 3 ∧ s.1 3 + (ln : Int) + (W : Int) ≤ 529000) ∧ (3 ≤ s.1 4 ∧ 10 * s.1 4 + 5 * (ln : Int) + 5 + 6 * (W : Int) + 15400 ≤ 3078000) ∧ (0 ≤ s.1 50 ∧ s.1 50 + 2 * (ln : Int) ≤ 83000) ∧ ln ≤ 200
theorem LOK_D {s u : RS} {W ln : Nat} (h : LOK s W ln) (hr : rlF (li0 s) u) (h4 : 2 * u.1 4 ≤ 2 * (li0 s).1 4 + (ln : Int) + 1) (h3 : u.1 3 ≤ (li0 s).1 3 + (ln : Int)) : DOK u W 10 7700 := by
  obtain ⟨⟨a1, a2⟩, ⟨b1, b2⟩, ⟨c1, c2⟩, -, hl⟩ := h
  have k3 := li0_k (s := s) (k := 3) (by omega)
  have k4 := li0_k (s := s) (k := 4) (by omega)
  have k8 := (hr.2.2.1 8 (by omega)).trans (li0_k (s := s) (k := 8) (by omega))
  obtain ⟨v33, v5, v6, v7, v10, v13⟩ := li0_v (s := s)
  have g5 := hr.2.2.1 5 (by omega)
  have g10 := hr.2.2.1 10 (by omega)
  have g13 := hr.2.2.1 13 (by omega)
  have x1 := hr.1.1
  have x2 := hr.1.2.1
  exact ⟨⟨by omega, by omega, by omega, by omega⟩, by omega, ⟨by omega, by omega⟩, ⟨by omega, a2⟩, ⟨by omega, by omega⟩, by omega, by omega⟩
/-- an error's end -/
theorem LN_err {s u t : RS} {W W' e ln : Nat} {N pl : Int} (h : LOK s W ln) (hr : rlF (li0 s) u) (he : dqE u W N W' e pl t) : LNE s (liE1 s t) W W' e pl := by
  have hL := LM_rl hr
  obtain ⟨v33, v5, v6, v7, v10, v13⟩ := li0_v (s := s)
  have g7 := hr.2.2.1 7 (by omega)
  obtain ⟨b1, b2, b3, b4, b5, b6, b7, b8, b9, b10⟩ := he
  exact LNE_i (LM_d hL.1 b1 b2) (NF_d hL.2.1 b2) ((dfr_i b2 (by omega)).trans hL.2.2.1) b5 b6 (by omega) b3
theorem fi_3 {u : RS} {z : Int} : (fiS u 30 z).1 30 = z := fi_at
/-- a value's end, no name given -/
theorem LN_v0 {s u t : RS} {W W' ln n m q : Nat} {v : VV} {T : Nat → Tok} (h0 : liS T = 0) (h : LOK s W ln) (hr : rlF (li0 s) u) (h4 : 2 * u.1 4 ≤ 2 * (li0 s).1 4 + (ln : Int) + 1) (h3 : u.1 3 ≤ (li0 s).1 3 + (ln : Int)) (hp : PM u W 0 t W' 0) (hg : gr t q v) : LNV s (liE2 s (fiS t 30 (q : Int))) T n m ln W W' v := by
  have hL := LM_rl hr
  have hm := LM_d hL.1 hp.1 hp.2.1
  have hn := NF_d hL.2.1 hp.2.1
  obtain ⟨v33, v5, v6, v7, v10, v13⟩ := li0_v (s := s)
  have g7 := hr.2.2.1 7 (by omega)
  have g6 := hr.2.2.1 6 (by omega)
  have k3 := li0_k (s := s) (k := 3) (by omega)
  have k4 := li0_k (s := s) (k := 4) (by omega)
  obtain ⟨a1, a2, a3, a4, a5, a6, a7, a8, a9⟩ := hp
  obtain ⟨E50, E31⟩ := E2_v (s := s) (u := fiS t 30 (q : Int))
  have E : ∀ k, k ≠ 50 ∧ k ≠ 31 ∧ k ≠ 30 → (liE2 s (fiS t 30 (q : Int))).1 k = t.1 k := fun k hk => (E2_k (by omega)).trans (fi_k (by omega))
  have E30 : (liE2 s (fiS t 30 (q : Int))).1 30 = (q : Int) := (E2_k (by omega)).trans fi_3
  have E3 := E 3 (by omega)
  have E4 := E 4 (by omega)
  have E5 := E 5 (by omega)
  have E6 := E 6 (by omega)
  have E7 := E 7 (by omega)
  have E8 := E 8 (by omega)
  have E18 := E 18 (by omega)
  have E33 := E 33 (by omega)
  obtain ⟨m1, m2, m3, m4, m5, m6, m7⟩ := hm
  obtain ⟨n1, n2, n3, n4, n5, n6⟩ := hn
  have hx : rext t (liE2 s (fiS t 30 (q : Int))) := ⟨by omega, by omega, fun _ _ _ => ⟨rfl, rfl⟩, fun _ _ => rfl⟩
  have f30 : (fiS t 30 (q : Int)).1 30 = (q : Int) := fi_3
  refine ⟨⟨rext_tr m1 hx, by omega, m3, m4, m5, m6, by omega, by omega⟩, by omega, by omega, by omega, by omega, by omega, by omega, E50, q, E30, gr_x hx hg, ?_⟩
  unfold NFm
  rw [if_pos h0]
  exact ⟨(E 23 (by omega)).trans n1, (E 24 (by omega)).trans n2, n3, n4, n5, n6⟩
/-- a value's end, a name given -/
theorem LN_v1 {s u t : RS} {W W' ln n m q : Nat} {v : VV} {T : Nat → Tok} (h0 : liS T ≠ 0) (h : LOK s W ln) (hr : rlF (li0 s) u) (h4 : 2 * u.1 4 ≤ 2 * (li0 s).1 4 + (ln : Int) + 1) (h3 : u.1 3 ≤ (li0 s).1 3 + (ln : Int)) (hp : PM u W 0 t W' 0) (hg : gr t q v) (h56 : t.2.1 56 = Int64.ofInt (tqR (T 0))) : LNV s (liE2 s (fiS (nameS t 19 21 23 20 22 24 n m (t.2.1 56) (q : Int)) 30 (q : Int))) T n m ln W W' v := by
  have hL := LM_rl hr
  have hm := LM_d hL.1 hp.1 hp.2.1
  have hn := NF_d hL.2.1 hp.2.1
  obtain ⟨v33, v5, v6, v7, v10, v13⟩ := li0_v (s := s)
  have g7 := hr.2.2.1 7 (by omega)
  have g6 := hr.2.2.1 6 (by omega)
  have k3 := li0_k (s := s) (k := 3) (by omega)
  have k4 := li0_k (s := s) (k := 4) (by omega)
  obtain ⟨a1, a2, a3, a4, a5, a6, a7, a8, a9⟩ := hp
  rw [h56]
  obtain ⟨y, hy⟩ : ∃ y, y = nameS t 19 21 23 20 22 24 n m (Int64.ofInt (tqR (T 0))) (q : Int) := ⟨_, rfl⟩
  have Y : ∀ k, k ≠ 23 ∧ k ≠ 24 → y.1 k = t.1 k := fun k hk => by
    rw [hy]; exact nS_i (by omega) (by omega)
  have YI : ∀ k, k ≠ 21 ∧ k ≠ 22 → y.2.2.1 k = t.2.2.1 k := fun k hk => by
    rw [hy]; exact nS_I (by omega) (by omega)
  have YJ : ∀ k, k ≠ 19 ∧ k ≠ 20 → y.2.2.2 k = t.2.2.2 k := fun k hk => by
    rw [hy]; exact nS_J (by omega) (by omega)
  rw [← hy]
  obtain ⟨E50, E31⟩ := E2_v (s := s) (u := fiS y 30 (q : Int))
  have E : ∀ k, k ≠ 50 ∧ k ≠ 31 ∧ k ≠ 30 → (liE2 s (fiS y 30 (q : Int))).1 k = y.1 k := fun k hk => (E2_k (by omega)).trans (fi_k (by omega))
  have E30 : (liE2 s (fiS y 30 (q : Int))).1 30 = (q : Int) := (E2_k (by omega)).trans fi_3
  have E3 := (E 3 (by omega)).trans (Y 3 (by omega))
  have E4 := (E 4 (by omega)).trans (Y 4 (by omega))
  have E5 := (E 5 (by omega)).trans (Y 5 (by omega))
  have E6 := (E 6 (by omega)).trans (Y 6 (by omega))
  have E7 := (E 7 (by omega)).trans (Y 7 (by omega))
  have E8 := (E 8 (by omega)).trans (Y 8 (by omega))
  have E18 := (E 18 (by omega)).trans (Y 18 (by omega))
  have E33 := (E 33 (by omega)).trans (Y 33 (by omega))
  obtain ⟨m1, m2, m3, m4, m5, m6, m7⟩ := hm
  obtain ⟨n1, n2, n3, n4, n5, n6⟩ := hn
  have hx : rext t (liE2 s (fiS y 30 (q : Int))) := ⟨by omega, by omega, fun _ _ _ => ⟨by show y.2.2.1 1 _ = _; rw [YI 1 (by omega)], by show y.2.2.1 2 _ = _; rw [YI 2 (by omega)]⟩, fun _ _ => by show y.2.2.2 0 _ = _; rw [YJ 0 (by omega)]⟩
  have f30 : (fiS y 30 (q : Int)).1 30 = (q : Int) := fi_3
  refine ⟨⟨rext_tr m1 hx, by omega, fun k hk => (YI k (by omega)).trans (m3 k hk), (YJ 25 (by omega)).trans m4, fun k x q1 q2 q3 => by show y.2.2.1 k x = _; rw [YI k (by omega)]; exact m5 k x q1 q2 q3, fun x q3 => by show y.2.2.2 49 x = _; rw [YJ 49 (by omega)]; exact m6 x q3, by omega, by omega⟩, by omega, by omega, by omega, by omega, by omega, by omega, E50, q, E30, gr_x hx hg, ?_⟩
  unfold NFm
  rw [if_neg h0]
  rw [← n3, ← n4, ← n5, ← n6]
  refine ⟨(E 23 (by omega)).trans ?_, (E 24 (by omega)).trans ?_, ?_, ?_, ?_, ?_⟩
  · rw [hy]; exact nS_c
  · rw [hy]; exact nS_c2 (by decide)
  · show y.2.2.1 21 = _; rw [hy]; exact nS_V
  · show y.2.2.1 22 = _; rw [hy]; exact nS_V2 (by decide)
  · show y.2.2.2 19 = _; rw [hy]; exact nS_K
  · show y.2.2.2 20 = _; rw [hy]; exact nS_K2 (by decide)
/-- a function's end -/
theorem LN_t {s u : RS} {W ln n m mk j rt B : Nat} {T : Nat → Tok} (h2 : liS T = 2) (h : LOK s W ln) (hr : rlF (li0 s) u) (h4 : 2 * u.1 4 ≤ 2 * (li0 s).1 4 + (ln : Int) + 1) (h3 : u.1 3 ≤ (li0 s).1 3 + (ln : Int)) (h5 : u.1 50 ≤ (li0 s).1 50 + 2 * (ln : Int)) (h56 : u.2.1 56 = Int64.ofInt (tqR (T 0))) (hK : TOKS T mk ln) (hT : TKO T) (hmk : 3 ≤ mk) (hp : pR T fuR 0 1 3 = .inr j) (h54 : u.1 54 = (rt : Int)) (h50 : u.1 50 = (B : Int)) (hrB : rt < B) (hrr : rR u T fuR 0 1 3 B rt (-1)) : LNT s (liE3 (nameS u 20 22 24 19 21 23 m n (u.2.1 56) (u.1 54))) T n m ln W := by
  have hL := LM_rl hr
  obtain ⟨hm, hn, h30, h50b⟩ := hL
  obtain ⟨⟨hW1, hW2⟩, -⟩ := h
  obtain ⟨v33, v5, v6, v7, v10, v13⟩ := li0_v (s := s)
  have g7 := hr.2.2.1 7 (by omega)
  have g6 := hr.2.2.1 6 (by omega)
  have g5 := hr.2.2.1 5 (by omega)
  have g8 := (hr.2.2.1 8 (by omega)).trans (li0_k (s := s) (k := 8) (by omega))
  have k3 := li0_k (s := s) (k := 3) (by omega)
  have k4 := li0_k (s := s) (k := 4) (by omega)
  have k50 := li0_k (s := s) (k := 50) (by omega)
  rw [h56, h54]
  obtain ⟨y, hy⟩ : ∃ y, y = nameS u 20 22 24 19 21 23 m n (Int64.ofInt (tqR (T 0))) (rt : Int) := ⟨_, rfl⟩
  have Y : ∀ k, k ≠ 23 ∧ k ≠ 24 → y.1 k = u.1 k := fun k hk => by
    rw [hy]; exact nS_i (by omega) (by omega)
  have YI : ∀ k, k ≠ 21 ∧ k ≠ 22 → y.2.2.1 k = u.2.2.1 k := fun k hk => by
    rw [hy]; exact nS_I (by omega) (by omega)
  have YJ : ∀ k, k ≠ 19 ∧ k ≠ 20 → y.2.2.2 k = u.2.2.2 k := fun k hk => by
    rw [hy]; exact nS_J (by omega) (by omega)
  rw [← hy]
  have E : ∀ k, k ≠ 31 → k ≠ 23 ∧ k ≠ 24 → (liE3 y).1 k = u.1 k := fun k h1 h2 => (E3_k h1).trans (Y k h2)
  have E31 : (liE3 y).1 31 = y.1 30 := E3_v
  have Y30 := Y 30 (by omega)
  have E3 := E 3 (by omega) (by omega)
  have E4 := E 4 (by omega) (by omega)
  have E5 := E 5 (by omega) (by omega)
  have E6 := E 6 (by omega) (by omega)
  have E7 := E 7 (by omega) (by omega)
  have E8 := E 8 (by omega) (by omega)
  have E18 := E 18 (by omega) (by omega)
  have E30 := E 30 (by omega) (by omega)
  have E33 := E 33 (by omega) (by omega)
  have E50 := E 50 (by omega) (by omega)
  obtain ⟨m1, m2, m3, m4, m5, m6, m7⟩ := hm
  obtain ⟨n1, n2, n3, n4, n5, n6⟩ := hn
  have hx : rext u (liE3 y) := ⟨by omega, by omega, fun _ _ _ => ⟨by show y.2.2.1 1 _ = _; rw [YI 1 (by omega)], by show y.2.2.1 2 _ = _; rw [YI 2 (by omega)]⟩, fun _ _ => by show y.2.2.2 0 _ = _; rw [YJ 0 (by omega)]⟩
  refine ⟨⟨rext_tr m1 hx, by omega, fun k hk => (YI k (by omega)).trans (m3 k hk), (YJ 25 (by omega)).trans m4, fun k x q1 q2 q3 => by show y.2.2.1 k x = _; rw [YI k (by omega)]; exact m5 k x q1 q2 q3, fun x q3 => by show y.2.2.2 49 x = _; rw [YJ 49 (by omega)]; exact m6 x q3, by omega, by omega⟩, by omega, by omega, by omega, by omega, by omega, by omega, by omega, by omega, rt, ⟨mk, ln, j, B, hK, hmk, hT, hp, by omega, hrB, rR_k _ _ _ _ _ _ _ _ _ _ ⟨fun k x q1 q2 _ => by show y.2.2.1 k x = _; rw [YI k (by omega)], fun x _ => by show y.2.2.2 49 x = _; rw [YJ 49 (by omega)], hx⟩ (Nat.le_refl _) hrr⟩, ?_⟩
  rw [← n3, ← n4, ← n5, ← n6]
  refine ⟨(E3_k (by decide)).trans ?_, (E3_k (by decide)).trans ?_, ?_, ?_, ?_, ?_⟩
  · rw [hy]; exact nS_c
  · rw [hy]; exact nS_c2 (by decide)
  · show y.2.2.1 22 = _; rw [hy]; exact nS_V
  · show y.2.2.1 21 = _; rw [hy]; exact nS_V2 (by decide)
  · show y.2.2.2 20 = _; rw [hy]; exact nS_K
  · show y.2.2.2 19 = _; rw [hy]; exact nS_K2 (by decide)
end lines
