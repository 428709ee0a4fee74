/-! the names of both sides -/
theorem fstN_cg {f g : Nat → Bool} : ∀ n : Nat, (∀ j, j < n → f j = g j) → fstN f n = fstN g n := by
  intro n
  induction n with
  | zero => intro _; rfl
  | succ n ih =>
    intro h
    show (if fstN f n < n then fstN f n else if f n = true then n else n + 1) = (if fstN g n < n then fstN g n else if g n = true then n else n + 1)
    rw [ih (fun j hj => h j (by omega)), h n (by omega)]
theorem nmR_cr {c r : Int} (hh : nmR c r) : 0 ≤ c ∧ c < 1099511627776 := by
  obtain ⟨f, i, n, h1, h8, h3, e, -⟩ := hh
  have a := ck_r n h3
  have p : ∀ k : Nat, k < 9 → (32 : Int) ^ k ≤ 1099511627776 := by decide +kernel
  have b := p n (by omega)
  rw [e]
  exact ⟨a.1, Int.lt_of_lt_of_le a.2 b⟩
theorem nmR_c64 {c r c' r' : Int} (h : nmR c r) (h' : nmR c' r') : Int64.ofInt c = Int64.ofInt c' ↔ c = c' := by
  have a := nmR_cr h
  have b := nmR_cr h'
  constructor
  · intro e
    have e2 := congrArg Int64.toInt e
    rw [n_toL (by omega) (by omega), n_toL (by omega) (by omega)] at e2
    exact e2
  · intro e; rw [e]
/-- a table of names as both sides have it -/
def TBL (P : Nat → Nat → Prop) (n : Nat) (kf : Nat → Int64) (vf : Nat → Option Nat) (K : Nat → Int64) (X : Nat → Int) : Prop := ∀ j, j < n → ∃ (c r : Int) (q p : Nat), nmR c r ∧ kf j = Int64.ofInt c ∧ K j = Int64.ofInt r ∧ vf j = some q ∧ X j = (p : Int) ∧ P q p
section tbls
variable {P P' : Nat → Nat → Prop} {n : Nat} {kf kf' K K' : Nat → Int64} {vf vf' : Nat → Option Nat} {X X' : Nat → Int} {c r : Int}
theorem TBL_fnd (hT : TBL P n kf vf K X) (h : nmR c r) : fndK kf n (Int64.ofInt c) = fndK K n (Int64.ofInt r) := by
  refine fstN_cg n (fun j hj => ?_)
  obtain ⟨c', r', q, p, h', e1, e2, -⟩ := hT j hj
  have i1 := nmR_c64 h' h
  have i2 := nmR_iff h' h
  have i3 := nmR_64 h' h
  show decide (kf j = Int64.ofInt c) = decide (K j = Int64.ofInt r)
  rw [e1, e2]
  exact decide_eq_decide.mpr (i1.trans (i2.trans i3))
theorem TBL_mono (hT : TBL P n kf vf K X) (hi : ∀ q p, P q p → P' q p) : TBL P' n kf vf K X := fun j hj => by
  obtain ⟨c, r, q, p, a1, a2, a3, a4, a5, a6⟩ := hT j hj
  exact ⟨c, r, q, p, a1, a2, a3, a4, a5, hi q p a6⟩
theorem TBL_cg (hT : TBL P n kf vf K X) (h1 : ∀ j, j < n → kf' j = kf j) (h2 : ∀ j, j < n → vf' j = vf j) (h3 : ∀ j, j < n → K' j = K j) (h4 : ∀ j, j < n → X' j = X j) : TBL P n kf' vf' K' X' := fun j hj => by
  rw [h1 j hj, h2 j hj, h3 j hj, h4 j hj]
  exact hT j hj
theorem TBL_give {q p i : Nat} (hT : TBL P n kf vf K X) (h : nmR c r) (hi : i ≤ n) (hP : P q p) : TBL P (max n (i + 1)) (va_up kf i (Int64.ofInt c)) (va_up vf i (some q)) (va_up K i (Int64.ofInt r)) (va_up X i (p : Int)) := fun j hj => by
  by_cases z : j = i
  · rw [z, up_eq, up_eq, up_eq, up_eq]
    exact ⟨c, r, q, p, h, rfl, rfl, rfl, rfl, hP⟩
  · rw [up_ne _ _ z, up_ne _ _ z, up_ne _ _ z, up_ne _ _ z]
    exact hT j (by omega)
theorem TBL_del (hT : TBL P n kf vf K X) (i : Nat) : TBL P (delN n i) (delF kf n i) (delF vf n i) (delF K n i) (delF X n i) := by
  unfold delN delF
  by_cases z : i < n
  · simp only [if_pos z]
    intro j hj
    unfold sh
    by_cases y : i ≤ j ∧ j < n - 1
    · simp only [if_pos y]
      exact hT (j + 1) (by omega)
    · simp only [if_neg y]
      exact hT j (by omega)
  · simp only [if_neg z]
    exact hT
end tbls
/-- each entry is null or a cell of its class that never changes -/
def ENA (A : Nat → Prop) (h : mj_H) (c : Nat) (vf : Nat → Option Nat) : Prop := ∀ k, k < 40 → vf k = none ∨ ∃ q fs, vf k = some q ∧ 2 ≤ q ∧ A q ∧ h[q]? = some (cO c fs)
section enas
variable {A A' : Nat → Prop} {h h' : mj_H} {c : Nat} {vf vf' : Nat → Option Nat}
theorem ENA_T (hE : ENA A h c vf) : ENT h c vf := fun k hk => by
  rcases hE k hk with z | ⟨q, fs, e1, e2, -, e3⟩
  · exact Or.inl z
  · exact Or.inr ⟨q, fs, e1, e2, e3⟩
theorem ENA_k (hk : kpA A h A' h') (hE : ENA A h c vf) : ENA A' h' c vf := fun k hk4 => by
  rcases hE k hk4 with z | ⟨q, fs, e1, e2, e3, e4⟩
  · exact Or.inl z
  · exact Or.inr ⟨q, fs, e1, e2, (hk q _ e3 e4).1, (hk q _ e3 e4).2⟩
theorem ENA_up {q i : Nat} {fs : List Value} (hE : ENA A h c vf) (h2 : 2 ≤ q) (hA : A q) (hq : h[q]? = some (cO c fs)) : ENA A h c (va_up vf i (some q)) := fun k hk => by
  by_cases z : k = i
  · rw [z, up_eq]; exact Or.inr ⟨q, fs, rfl, h2, hA, hq⟩
  · rw [up_ne _ _ z]; exact hE k hk
theorem ENA_del {n i : Nat} (hE : ENA A h c vf) (hn : n ≤ 40) : ENA A h c (delF vf n i) := fun k hk => by
  unfold delF
  by_cases z : i < n
  · rw [if_pos z]
    unfold sh
    by_cases y : i ≤ k ∧ k < n - 1
    · rw [if_pos y]; exact hE (k + 1) (by omega)
    · rw [if_neg y]; exact hE k hk
  · rw [if_neg z]; exact hE k hk
theorem ENA_cp (hE : ENA A h c vf') : ENA A h c (cpF vf vf' 40) := fun k hk => by
  rw [cpF_at vf vf' hk]; exact hE k hk
theorem ENA_0 : ENA A h c (fun _ => none) := fun _ _ => Or.inl rfl
end enas
/-- what changes of the reference leave its values and nodes -/
def RXX (s t : RS) : Prop := rext s t ∧ s.1 50 ≤ t.1 50 ∧ (∀ k x : Nat, 43 ≤ k → k ≤ 48 → (x : Int) < s.1 50 → t.2.2.1 k x = s.2.2.1 k x) ∧ (∀ x : Nat, (x : Int) < s.1 50 → t.2.2.2 49 x = s.2.2.2 49 x)
theorem RXX_LF {s t : RS} (h : LF s t) (h50 : s.1 50 ≤ t.1 50) : RXX s t := ⟨h.1, h50, h.2.2.2.2.1, h.2.2.2.2.2.1⟩
theorem RXX_rf (s : RS) : RXX s s := ⟨⟨Int.le_refl _, Int.le_refl _, fun _ _ _ => ⟨rfl, rfl⟩, fun _ _ => rfl⟩, Int.le_refl _, fun _ _ _ _ _ => rfl, fun _ _ => rfl⟩
/-- a change of other fields alone -/
theorem RXX_f {s t : RS} (h3 : t.1 3 = s.1 3) (h4 : t.1 4 = s.1 4) (h50 : t.1 50 = s.1 50) (h1 : t.2.2.1 1 = s.2.2.1 1) (h2 : t.2.2.1 2 = s.2.2.1 2) (h0 : t.2.2.2 0 = s.2.2.2 0) (hn : ∀ k, 43 ≤ k → k ≤ 48 → t.2.2.1 k = s.2.2.1 k) (h49 : t.2.2.2 49 = s.2.2.2 49) : RXX s t :=
  ⟨⟨by omega, by omega, fun _ _ _ => by rw [h1, h2]; exact ⟨rfl, rfl⟩, fun _ _ => by rw [h0]⟩, by omega, fun k x q1 q2 _ => by rw [hn k q1 q2], fun x _ => by rw [h49]⟩
theorem RBC_x {s t : RS} {T : Nat → Tok} {n : Nat} (hx : RXX s t) (h : RBC s T n (s.1 50)) : RBC t T n (t.1 50) := by
  obtain ⟨mk, ln, j, B, t1, t2, t3, t4, t5, t6, t7⟩ := h
  obtain ⟨x1, x2, x3, x4⟩ := hx
  exact ⟨mk, ln, j, B, t1, t2, t3, t4, by omega, t6, rR_k _ _ _ _ _ _ _ _ _ _ ⟨fun k y q1 q2 q3 => x3 k y q1 q2 (by omega), fun y q => x4 y (by omega), x1⟩ (Nat.le_refl _) t7⟩
/-- a value, a function as both sides have it -/
def VP (A : Nat → Prop) (h : mj_H) (s : RS) (q p : Nat) : Prop := ∃ v, gv A h q v ∧ gr s p v
def FP (A : Nat → Prop) (h : mj_H) (s : RS) (q p : Nat) : Prop := ∃ T, BDY A h T q ∧ RBC s T p (s.1 50)
theorem gv_k {A A' : Nat → Prop} {h h' : mj_H} {q : Nat} {v : VV} (hk : kpA A h A' h') (hg : gv A h q v) : gv A' h' q v := ⟨cv_keep hk hg.1, hg.2⟩
theorem BDY_k {A A' : Nat → Prop} {h h' : mj_H} {q : Nat} {T : Nat → Tok} (hk : kpA A h A' h') (hb : BDY A h T q) : BDY A' h' T q := by
  obtain ⟨mk, ln, j, b1, b2, b3, b4, b5⟩ := hb
  exact ⟨mk, ln, j, b1, b2, b3, b4, cR_k hk _ _ _ _ _ _ _ _ b5⟩
theorem VP_k {A A' : Nat → Prop} {h h' : mj_H} {s t : RS} {q p : Nat} (hk : kpA A h A' h') (hx : RXX s t) (h1 : VP A h s q p) : VP A' h' t q p := by
  obtain ⟨v, a, b⟩ := h1
  exact ⟨v, gv_k hk a, gr_x hx.1 b⟩
theorem FP_k {A A' : Nat → Prop} {h h' : mj_H} {s t : RS} {q p : Nat} (hk : kpA A h A' h') (hx : RXX s t) (h1 : FP A h s q p) : FP A' h' t q p := by
  obtain ⟨T, a, b⟩ := h1
  exact ⟨T, BDY_k hk a, RBC_x hx b⟩
/-- the names that a Names of the class and tables of the reference tell -/
def NMT (A : Nat → Prop) (h : mj_H) (s : RS) (o a1 a2 a3 a4 : Nat) (cn cm : Int) (K J : Nat → Int64) (X Y : Nat → Int) (n m : Nat) (kf jf : Nat → Int64) (vf of : Nat → Option Nat) : Prop := NS h o a1 a2 a3 a4 n kf vf m jf of ∧ (n + m ≤ 40 ∧ cn = (n : Int) ∧ cm = (m : Int)) ∧ TBL (VP A h s) n kf vf K X ∧ TBL (FP A h s) m jf of J Y ∧ ENA A h 10 vf ∧ ENA A h 4 of
theorem NMT_k2 {A A' : Nat → Prop} {h h' : mj_H} {s t : RS} {o a1 a2 a3 a4 o' a1' a2' a3' a4' n m : Nat} {cn cm cn' cm' : Int} {K J K' J' : Nat → Int64} {X Y X' Y' : Nat → Int} {kf jf kf' jf' : Nat → Int64} {vf of vf' of' : Nat → Option Nat} (hN : NMT A h s o a1 a2 a3 a4 cn cm K J X Y n m kf jf vf of) (hk : kpA A h A' h') (hx : RXX s t) (hS : NS h' o' a1' a2' a3' a4' n kf' vf' m jf' of') (h1 : cn' = cn) (h2 : cm' = cm) (h3 : ∀ j, j < 40 → K' j = K j) (h4 : ∀ j, j < 40 → J' j = J j) (h5 : ∀ j, j < 40 → X' j = X j) (h6 : ∀ j, j < 40 → Y' j = Y j) (h7 : ∀ j, j < 40 → kf' j = kf j) (h8 : ∀ j, j < 40 → jf' j = jf j) (h9 : ∀ j, j < 40 → vf' j = vf j) (h10 : ∀ j, j < 40 → of' j = of j) : NMT A' h' t o' a1' a2' a3' a4' cn' cm' K' J' X' Y' n m kf' jf' vf' of' := by
  obtain ⟨a, ⟨b1, b2, b3⟩, c, d, e, f⟩ := hN
  rw [h1, h2]
  exact ⟨hS, ⟨b1, b2, b3⟩, TBL_cg (TBL_mono c (fun q p z => VP_k hk hx z)) (fun j hj => h7 j (by omega)) (fun j hj => h9 j (by omega)) (fun j hj => h3 j (by omega)) (fun j hj => h5 j (by omega)), TBL_cg (TBL_mono d (fun q p z => FP_k hk hx z)) (fun j hj => h8 j (by omega)) (fun j hj => h10 j (by omega)) (fun j hj => h4 j (by omega)) (fun j hj => h6 j (by omega)), fun k hk4 => by rw [h9 k hk4]; exact ENA_k hk e k hk4, fun k hk4 => by rw [h10 k hk4]; exact ENA_k hk f k hk4⟩
theorem NMT_k {A A' : Nat → Prop} {h h' : mj_H} {s t : RS} {o a1 a2 a3 a4 n m : Nat} {cn cm cn' cm' : Int} {K J K' J' : Nat → Int64} {X Y X' Y' : Nat → Int} {kf jf : Nat → Int64} {vf of : Nat → Option Nat} (hN : NMT A h s o a1 a2 a3 a4 cn cm K J X Y n m kf jf vf of) (hk : kpA A h A' h') (hx : RXX s t) (hS : NS h' o a1 a2 a3 a4 n kf vf m jf of) (h1 : cn' = cn) (h2 : cm' = cm) (h3 : K' = K) (h4 : J' = J) (h5 : X' = X) (h6 : Y' = Y) : NMT A' h' t o a1 a2 a3 a4 cn' cm' K' J' X' Y' n m kf jf vf of :=
  NMT_k2 hN hk hx hS h1 h2 (fun _ _ => by rw [h3]) (fun _ _ => by rw [h4]) (fun _ _ => by rw [h5]) (fun _ _ => by rw [h6]) (fun _ _ => rfl) (fun _ _ => rfl) (fun _ _ => rfl) (fun _ _ => rfl)
theorem NMT_S {A : Nat → Prop} {h : mj_H} {s : RS} {n m : Nat} {cn cm : Int} {K J : Nat → Int64} {X Y : Nat → Int} {kf jf : Nat → Int64} {vf of : Nat → Option Nat} (hN : NMT A h s 4 5 6 7 8 cn cm K J X Y n m kf jf vf of) : NMS h n m kf jf vf of := by
  obtain ⟨⟨a1, a2, a3, a4, a5⟩, ⟨b1, b2, b3⟩, c, d, e, f⟩ := hN
  refine ⟨a1, a2, a3, a4, a5, by omega, by omega, fun j hj => ?_, fun j hj => ?_⟩
  · obtain ⟨_, _, q, _, _, _, _, z, _⟩ := c j hj
    exact ⟨q, z⟩
  · obtain ⟨_, _, q, _, _, _, _, z, _⟩ := d j hj
    exact ⟨q, z⟩
/-- what the names stand for -/
theorem NMT_E {A : Nat → Prop} {h : mj_H} {s : RS} {n m : Nat} {kf jf : Nat → Int64} {vf of : Nat → Option Nat} (hN : NMT A h s 4 5 6 7 8 (s.1 23) (s.1 24) (s.2.2.2 19) (s.2.2.2 20) (s.2.2.1 21) (s.2.2.1 22) n m kf jf vf of) : ∃ (Nv : Int → Option VV) (Fn : Int → Option (Nat → Tok)), NVF Nv Fn A h ∧ RNC Nv Fn s n m ∧ ∀ c, Fn c = none ↔ ¬ fndK jf m (Int64.ofInt c) < m := by
  have hS := NMT_S hN
  obtain ⟨-, ⟨b1, b2, b3⟩, c, d, e, f⟩ := hN
  have x1 : ∀ k : Int, ∃ o : Option VV, (fndK kf n (Int64.ofInt k) = n ∧ o = none) ∨ (fndK kf n (Int64.ofInt k) < n ∧ ∃ q p v, vf (fndK kf n (Int64.ofInt k)) = some q ∧ s.2.2.1 21 (fndK kf n (Int64.ofInt k)) = ((p : Nat) : Int) ∧ o = some v ∧ gv A h q v ∧ gr s p v) := fun k => by
    have hle : fndK kf n (Int64.ofInt k) ≤ n := fstN_le _ _
    by_cases z : fndK kf n (Int64.ofInt k) < n
    · obtain ⟨_, _, q, p, _, _, _, z4, z5, v, z6, z7⟩ := c _ z
      exact ⟨some v, Or.inr ⟨z, q, p, v, z4, z5, rfl, z6, z7⟩⟩
    · exact ⟨none, Or.inl ⟨by omega, rfl⟩⟩
  have x2 : ∀ k : Int, ∃ o : Option (Nat → Tok), (fndK jf m (Int64.ofInt k) = m ∧ o = none) ∨ (fndK jf m (Int64.ofInt k) < m ∧ ∃ q p T, of (fndK jf m (Int64.ofInt k)) = some q ∧ s.2.2.1 22 (fndK jf m (Int64.ofInt k)) = ((p : Nat) : Int) ∧ o = some T ∧ BDY A h T q ∧ RBC s T p (s.1 50)) := fun k => by
    have hle : fndK jf m (Int64.ofInt k) ≤ m := fstN_le _ _
    by_cases z : fndK jf m (Int64.ofInt k) < m
    · obtain ⟨_, _, q, p, _, _, _, z4, z5, v, z6, z7⟩ := d _ z
      exact ⟨some v, Or.inr ⟨z, q, p, v, z4, z5, rfl, z6, z7⟩⟩
    · exact ⟨none, Or.inl ⟨by omega, rfl⟩⟩
  obtain ⟨Nv, hv⟩ := Classical.axiomOfChoice x1
  obtain ⟨Fn, hf⟩ := Classical.axiomOfChoice x2
  refine ⟨Nv, Fn, ⟨n, m, kf, jf, vf, of, hS, fun k => ?_, fun k => ?_⟩, ⟨b2, b3, by omega, by omega, fun k r hr => ?_, fun k r hr => ?_⟩, fun k => ?_⟩
  · rcases hv k with z | ⟨z1, q, p, v, z2, z3, z4, z5, z6⟩
    · exact Or.inl z
    · exact Or.inr ⟨z1, q, v, z2, z4, z5⟩
  · rcases hf k with z | ⟨z1, q, p, v, z2, z3, z4, z5, z6⟩
    · exact Or.inl z
    · exact Or.inr ⟨z1, q, v, z2, z4, z5⟩
  · rw [← TBL_fnd c hr]
    rcases hv k with z | ⟨z1, q, p, v, z2, z3, z4, z5, z6⟩
    · exact Or.inl ⟨by omega, z.2⟩
    · exact Or.inr ⟨z1, p, v, z3, z4, z6⟩
  · rw [← TBL_fnd d hr]
    rcases hf k with z | ⟨z1, q, p, v, z2, z3, z4, z5, z6⟩
    · exact Or.inl ⟨by omega, z.2⟩
    · exact Or.inr ⟨z1, p, v, z3, z4, z6⟩
  · rcases hf k with z | ⟨z1, q, p, v, z2, z3, z4, z5, z6⟩
    · exact ⟨fun _ => by omega, fun _ => z.2⟩
    · exact ⟨fun y => by (rw [z4] at y; cases y), fun y => absurd z1 y⟩
/-- the first Op of what was read -/
theorem cR_op {A : Nat → Prop} {h : mj_H} {T : Nat → Tok} : ∀ f m o i op b nop hk, cR A h T f m o i op b nop hk → (m = 2 → 2 ≤ nop ∧ A nop ∧ ∃ fs, h[nop]? = some (cO 4 fs)) → 2 ≤ op ∧ A op ∧ ∃ fs, h[op]? = some (cO 4 fs) := by
  have one : ∀ {p : Nat} {fs : List Value}, fzC A h p (cO 4 fs) → 2 ≤ p ∧ A p ∧ ∃ fs, h[p]? = some (cO 4 fs) := fun z => ⟨z.1, z.2.1, _, z.2.2⟩
  intro f
  induction f with
  | zero => intro m o i op b nop hk hc; exact absurd hc (by unfold cR; exact id)
  | succ f ih =>
    intro m o i op b nop hk hc hn
    rcases m with _ | _ | _ | _ | m
    · have hc : cR A h T (f + 1) 0 o i op b nop hk := hc
      by_cases z : isDs T i
      · obtain ⟨a, -, h2⟩ := (cR_d z).mp hc
        exact ih _ _ _ _ _ _ _ h2 (fun y => by cases y)
      · rcases e : pR T f 1 o i with q | j
        · rw [cR_m0, if_neg z, e] at hc; exact absurd hc id
        · by_cases y : isDs T j
          · obtain ⟨t, nop, -, -, h3⟩ := (cR_a z e y).mp hc
            exact ih _ _ _ _ _ _ _ h3 (fun y => by cases y)
          · obtain ⟨t, -, h3⟩ := (cR_n z e y).mp hc
            exact ih _ _ _ _ _ _ _ h3 (fun y => by cases y)
    · rcases e : pR T f 3 o i with q | j
      · have hc : cR A h T (f + 1) 1 o i op b nop hk := hc
        rw [cR_m1, e] at hc; exact absurd hc id
      · obtain ⟨nop2, hk2, h1, h2⟩ := (cR_1 e).mp hc
        exact ih _ _ _ _ _ _ _ h2 (fun _ => ih _ _ _ _ _ _ _ h1 (fun y => by cases y))
    · have hc : cR A h T (f + 1) 2 o i op b nop hk := hc
      by_cases z : isIx T i
      · rcases e : pR T f 0 (o + 1) (i + 2) with q | k
        · rw [cR_m2, if_pos z, e] at hc; exact absurd hc id
        · obtain ⟨hk2, nop2, -, h2, h3⟩ := (cR_ix z e).mp hc
          exact ih _ _ _ _ _ _ _ h3 (fun _ => ih _ _ _ _ _ _ _ h2 (fun y => by cases y))
      · rw [((cR_ixn z).mp hc).1]
        exact hn rfl
    · have hc : cR A h T (f + 1) 3 o i op b nop hk := hc
      by_cases h1 : tqS (T i) = 1
      · obtain ⟨p, z, -⟩ := (cR_nu h1).mp hc; exact one z
      by_cases h2 : tqS (T i) = 2
      · obtain ⟨p, z, -⟩ := (cR_tx h2).mp hc; exact one z
      by_cases h3 : tqS (T i) = 3
      · exact one ((cR_nm h3).mp hc)
      by_cases h4 : isMk T i 40
      · by_cases h5 : isMk T (i + 1) 41
        · exact one ((cR_g0 h4 h5).mp hc)
        · obtain ⟨g, -, z⟩ := (cR_g h4 h5).mp hc
          exact ih _ _ _ _ _ _ _ z (fun y => by cases y)
      rw [cR_m3, if_neg h1, if_neg h2, if_neg h3, if_neg h4] at hc
      rcases e1 : pR T f 0 (o + 1) (i + 1) with q | j
      · rw [e1] at hc; exact absurd hc id
      · rw [e1] at hc
        rcases e2 : pR T f 0 (o + 1) (j + 1) with q | k
        · exfalso
          revert hc
          show ((match pR T f 0 (o + 1) (j + 1) with
            | .inl _ => False
            | .inr k => ∃ c y z, fzC A h c (opC 6 (tqP (T i) : Int) 0 (Int64.ofInt 0) 0 0 0 .null (.ref y) (.ref z)) ∧ cR A h T f 0 (o + 1) (i + 1) op (some c) 0 0 ∧ cR A h T f 0 (o + 1) (j + 1) y b 0 0 ∧ cR A h T f 0 (o + 1) (k + 1) z b 0 0) → False)
          rw [e2]
          exact id
        · revert hc
          show ((match pR T f 0 (o + 1) (j + 1) with
            | .inl _ => False
            | .inr k => ∃ c y z, fzC A h c (opC 6 (tqP (T i) : Int) 0 (Int64.ofInt 0) 0 0 0 .null (.ref y) (.ref z)) ∧ cR A h T f 0 (o + 1) (i + 1) op (some c) 0 0 ∧ cR A h T f 0 (o + 1) (j + 1) y b 0 0 ∧ cR A h T f 0 (o + 1) (k + 1) z b 0 0) → _)
          rw [e2]
          intro hc
          obtain ⟨c, y, z, -, h5, -⟩ := hc
          exact ih _ _ _ _ _ _ _ h5 (fun y => by cases y)
    · have hc : cR A h T (f + 1) 4 o i op b nop hk := hc
      rcases e : pR T f 0 o i with q | j
      · rw [cR_m4, e] at hc; exact absurd hc id
      · by_cases z : isMk T j 59
        · obtain ⟨op1, -, h2⟩ := (cR_l e z).mp hc
          exact ih _ _ _ _ _ _ _ h2 (fun y => by cases y)
        · exact ih _ _ _ _ _ _ _ ((cR_ln e z).mp hc) (fun y => by cases y)
