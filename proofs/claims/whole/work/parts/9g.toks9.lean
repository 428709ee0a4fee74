/-! names: the class's key and the reference's tell the same -/
theorem ck_head {f : Nat → Int} : ∀ (n i : Nat), ckI f i (n + 1) = (f i - 96) + 32 * ckI f (i + 1) n := by
  intro n
  induction n with
  | zero =>
    intro i
    show 0 + (f (i + 0) - 96) * 32 ^ 0 = (f i - 96) + 32 * 0
    rw [Nat.add_zero, Int.pow_zero]; omega
  | succ n ih =>
    intro i
    show ckI f i (n + 1) + (f (i + (n + 1)) - 96) * 32 ^ (n + 1) = (f i - 96) + 32 * (ckI f (i + 1) n + (f (i + 1 + n) - 96) * 32 ^ n)
    rw [ih i, Int.pow_succ, show i + (n + 1) = i + 1 + n by omega]
    generalize (32 : Int) ^ n = P
    rw [show (f (i + 1 + n) - 96) * (P * 32) = 32 * ((f (i + 1 + n) - 96) * P) by rw [Int.mul_comm P 32, ← Int.mul_assoc, Int.mul_comm _ 32, Int.mul_assoc]]
    generalize (f (i + 1 + n) - 96) * P = Q
    omega
theorem ck_inj {f g : Nat → Int} : ∀ (n m i j : Nat), (∀ k, k < n → isLtI (f (i + k))) → (∀ k, k < m → isLtI (g (j + k))) → ckI f i n = ckI g j m → n = m ∧ ∀ k, k < n → f (i + k) = g (j + k) := by
  intro n
  induction n with
  | zero =>
    intro m i j hf hg h
    cases m with
    | zero => exact ⟨rfl, fun k hk => absurd hk (by omega)⟩
    | succ m =>
      rw [ck_head] at h
      have a := hg 0 (by omega)
      have b := ck_r (f := g) (i := j + 1) m (fun k hk => by rw [show j + 1 + k = j + (k + 1) by omega]; exact hg (k + 1) (by omega))
      have h' : (0 : Int) = (g j - 96) + 32 * ckI g (j + 1) m := h
      rw [Nat.add_zero] at a
      omega
  | succ n ih =>
    intro m i j hf hg h
    have a := hf 0 (by omega)
    rw [Nat.add_zero] at a
    have b := ck_r (f := f) (i := i + 1) n (fun k hk => by rw [show i + 1 + k = i + (k + 1) by omega]; exact hf (k + 1) (by omega))
    cases m with
    | zero =>
      rw [ck_head] at h
      have h' : (f i - 96) + 32 * ckI f (i + 1) n = (0 : Int) := h
      omega
    | succ m =>
      have c := hg 0 (by omega)
      rw [Nat.add_zero] at c
      rw [ck_head, ck_head] at h
      have e1 : f i = g j := by omega
      have e2 : ckI f (i + 1) n = ckI g (j + 1) m := by omega
      obtain ⟨r1, r2⟩ := ih m (i + 1) (j + 1) (fun k hk => by rw [show i + 1 + k = i + (k + 1) by omega]; exact hf (k + 1) (by omega)) (fun k hk => by rw [show j + 1 + k = j + (k + 1) by omega]; exact hg (k + 1) (by omega)) e2
      refine ⟨by omega, fun k hk => ?_⟩
      cases k with
      | zero => rw [Nat.add_zero, Nat.add_zero]; exact e1
      | succ k => rw [show i + (k + 1) = i + 1 + k by omega, show j + (k + 1) = j + 1 + k by omega]; exact r2 k (by omega)
theorem rk_inj {f g : Nat → Int} : ∀ (n m i j : Nat), (∀ k, k < n → isLtI (f (i + k))) → (∀ k, k < m → isLtI (g (j + k))) → rkI f i n = rkI g j m → n = m ∧ ∀ k, k < n → f (i + k) = g (j + k) := by
  intro n
  induction n with
  | zero =>
    intro m i j hf hg h
    cases m with
    | zero => exact ⟨rfl, fun k hk => absurd hk (by omega)⟩
    | succ m =>
      have a := hg m (by omega)
      have b := rk_r (f := g) (i := j) m (fun k hk => hg k (by omega))
      have h' : (0 : Int) = rkI g j m * 256 + g (j + m) := h
      omega
  | succ n ih =>
    intro m i j hf hg h
    have a := hf n (by omega)
    have b := rk_r (f := f) (i := i) n (fun k hk => hf k (by omega))
    cases m with
    | zero =>
      have h' : rkI f i n * 256 + f (i + n) = (0 : Int) := h
      omega
    | succ m =>
      have c := hg m (by omega)
      have h' : rkI f i n * 256 + f (i + n) = rkI g j m * 256 + g (j + m) := h
      have e1 : f (i + n) = g (j + m) := by omega
      have e2 : rkI f i n = rkI g j m := by omega
      obtain ⟨r1, r2⟩ := ih m i j (fun k hk => hf k (by omega)) (fun k hk => hg k (by omega)) e2
      refine ⟨by omega, fun k hk => ?_⟩
      by_cases z : k = n
      · rw [z]; rw [← show n = m from r1] at e1; exact e1
      · exact r2 k (by omega)
theorem ck_cg {f g : Nat → Int} {i j : Nat} : ∀ n : Nat, (∀ k, k < n → f (i + k) = g (j + k)) → ckI f i n = ckI g j n ∧ rkI f i n = rkI g j n := by
  intro n
  induction n with
  | zero => intro _; exact ⟨rfl, rfl⟩
  | succ n ih =>
    intro h
    have a := ih (fun k hk => h k (by omega))
    constructor
    · show ckI f i n + (f (i + n) - 96) * 32 ^ n = ckI g j n + (g (j + n) - 96) * 32 ^ n
      rw [a.1, h n (by omega)]
    · show rkI f i n * 256 + f (i + n) = rkI g j n * 256 + g (j + n)
      rw [a.2, h n (by omega)]
/-- c is the class's key of a name, r the reference's -/
def nmR (c r : Int) : Prop := ∃ (f : Nat → Int) (i n : Nat), 1 ≤ n ∧ n ≤ 8 ∧ (∀ k, k < n → isLtI (f (i + k))) ∧ c = ckI f i n ∧ r = rkI f i n
theorem nmR_iff {c r c' r' : Int} (h : nmR c r) (h' : nmR c' r') : c = c' ↔ r = r' := by
  obtain ⟨f, i, n, h1, h2, h3, rfl, rfl⟩ := h
  obtain ⟨g, j, m, k1, k2, k3, rfl, rfl⟩ := h'
  constructor
  · intro z
    obtain ⟨e, q⟩ := ck_inj n m i j h3 k3 z
    subst e; exact (ck_cg n q).2
  · intro z
    obtain ⟨e, q⟩ := rk_inj n m i j h3 k3 z
    subst e; exact (ck_cg n q).1
theorem rk_half {f : Nat → Int} {i : Nat} : ∀ n : Nat, (∀ k, k < n → isLtI (f (i + k))) → rkI f i n * 2 < 256 ^ n := by
  intro n
  induction n with
  | zero => intro _; show (0 : Int) * 2 < 256 ^ 0; decide
  | succ n ih =>
    intro h
    have a := ih (fun j hj => h j (by omega))
    have b := h n (by omega)
    show (rkI f i n * 256 + f (i + n)) * 2 < 256 ^ (n + 1)
    rw [Int.pow_succ]
    generalize (256 : Int) ^ n = P at *
    omega
theorem rk_r8 {f : Nat → Int} {i n : Nat} (h1 : 1 ≤ n) (h8 : n ≤ 8) (h : ∀ k, k < n → isLtI (f (i + k))) : 97 ≤ rkI f i n ∧ rkI f i n < 9223372036854775808 := by
  have a := rk_half n h
  have p : ∀ k : Nat, k < 9 → (256 : Int) ^ k ≤ 18446744073709551616 := by decide +kernel
  have b := p n (by omega)
  refine ⟨?_, by omega⟩
  cases n with
  | zero => omega
  | succ n =>
    have c := rk_r (f := f) (i := i) n (fun k hk => h k (by omega))
    have d := h n (by omega)
    show 97 ≤ rkI f i n * 256 + f (i + n)
    omega
/-- the letters of a name token -/
theorem tkB_nm {bf : Nat → Int} {ln : Nat} {fn : Int → Bool} {p bh : Nat} (hp : p < ln) (h : tqS (tkB bf ln fn p bh) = 3 ∨ tqS (tkB bf ln fn p bh) = 4) : nmR (tqD (tkB bf ln fn p bh)) (tqR (tkB bf ln fn p bh)) := by
  by_cases z : isDgI (bf p) ∨ isLtI (bf p)
  · by_cases y : bh = 1 ∨ bh = 3 ∨ bh = 4
    · rw [tkB_bad z y] at h; exact absurd (show (8 : Nat) = 3 ∨ (8 : Nat) = 4 from h) (by decide)
    · by_cases x : isDgI (bf p)
      · rw [tkB_dg x y] at h; exact absurd (show (1 : Nat) = 3 ∨ (1 : Nat) = 4 from h) (by decide)
      · have x2 : isLtI (bf p) := by omega
        rw [tkB_lt x2 y]
        refine ⟨bf, p, rnL ltB bf ln 8 p, ?_, (rnL_le 8 p).1, fun k hk => of_decide_eq_true (rnL_run (P := ltB) (f := bf) (ln := ln) 8 p (p + k) (by omega) (by omega)).2, rfl, rfl⟩
        show 1 ≤ (if p < ln ∧ ltB (bf p) = true then rnL ltB bf ln 7 (p + 1) + 1 else 0)
        rw [if_pos ⟨hp, decide_eq_true x2⟩]; omega
  · by_cases y : bf p = 95 ∧ isDgI (byA bf ln ((p + 1 : Nat) : Int))
    · rw [tkB_ng y.1 y.2] at h; exact absurd (show (1 : Nat) = 3 ∨ (1 : Nat) = 4 from h) (by decide)
    · by_cases x : bf p = 39 ∧ ¬ (bh = 4 ∨ bh = 5 ∨ bh = 6)
      · by_cases w : 0 < rnL txB bf ln 60 (p + 1) ∧ byA bf ln ((p + 1 + rnL txB bf ln 60 (p + 1) : Nat) : Int) = 39
        · rw [tkB_tx x.1 x.2 w] at h; exact absurd (show (2 : Nat) = 3 ∨ (2 : Nat) = 4 from h) (by decide)
        · rw [tkB_tn x.1 x.2 w] at h; exact absurd (show (8 : Nat) = 3 ∨ (8 : Nat) = 4 from h) (by decide)
      · by_cases w : sobI (bf p) = 0
        · rw [tkB_no z y x w] at h; exact absurd (show (8 : Nat) = 3 ∨ (8 : Nat) = 4 from h) (by decide)
        · rw [tkB_sg z y x w] at h
          have := sobI_r (bf p)
          have h2 : (sobI (bf p)).toNat = 3 ∨ (sobI (bf p)).toNat = 4 := h
          omega
theorem tkI_nm {bf : Nat → Int} {ln : Nat} {F : Nat → Int → Bool} {i : Nat} (h : tqS (tkI bf ln F i) = 3 ∨ tqS (tkI bf ln F i) = 4) : nmR (tqD (tkI bf ln F i)) (tqR (tkI bf ln F i)) := by
  unfold tkI tkA at h ⊢
  by_cases z : skB bf ln (tkQ bf ln F i).1 < ln
  · rw [if_pos z] at h ⊢; exact tkB_nm z h
  · rw [if_neg z] at h; exact absurd (show (0 : Nat) = 3 ∨ (0 : Nat) = 4 from h) (by decide)
/-- the reference stands at the line's i-th token -/
def rtI (bf : Nat → Int) (ln : Nat) (F : Nat → Int → Bool) (t : RS) (i : Nat) : Prop := rtP bf ln t (tkQ bf ln F i) (tkI bf ln F i)
