/-! the reference's tokens -/
/-- only the fields of the tokens (35 to 40, the long 41) have changed -/
def rtkC (s : RS) (i : Nat → Int) (l : Nat → Int64) (I : Nat → Nat → Int) (J : Nat → Nat → Int64) : Prop := I = s.2.2.1 ∧ J = s.2.2.2 ∧ (∀ k, ¬ (35 ≤ k ∧ k ≤ 40) → i k = s.1 k) ∧ (∀ k, k ≠ 41 → l k = s.2.1 k)
def rtk (s t : RS) : Prop := rtkC s t.1 t.2.1 t.2.2.1 t.2.2.2
theorem rtk_rf (s : RS) : rtk s s := ⟨rfl, rfl, fun _ _ => rfl, fun _ _ => rfl⟩
theorem rtk_i {s : RS} {i : Nat → Int} {l : Nat → Int64} {I : Nat → Nat → Int} {J : Nat → Nat → Int64} {j : Nat} {x : Int} (hj : 35 ≤ j ∧ j ≤ 40) (h : rtkC s i l I J) : rtkC s (va_up i j x) l I J := ⟨h.1, h.2.1, fun k hk => by rw [up_ne _ _ (show k ≠ j by omega)]; exact h.2.2.1 k hk, h.2.2.2⟩
theorem rtk_l {s : RS} {i : Nat → Int} {l : Nat → Int64} {I : Nat → Nat → Int} {J : Nat → Nat → Int64} {x : Int64} (h : rtkC s i l I J) : rtkC s i (va_up l 41 x) I J := ⟨h.1, h.2.1, h.2.2.1, fun k hk => by rw [up_ne _ _ hk]; exact h.2.2.2 k hk⟩
theorem rtk_tr {s t u : RS} (a : rtk s t) (b : rtk t u) : rtk s u := ⟨b.1.trans a.1, b.2.1.trans a.2.1, fun k hk => (b.2.2.1 k hk).trans (a.2.2.1 k hk), fun k hk => (b.2.2.2 k hk).trans (a.2.2.2 k hk)⟩
/-- the line's bytes -/
def tpR (s : RS) (bf : Nat → Int) (ln : Nat) : Prop := s.1 34 = (ln : Int) ∧ ln ≤ 200 ∧ (∀ j : Nat, -128 ≤ s.2.2.1 32 j ∧ s.2.2.1 32 j ≤ 127) ∧ (∀ j : Nat, s.2.2.1 32 j % 256 = bf j)
theorem tpR_k {s t : RS} {bf : Nat → Int} {ln : Nat} (h : tpR s bf ln) (k : rtk s t) : tpR t bf ln := by
  obtain ⟨h1, h2, h3, h4⟩ := h
  exact ⟨by rw [k.2.2.1 34 (by omega)]; exact h1, h2, by rw [k.1]; exact h3, by rw [k.1]; exact h4⟩
/-- a byte, 0 behind the line -/
def byO (bf : Nat → Int) (ln i : Nat) : Int := if i < ln then bf i else 0
theorem tpR_by {s : RS} {bf : Nat → Int} {ln i : Nat} (h : tpR s bf ln) : byR s (i : Int) = byO bf ln i := by
  unfold byR byO
  rw [h.1]
  by_cases z : i < ln
  · rw [if_pos (by omega), if_pos z]; exact h.2.2.2 i
  · rw [if_neg (by omega), if_neg z]
theorem byO_in {bf : Nat → Int} {ln i : Nat} (h : i < ln) : byO bf ln i = bf i := if_pos h
theorem byO_out {bf : Nat → Int} {ln i : Nat} (h : ln ≤ i) : byO bf ln i = 0 := if_neg (by omega)
theorem byO_A {bf : Nat → Int} {ln i : Nat} : (i < ln ∧ byO bf ln i = bf i ∧ byA bf ln (i : Int) = bf i) ∨ (ln ≤ i ∧ byO bf ln i = 0 ∧ byA bf ln (i : Int) = -1) := by
  by_cases z : i < ln
  · exact Or.inl ⟨z, byO_in z, byA_in z⟩
  · exact Or.inr ⟨by omega, byO_out (by omega), byA_out (by omega)⟩
/-- a digit or a letter stands there -/
abbrev stk (bf : Nat → Int) (ln a : Nat) : Prop := a < ln ∧ (isDgI (bf a) ∨ isLtI (bf a))
theorem stk_O {bf : Nat → Int} {ln a : Nat} : stk bf ln a ↔ ((48 ≤ byO bf ln a ∧ byO bf ln a ≤ 57) ∨ (97 ≤ byO bf ln a ∧ byO bf ln a ≤ 122)) := by
  by_cases z : a < ln
  · rw [byO_in z]; unfold stk; constructor
    · exact fun h => h.2
    · exact fun h => ⟨z, h⟩
  · rw [byO_out (by omega)]; unfold stk; constructor
    · exact fun h => absurd h.1 z
    · intro h; omega
theorem zi_r (b : Bool) : 0 ≤ zi b ∧ zi b ≤ 1 := by cases b <;> decide
theorem zi_0 {c : Prop} [Decidable c] : zi (decide c) = 0 ↔ ¬ c := by
  by_cases h : c
  · rw [decide_eq_true h]; constructor
    · intro z; exact absurd z (by decide)
    · intro z; exact absurd h z
  · rw [decide_eq_false h]; exact ⟨fun _ => h, fun _ => rfl⟩
def blR (bf : Nat → Int) (i a : Nat) : Prop := ∀ j, i ≤ j → j < a → bf j = 32
def acQ (t : RS) (q : Nat × Nat) : Prop := t.1 37 = (q.1 : Int) ↔ (q.2 = 4 ∨ q.2 = 5 ∨ q.2 = 6)
/-- where the reading stands: behind the token before, or behind blanks -/
def rtQ (bf : Nat → Int) (ln : Nat) (t : RS) (q : Nat × Nat) : Prop := ∃ a : Nat, t.1 35 = (a : Int) ∧ q.1 ≤ a ∧ a ≤ ln ∧ blR bf q.1 a ∧ t.1 36 = zi (decide ((q.2 = 1 ∨ q.2 = 3 ∨ q.2 = 4) ∧ stk bf ln q.1)) ∧ t.1 37 ≤ q.1 ∧ acQ t q ∧ -1 ≤ t.1 37
/-- the token at which the reference stands -/
def rtP (bf : Nat → Int) (ln : Nat) (t : RS) (q : Nat × Nat) (k : Tok) : Prop := t.1 38 = ((tqS k : Nat) : Int) ∧ t.1 39 = ((tqP k : Nat) : Int) ∧ ((tqS k = 1 → t.2.1 41 = Int64.ofInt (tqD k)) ∧ (tqS k = 3 ∨ tqS k = 4 → t.2.1 41 = Int64.ofInt (tqR k)) ∧ (tqS k = 2 ∨ tqS k = 5 ∨ tqS k = 6 ∨ tqS k = 7 → t.1 40 = tqD k)) ∧ rtQ bf ln t (tkN q k)
/-- what digits leaves -/
def dgP (bf : Nat → Int) (ln : Nat) (s t : RS) (e : Nat) (x : Int) : Prop := rtk s t ∧ t.1 38 = 1 ∧ t.1 35 = (e : Int) ∧ t.2.1 41 = Int64.ofInt x ∧ t.1 36 = zi (decide (stk bf ln e)) ∧ t.1 37 = s.1 37 ∧ t.1 39 = s.1 39
/-- while digits are read -/
def dgL (bf : Nat → Int) (s t : RS) (fr k : Nat) : Prop := rtk s t ∧ t.1 38 = 1 ∧ t.1 35 = ((fr + k : Nat) : Int) ∧ t.2.1 41 = Int64.ofInt (dvI bf fr k) ∧ t.1 37 = s.1 37 ∧ t.1 39 = s.1 39
theorem dv_64r {f : Nat → Int} {i n : Nat} {c : Int} (h : c = f (i + n)) : Int64.ofInt 10 * Int64.ofInt (dvI f i n) + Int64.ofInt c - Int64.ofInt 48 = Int64.ofInt (dvI f i (n + 1)) := by
  rw [← Int64.ofInt_mul, ← Int64.ofInt_add, ← Int64.ofInt_sub, h]
  congr 1
  show 10 * dvI f i n + f (i + n) - 48 = dvI f i n * 10 + (f (i + n) - 48)
  omega
/-- which names the reference takes for functions -/
def fnR (s : RS) (m : Nat) (r : Int64) : Prop := r = s.2.1 42 ∨ 0 ≤ fndR (s.2.2.2 20) m r
def ltP (bf : Nat → Int) (ln : Nat) (s t : RS) (m : Nat) (e : Nat) (x : Int) : Prop := rtk s t ∧ t.1 35 = (e : Int) ∧ t.2.1 41 = Int64.ofInt x ∧ t.1 36 = zi (decide (stk bf ln e)) ∧ t.1 39 = s.1 39 ∧ ((fnR s m (Int64.ofInt x) ∧ t.1 38 = 4 ∧ t.1 37 = (e : Int)) ∨ (¬ fnR s m (Int64.ofInt x) ∧ t.1 38 = 3 ∧ t.1 37 = s.1 37))
def ltL (bf : Nat → Int) (s t : RS) (fr k : Nat) : Prop := rtk s t ∧ t.1 35 = ((fr + k : Nat) : Int) ∧ t.2.1 41 = Int64.ofInt (rkI bf fr k) ∧ t.1 37 = s.1 37 ∧ t.1 39 = s.1 39
theorem n_orR {a b : Int} (h0 : 0 ≤ a) (h3 : a < 36028797018963968) (h1 : 0 ≤ b) (h2 : b < 256) : Int64.ofInt (a * 2 ^ 8) ||| Int64.ofInt b = Int64.ofInt (a * 256 + b) := by
  have := n_orL (a := b) (b := a) (k := 8) h1 (by omega) h0 (by omega)
  rw [show Int64.ofInt (a * 2 ^ 8) ||| Int64.ofInt b = Int64.ofInt b ||| Int64.ofInt (a * 2 ^ 8) from Int64.or_comm _ _, this]
  congr 1
  omega
theorem rk_r2 {f : Nat → Int} {i : Nat} : ∀ n : Nat, (∀ j, j < n → isLtI (f (i + j))) → 2 * rkI f i n < 256 ^ n := by
  intro n
  induction n with
  | zero => intro _; show 2 * (0 : Int) < 256 ^ 0; decide
  | succ n ih =>
    intro h
    have a := ih (fun j hj => h j (by omega))
    have b := h n (by omega)
    show 2 * (rkI f i n * 256 + f (i + n)) < 256 ^ (n + 1)
    rw [Int.pow_succ]
    generalize (256 : Int) ^ n = P at *
    omega
theorem rk_b {f : Nat → Int} {i n : Nat} (hn : n < 8) (h : ∀ j, j < n → isLtI (f (i + j))) : 0 ≤ rkI f i n ∧ rkI f i n < 36028797018963968 := by
  have a := rk_r n h
  have a2 := rk_r2 n h
  have b : ∀ k : Nat, k < 8 → (256 : Int) ^ k ≤ 72057594037927936 := by decide +kernel
  have c := b n hn
  omega
/-- what quote leaves: n signs of a text -/
def qtP (s t : RS) (a n : Nat) (ok : Prop) : Prop := rtk s t ∧ t.1 36 = s.1 36 ∧ t.1 37 = s.1 37 ∧ t.1 39 = s.1 39 ∧ ((ok ∧ t.1 38 = 2 ∧ t.1 40 = (n : Int) ∧ t.1 35 = ((a + 1 + n + 1 : Nat) : Int)) ∨ (¬ ok ∧ t.1 38 = 8 ∧ t.1 35 = (a : Int)))
theorem tx_n {bf : Nat → Int} {ln i n : Nat} (hrun : ∀ j, i ≤ j → j < i + n → j < ln ∧ txB (bf j) = true) (he : ¬ (i + n < ln ∧ txB (bf (i + n)) = true)) : (n ≤ 60 ∧ rnL txB bf ln 60 i = n) ∨ (60 < n ∧ rnL txB bf ln 60 i = 60 ∧ byA bf ln ((i + 60 : Nat) : Int) ≠ 39) := by
  by_cases z : n ≤ 60
  · exact Or.inl ⟨z, rnL_eq 60 i n z hrun (Or.inr he)⟩
  · refine Or.inr ⟨by omega, rnL_eq 60 i 60 (Nat.le_refl _) (fun j a b => hrun j a (by omega)) (Or.inl rfl), ?_⟩
    have := hrun (i + 60) (by omega) (by omega)
    rw [byA_in this.1]
    exact (of_decide_eq_true this.2).2.2
/-- while blanks are passed -/
def blL (s t : RS) (b : Nat) : Prop := rtk s t ∧ t.1 35 = (b : Int) ∧ t.1 36 = s.1 36 ∧ t.1 37 = s.1 37
theorem tkA_in {bf : Nat → Int} {ln : Nat} {fn : Int → Bool} {q : Nat × Nat} {p : Nat} (h : skB bf ln q.1 = p) (hp : p < ln) : tkA bf ln fn q = tkB bf ln fn p (if p = q.1 then q.2 else 0) := by
  unfold tkA; rw [h, if_pos hp]
theorem tkA_out {bf : Nat → Int} {ln : Nat} {fn : Int → Bool} {q : Nat × Nat} {p : Nat} (h : skB bf ln q.1 = p) (hp : ¬ p < ln) : tkA bf ln fn q = (0, p, 0, 0, bf, p) := by
  unfold tkA; rw [h, if_neg hp]
/-- the marks -/
def mrB (c : Int) : Bool := decide (c = 59 ∨ c = 40 ∨ c = 41 ∨ c = 91 ∨ c = 93 ∨ c = 123 ∨ c = 125 ∨ c = 58)
theorem sob_k : ∀ n : Nat, n < 256 → sobI (n : Int) = (if (n : Int) = 39 ∨ (n : Int) = 47 ∨ (n : Int) = 92 then 6 else if mrB (n : Int) = true then 7 else if vrbB (n : Int) = true then 5 else 0) := by decide +kernel
theorem sob_kI {c : Int} (h0 : 0 ≤ c) (h1 : c ≤ 255) : sobI c = (if c = 39 ∨ c = 47 ∨ c = 92 then 6 else if mrB c = true then 7 else if vrbB c = true then 5 else 0) := by
  have := sob_k c.toNat (by omega)
  rw [show ((c.toNat : Nat) : Int) = c by omega] at this
  exact this
/-- the state behind a token -/
theorem rtQ_e {bf : Nat → Int} {ln : Nat} {t : RS} {e s8 : Nat} (h35 : t.1 35 = (e : Int)) (he : e ≤ ln) (h36 : t.1 36 = zi (decide ((s8 = 1 ∨ s8 = 3 ∨ s8 = 4) ∧ stk bf ln e))) (h37 : t.1 37 ≤ e) (hi : t.1 37 = (e : Int) ↔ (s8 = 4 ∨ s8 = 5 ∨ s8 = 6)) (hn : -1 ≤ t.1 37) : rtQ bf ln t (e, s8) := ⟨e, h35, Nat.le_refl _, he, fun j a b => absurd b (by omega), h36, h37, hi, hn⟩
section rtPs
variable {bf : Nat → Int} {ln : Nat} {fn : Int → Bool} {s s1 t : RS} {q : Nat × Nat} {p : Nat}
abbrev bhQ (q : Nat × Nat) (p : Nat) : Nat := if p = q.1 then q.2 else 0
theorem rtQ_nst (hq : rtQ bf ln s q) (h0 : s.1 36 = 0) (hp : stk bf ln p) : ¬ (bhQ q p = 1 ∨ bhQ q p = 3 ∨ bhQ q p = 4) := by
  obtain ⟨a, h1, h2, h3, h4, h5, h6, h7, h8⟩ := hq
  rw [h0] at h5
  have n := zi_0.mp h5.symm
  intro z
  unfold bhQ at z
  by_cases y : p = q.1
  · rw [if_pos y] at z; exact n ⟨z, y ▸ hp⟩
  · rw [if_neg y] at z; omega
theorem rtQ_ace (hq : rtQ bf ln s q) (hp : q.1 ≤ p) : s.1 37 = (p : Int) ↔ (bhQ q p = 4 ∨ bhQ q p = 5 ∨ bhQ q p = 6) := by
  obtain ⟨a, h1, h2, h3, h4, h5, h6, h7, h8⟩ := hq
  unfold bhQ
  by_cases y : p = q.1
  · rw [if_pos y, y]; exact h7
  · rw [if_neg y]; constructor
    · intro z; omega
    · intro z; omega
theorem rtP_8 (hq : rtQ bf ln s q) {z : Nat} (hz : z = 0 ∨ z = 8) (hk : tkA bf ln fn q = (z, p, 0, 0, bf, p)) (hb : blR bf q.1 p) (hp : q.1 ≤ p) (hl : p ≤ ln) (t38 : t.1 38 = (z : Int)) (t39 : t.1 39 = (p : Int)) (t35 : t.1 35 = (p : Int)) (t36 : t.1 36 = s.1 36) (t37 : t.1 37 = s.1 37) : rtP bf ln t q (tkA bf ln fn q) := by
  rw [hk]
  have e : tkN q (z, p, 0, 0, bf, p) = q := if_pos hz
  refine ⟨t38, t39, ⟨fun y => ?_, fun y => ?_, fun y => ?_⟩, ?_⟩
  · exact absurd (show z = 1 from y) (by omega)
  · exact absurd (show z = 3 ∨ z = 4 from y) (by omega)
  · exact absurd (show z = 2 ∨ z = 5 ∨ z = 6 ∨ z = 7 from y) (by omega)
  · rw [e]
    obtain ⟨a, h1, h2, h3, h4, h5, h6, h7, h8⟩ := hq
    exact ⟨p, t35, hp, hl, hb, by rw [t36]; exact h5, by rw [t37]; exact h6, by unfold acQ; rw [t37]; exact h7, by rw [t37]; exact h8⟩
theorem rtQ_st (hq : rtQ bf ln s q) (h0 : s.1 36 ≠ 0) : s.1 35 = (q.1 : Int) ∧ q.1 ≤ ln ∧ tkA bf ln fn q = (8, q.1, 0, 0, bf, q.1) := by
  obtain ⟨a, h1, h2, h3, h4, h5, h6, h7, h8⟩ := hq
  by_cases c : (q.2 = 1 ∨ q.2 = 3 ∨ q.2 = 4) ∧ stk bf ln q.1
  · have n32 : bf q.1 ≠ 32 := by have := c.2.2; omega
    have ea : a = q.1 := Classical.byContradiction fun z => n32 (h4 q.1 (Nat.le_refl _) (by omega))
    refine ⟨by rw [h1, ea], by omega, ?_⟩
    rw [tkA_in (p := q.1) (skB_eq (Nat.le_refl _) (by omega) (fun j x y => absurd y (by omega)) (fun _ => n32)) c.2.1, if_pos rfl]
    exact tkB_bad c.2.2 c.1
  · exact absurd (h5.trans (zi_0.mpr c)) h0
theorem ziA {c : Prop} [Decidable c] {k : Prop} [Decidable k] (h : c) : zi (decide k) = zi (decide (c ∧ k)) := by
  by_cases z : k
  · rw [decide_eq_true z, decide_eq_true (⟨h, z⟩ : c ∧ k)]
  · rw [decide_eq_false z, decide_eq_false (fun y : c ∧ k => z y.2)]
theorem rtP_num (hq : rtQ bf ln s q) (h0 : s.1 36 = 0) (hsk : skB bf ln q.1 = p) (hqp : q.1 ≤ p) (hp : p < ln) (hd : isDgI (bf p)) (hD : dgP bf ln s1 t (p + rnL dgB bf ln 18 p) (dvI bf p (rnL dgB bf ln 18 p))) (s39 : s1.1 39 = (p : Int)) (s37 : s1.1 37 = s.1 37) : rtP bf ln t q (tkA bf ln fn q) := by
  have nb := rtQ_nst hq h0 ⟨hp, Or.inl hd⟩
  have hk := (tkA_in (fn := fn) hsk hp).trans (tkB_dg hd nb)
  have he := tkB_e (fn := fn) (bh := bhQ q p) hp (by rw [tkB_dg hd nb]; exact (show (1 : Nat) ≠ 8 by decide))
  rw [tkB_dg hd nb] at he
  have he1 : p < p + rnL dgB bf ln 18 p := he.2.1
  have he2 : p + rnL dgB bf ln 18 p ≤ ln := he.2.2.1
  obtain ⟨d1, d2, d3, d4, d5, d6, d7⟩ := hD
  obtain ⟨a, h1, h2, h3, h4, h5, h6, h7, h8⟩ := hq
  rw [hk]
  refine ⟨d2, d7.trans s39, ⟨fun _ => d4, fun y => absurd (show (1 : Nat) = 3 ∨ (1 : Nat) = 4 from y) (by decide), fun y => absurd (show (1 : Nat) = 2 ∨ (1 : Nat) = 5 ∨ (1 : Nat) = 6 ∨ (1 : Nat) = 7 from y) (by decide)⟩, ?_⟩
  show rtQ bf ln t (p + rnL dgB bf ln 18 p, 1)
  refine rtQ_e d3 he2 (d5.trans (ziA (Or.inl rfl))) (by rw [d6, s37]; omega) ?_ (by rw [d6, s37]; exact h8)
  rw [d6, s37]
  exact ⟨fun y => by omega, fun y => absurd y (by decide)⟩
theorem rtP_neg (hq : rtQ bf ln s q) (hsk : skB bf ln q.1 = p) (hqp : q.1 ≤ p) (hp : p < ln) (hd : bf p = 95) (hd2 : isDgI (byA bf ln ((p + 1 : Nat) : Int))) (hD : dgP bf ln s1 t (p + 1 + rnL dgB bf ln 18 (p + 1)) (- dvI bf (p + 1) (rnL dgB bf ln 18 (p + 1)))) (s39 : s1.1 39 = (p : Int)) (s37 : s1.1 37 = s.1 37) : rtP bf ln t q (tkA bf ln fn q) := by
  have hk := (tkA_in (fn := fn) hsk hp).trans (tkB_ng hd hd2)
  have he := tkB_e (fn := fn) (bh := bhQ q p) hp (by rw [tkB_ng hd hd2]; exact (show (1 : Nat) ≠ 8 by decide))
  rw [tkB_ng hd hd2] at he
  have he1 : p < p + 1 + rnL dgB bf ln 18 (p + 1) := he.2.1
  have he2 : p + 1 + rnL dgB bf ln 18 (p + 1) ≤ ln := he.2.2.1
  obtain ⟨d1, d2, d3, d4, d5, d6, d7⟩ := hD
  obtain ⟨a, h1, h2, h3, h4, h5, h6, h7, h8⟩ := hq
  rw [hk]
  refine ⟨d2, d7.trans s39, ⟨fun _ => d4, fun y => absurd (show (1 : Nat) = 3 ∨ (1 : Nat) = 4 from y) (by decide), fun y => absurd (show (1 : Nat) = 2 ∨ (1 : Nat) = 5 ∨ (1 : Nat) = 6 ∨ (1 : Nat) = 7 from y) (by decide)⟩, ?_⟩
  show rtQ bf ln t (p + 1 + rnL dgB bf ln 18 (p + 1), 1)
  refine rtQ_e d3 he2 (d5.trans (ziA (Or.inl rfl))) (by rw [d6, s37]; omega) ?_ (by rw [d6, s37]; exact h8)
  rw [d6, s37]
  exact ⟨fun y => by omega, fun y => absurd y (by decide)⟩
theorem rtP_let {m : Nat} (hq : rtQ bf ln s q) (h0 : s.1 36 = 0) (hsk : skB bf ln q.1 = p) (hqp : q.1 ≤ p) (hp : p < ln) (hd : isLtI (bf p)) (hf : fn (ckI bf p (rnL ltB bf ln 8 p)) = true ↔ fnR s1 m (Int64.ofInt (rkI bf p (rnL ltB bf ln 8 p)))) (hD : ltP bf ln s1 t m (p + rnL ltB bf ln 8 p) (rkI bf p (rnL ltB bf ln 8 p))) (s39 : s1.1 39 = (p : Int)) (s37 : s1.1 37 = s.1 37) : rtP bf ln t q (tkA bf ln fn q) := by
  have nb := rtQ_nst hq h0 ⟨hp, Or.inr hd⟩
  have hk := (tkA_in (fn := fn) hsk hp).trans (tkB_lt hd nb)
  have he := tkB_e (fn := fn) (bh := bhQ q p) hp (by rw [tkB_lt hd nb]; show (if _ then 4 else 3) ≠ 8; split <;> decide)
  rw [tkB_lt hd nb] at he
  have he1 : p < p + rnL ltB bf ln 8 p := he.2.1
  have he2 : p + rnL ltB bf ln 8 p ≤ ln := he.2.2.1
  obtain ⟨d1, d3, d4, d5, d7, d8⟩ := hD
  obtain ⟨a, h1, h2, h3, h4, h5, h6, h7, h8⟩ := hq
  rw [hk]
  rcases d8 with ⟨f1, f2, f3⟩ | ⟨f1, f2, f3⟩
  · rw [if_pos (hf.mpr f1)]
    refine ⟨f2, d7.trans s39, ⟨fun y => absurd (show (4 : Nat) = 1 from y) (by decide), fun _ => d4, fun y => absurd (show (4 : Nat) = 2 ∨ (4 : Nat) = 5 ∨ (4 : Nat) = 6 ∨ (4 : Nat) = 7 from y) (by decide)⟩, ?_⟩
    show rtQ bf ln t (p + rnL ltB bf ln 8 p, 4)
    refine rtQ_e d3 he2 (d5.trans (ziA (Or.inr (Or.inr rfl)))) (by rw [f3]; omega) ?_ (by rw [f3]; omega)
    rw [f3]
    exact ⟨fun _ => Or.inl rfl, fun _ => rfl⟩
  · rw [if_neg (fun z => f1 (hf.mp z))]
    refine ⟨f2, d7.trans s39, ⟨fun y => absurd (show (3 : Nat) = 1 from y) (by decide), fun _ => d4, fun y => absurd (show (3 : Nat) = 2 ∨ (3 : Nat) = 5 ∨ (3 : Nat) = 6 ∨ (3 : Nat) = 7 from y) (by decide)⟩, ?_⟩
    show rtQ bf ln t (p + rnL ltB bf ln 8 p, 3)
    refine rtQ_e d3 he2 (d5.trans (ziA (Or.inr (Or.inl rfl)))) (by rw [f3, s37]; omega) ?_ (by rw [f3, s37]; exact h8)
    rw [f3, s37]
    exact ⟨fun y => by omega, fun y => absurd y (by decide)⟩
theorem rtP_txt (hq : rtQ bf ln s q) (h0 : s.1 36 = 0) (hsk : skB bf ln q.1 = p) (hb : blR bf q.1 p) (hqp : q.1 ≤ p) (hp : p < ln) (hd : bf p = 39) (ha : s.1 37 ≠ (p : Int)) (hD : qtP s1 t p (rnL txB bf ln 60 (p + 1)) (0 < rnL txB bf ln 60 (p + 1) ∧ byA bf ln ((p + 1 + rnL txB bf ln 60 (p + 1) : Nat) : Int) = 39)) (s36 : s1.1 36 = s.1 36) (s39 : s1.1 39 = (p : Int)) (s37 : s1.1 37 = s.1 37) : rtP bf ln t q (tkA bf ln fn q) := by
  have nb : ¬ (bhQ q p = 4 ∨ bhQ q p = 5 ∨ bhQ q p = 6) := fun z => ha ((rtQ_ace hq hqp).mpr z)
  obtain ⟨d1, d5, d6, d7, d8⟩ := hD
  rcases d8 with ⟨f1, f2, f4, f3⟩ | ⟨f1, f2, f3⟩
  · have hk := (tkA_in (fn := fn) hsk hp).trans (tkB_tx hd nb f1)
    have he := tkB_e (fn := fn) (bh := bhQ q p) hp (by rw [tkB_tx hd nb f1]; exact (show (2 : Nat) ≠ 8 by decide))
    rw [tkB_tx hd nb f1] at he
    have he1 : p < p + 1 + rnL txB bf ln 60 (p + 1) + 1 := he.2.1
    have he2 : p + 1 + rnL txB bf ln 60 (p + 1) + 1 ≤ ln := he.2.2.1
    obtain ⟨a, h1, h2, h3, h4, h5, h6, h7, h8⟩ := hq
    rw [hk]
    refine ⟨f2, d7.trans s39, ⟨fun y => absurd (show (2 : Nat) = 1 from y) (by decide), fun y => absurd (show (2 : Nat) = 3 ∨ (2 : Nat) = 4 from y) (by decide), fun _ => f4⟩, ?_⟩
    show rtQ bf ln t (p + 1 + rnL txB bf ln 60 (p + 1) + 1, 2)
    refine rtQ_e f3 he2 (by rw [d5, s36, h0, decide_eq_false (fun z => absurd z.1 (by decide))]; rfl) (by rw [d6, s37]; omega) ?_ (by rw [d6, s37]; exact h8)
    rw [d6, s37]
    exact ⟨fun y => by omega, fun y => absurd y (by decide)⟩
  · exact rtP_8 (s := s) hq (Or.inr rfl) ((tkA_in (fn := fn) hsk hp).trans (tkB_tn hd nb f1)) hb hqp (by omega) f2 (d7.trans s39) f3 (d5.trans s36) (d6.trans s37)
theorem rtP_sig {c : Nat} (hq : rtQ bf ln s q) (h0 : s.1 36 = 0) (hsk : skB bf ln q.1 = p) (hqp : q.1 ≤ p) (hp : p < ln) (h1 : ¬ (isDgI (bf p) ∨ isLtI (bf p))) (h2 : ¬ (bf p = 95 ∧ isDgI (byA bf ln ((p + 1 : Nat) : Int)))) (h3 : bf p ≠ 39 ∨ s.1 37 = (p : Int)) (hc : sobI (bf p) = (c : Int)) (hc2 : c = 5 ∨ c = 6 ∨ c = 7) (t38 : t.1 38 = (c : Int)) (t39 : t.1 39 = (p : Int)) (t40 : t.1 40 = bf p) (t35 : t.1 35 = ((p + 1 : Nat) : Int)) (t36 : t.1 36 = s.1 36) (t37 : (c = 7 ∧ t.1 37 = s.1 37) ∨ (c ≠ 7 ∧ t.1 37 = ((p + 1 : Nat) : Int))) : rtP bf ln t q (tkA bf ln fn q) := by
  have nb : ¬ (bf p = 39 ∧ ¬ (bhQ q p = 4 ∨ bhQ q p = 5 ∨ bhQ q p = 6)) := fun z => by
    rcases h3 with y | y
    · exact y z.1
    · exact z.2 ((rtQ_ace hq hqp).mp y)
  have hk := (tkA_in (fn := fn) hsk hp).trans (tkB_sg h1 h2 nb (by omega))
  rw [hc, show ((c : Int)).toNat = c by omega] at hk
  obtain ⟨a, g1, g2, g3, g4, g5, g6, g7, g8⟩ := hq
  rw [hk]
  refine ⟨t38, t39, ⟨fun y => absurd (show c = 1 from y) (by omega), fun y => absurd (show c = 3 ∨ c = 4 from y) (by omega), fun _ => t40⟩, ?_⟩
  have e : tkN q (c, p, bf p, 0, bf, p + 1) = (p + 1, c) := if_neg (show ¬ (c = 0 ∨ c = 8) by omega)
  rw [e]
  refine rtQ_e t35 (by omega) (by rw [t36, h0, decide_eq_false (fun z => absurd z.1 (by omega))]; rfl) (by rcases t37 with y | y <;> omega) ?_ (by rcases t37 with y | y <;> omega)
  rcases t37 with y | y
  · rw [y.2]; exact ⟨fun z => by omega, fun z => by omega⟩
  · rw [y.2]; exact ⟨fun _ => by omega, fun _ => rfl⟩
theorem rtP_unk (hq : rtQ bf ln s q) (hsk : skB bf ln q.1 = p) (hb : blR bf q.1 p) (hqp : q.1 ≤ p) (hp : p < ln) (h1 : ¬ (isDgI (bf p) ∨ isLtI (bf p))) (h2 : ¬ (bf p = 95 ∧ isDgI (byA bf ln ((p + 1 : Nat) : Int)))) (h3 : bf p ≠ 39 ∨ s.1 37 = (p : Int)) (hc : sobI (bf p) = 0) (t38 : t.1 38 = 8) (t39 : t.1 39 = (p : Int)) (t35 : t.1 35 = (p : Int)) (t36 : t.1 36 = s.1 36) (t37 : t.1 37 = s.1 37) : rtP bf ln t q (tkA bf ln fn q) := by
  have nb : ¬ (bf p = 39 ∧ ¬ (bhQ q p = 4 ∨ bhQ q p = 5 ∨ bhQ q p = 6)) := fun z => by
    rcases h3 with y | y
    · exact y z.1
    · exact z.2 ((rtQ_ace hq hqp).mp y)
  exact rtP_8 hq (Or.inr rfl) ((tkA_in (fn := fn) hsk hp).trans (tkB_no h1 h2 nb hc)) hb hqp (by omega) t38 t39 t35 t36 t37
end rtPs
set_option maxRecDepth 20000 in
theorem pm_X12_isMark : mj_mmof pg_ms 213 = some ((⟨"ArrayCalculatorModel", "isMark", "(I)Z"⟩, prog_14_method_72_code, 1, (Option.some Jvm.ClassFile.FieldType.boolean)), 12, false, mj_dec prog_14_method_72_code) := rfl
theorem dm_X12_isMark_0 : mj_dec prog_14_method_72_code 0 = some (.iload_n 0, 1) := by decide +kernel
theorem dm_X12_isMark_1 : mj_dec prog_14_method_72_code 1 = some (.bipush 59, 2) := by decide +kernel
theorem dm_X12_isMark_3 : mj_dec prog_14_method_72_code 3 = some (.if_icmp .eq 45, 3) := by decide +kernel
theorem dm_X12_isMark_6 : mj_dec prog_14_method_72_code 6 = some (.iload_n 0, 1) := by decide +kernel
theorem dm_X12_isMark_7 : mj_dec prog_14_method_72_code 7 = some (.bipush 40, 2) := by decide +kernel
theorem dm_X12_isMark_9 : mj_dec prog_14_method_72_code 9 = some (.if_icmp .eq 39, 3) := by decide +kernel
theorem dm_X12_isMark_12 : mj_dec prog_14_method_72_code 12 = some (.iload_n 0, 1) := by decide +kernel
theorem dm_X12_isMark_13 : mj_dec prog_14_method_72_code 13 = some (.bipush 41, 2) := by decide +kernel
theorem dm_X12_isMark_15 : mj_dec prog_14_method_72_code 15 = some (.if_icmp .eq 33, 3) := by decide +kernel
theorem dm_X12_isMark_18 : mj_dec prog_14_method_72_code 18 = some (.iload_n 0, 1) := by decide +kernel
theorem dm_X12_isMark_19 : mj_dec prog_14_method_72_code 19 = some (.bipush 91, 2) := by decide +kernel
theorem dm_X12_isMark_21 : mj_dec prog_14_method_72_code 21 = some (.if_icmp .eq 27, 3) := by decide +kernel
theorem dm_X12_isMark_24 : mj_dec prog_14_method_72_code 24 = some (.iload_n 0, 1) := by decide +kernel
theorem dm_X12_isMark_25 : mj_dec prog_14_method_72_code 25 = some (.bipush 93, 2) := by decide +kernel
theorem dm_X12_isMark_27 : mj_dec prog_14_method_72_code 27 = some (.if_icmp .eq 21, 3) := by decide +kernel
theorem dm_X12_isMark_30 : mj_dec prog_14_method_72_code 30 = some (.iload_n 0, 1) := by decide +kernel
theorem dm_X12_isMark_31 : mj_dec prog_14_method_72_code 31 = some (.bipush 123, 2) := by decide +kernel
theorem dm_X12_isMark_33 : mj_dec prog_14_method_72_code 33 = some (.if_icmp .eq 15, 3) := by decide +kernel
theorem dm_X12_isMark_36 : mj_dec prog_14_method_72_code 36 = some (.iload_n 0, 1) := by decide +kernel
theorem dm_X12_isMark_37 : mj_dec prog_14_method_72_code 37 = some (.bipush 125, 2) := by decide +kernel
theorem dm_X12_isMark_39 : mj_dec prog_14_method_72_code 39 = some (.if_icmp .eq 9, 3) := by decide +kernel
theorem dm_X12_isMark_42 : mj_dec prog_14_method_72_code 42 = some (.iload_n 0, 1) := by decide +kernel
theorem dm_X12_isMark_43 : mj_dec prog_14_method_72_code 43 = some (.bipush 58, 2) := by decide +kernel
theorem dm_X12_isMark_45 : mj_dec prog_14_method_72_code 45 = some (.if_icmp .ne 7, 3) := by decide +kernel
theorem dm_X12_isMark_48 : mj_dec prog_14_method_72_code 48 = some (.iconst 1, 1) := by decide +kernel
theorem dm_X12_isMark_49 : mj_dec prog_14_method_72_code 49 = some (.goto 4, 3) := by decide +kernel
theorem dm_X12_isMark_52 : mj_dec prog_14_method_72_code 52 = some (.iconst 0, 1) := by decide +kernel
theorem dm_X12_isMark_53 : mj_dec prog_14_method_72_code 53 = some (.ireturn, 1) := by decide +kernel
theorem r_isMark_ {xt : mj_X} {d : Nat} {h : mj_H} {c : Int} (hd : 1 ≤ d) (hc : -2147483648 ≤ c ∧ c ≤ 2147483647) : pgP xt d 213 [ii c] h (zz (mrB c)) := by
  refine x_enter pm_X12_isMark (L0 := [(0, ii c)]) rfl (Nat.le_of_ble_eq_true rfl) (by omega) ?_
  refine me1 (pc' := 1) (L' := [(0, ii c)]) (S' := [ii c]) dm_X12_isMark_0 rfl rfl rfl rfl ?_
  refine me0 (pc' := 3) (S' := [ii 59, ii c]) dm_X12_isMark_1 rfl rfl rfl rfl ?_
  refine y_2eq (a := c) (b := 59) (t := 48) (pc' := 6) dm_X12_isMark_3 rfl rfl (by omega) (fun hb1 => ?_) (fun hb1 => ?_)
  · refine me0 (pc' := 49) (S' := [ii 1]) dm_X12_isMark_48 rfl rfl rfl rfl ?_
    refine me2 (pc' := 53) (S' := [ii 1]) dm_X12_isMark_49 rfl rfl rfl ?_
    refine y_ret (r := some (ii 1)) dm_X12_isMark_53 rfl rfl rfl ?_
    exact ⟨congrArg some (by unfold mrB; exact zt (by omega)), rfl⟩
  · refine me1 (pc' := 7) (L' := [(0, ii c)]) (S' := [ii c]) dm_X12_isMark_6 rfl rfl rfl rfl ?_
    refine me0 (pc' := 9) (S' := [ii 40, ii c]) dm_X12_isMark_7 rfl rfl rfl rfl ?_
    refine y_2eq (a := c) (b := 40) (t := 48) (pc' := 12) dm_X12_isMark_9 rfl rfl (by omega) (fun hb2 => ?_) (fun hb2 => ?_)
    · refine me0 (pc' := 49) (S' := [ii 1]) dm_X12_isMark_48 rfl rfl rfl rfl ?_
      refine me2 (pc' := 53) (S' := [ii 1]) dm_X12_isMark_49 rfl rfl rfl ?_
      refine y_ret (r := some (ii 1)) dm_X12_isMark_53 rfl rfl rfl ?_
      exact ⟨congrArg some (by unfold mrB; exact zt (by omega)), rfl⟩
    · refine me1 (pc' := 13) (L' := [(0, ii c)]) (S' := [ii c]) dm_X12_isMark_12 rfl rfl rfl rfl ?_
      refine me0 (pc' := 15) (S' := [ii 41, ii c]) dm_X12_isMark_13 rfl rfl rfl rfl ?_
      refine y_2eq (a := c) (b := 41) (t := 48) (pc' := 18) dm_X12_isMark_15 rfl rfl (by omega) (fun hb3 => ?_) (fun hb3 => ?_)
      · refine me0 (pc' := 49) (S' := [ii 1]) dm_X12_isMark_48 rfl rfl rfl rfl ?_
        refine me2 (pc' := 53) (S' := [ii 1]) dm_X12_isMark_49 rfl rfl rfl ?_
        refine y_ret (r := some (ii 1)) dm_X12_isMark_53 rfl rfl rfl ?_
        exact ⟨congrArg some (by unfold mrB; exact zt (by omega)), rfl⟩
      · refine me1 (pc' := 19) (L' := [(0, ii c)]) (S' := [ii c]) dm_X12_isMark_18 rfl rfl rfl rfl ?_
        refine me0 (pc' := 21) (S' := [ii 91, ii c]) dm_X12_isMark_19 rfl rfl rfl rfl ?_
        refine y_2eq (a := c) (b := 91) (t := 48) (pc' := 24) dm_X12_isMark_21 rfl rfl (by omega) (fun hb4 => ?_) (fun hb4 => ?_)
        · refine me0 (pc' := 49) (S' := [ii 1]) dm_X12_isMark_48 rfl rfl rfl rfl ?_
          refine me2 (pc' := 53) (S' := [ii 1]) dm_X12_isMark_49 rfl rfl rfl ?_
          refine y_ret (r := some (ii 1)) dm_X12_isMark_53 rfl rfl rfl ?_
          exact ⟨congrArg some (by unfold mrB; exact zt (by omega)), rfl⟩
        · refine me1 (pc' := 25) (L' := [(0, ii c)]) (S' := [ii c]) dm_X12_isMark_24 rfl rfl rfl rfl ?_
          refine me0 (pc' := 27) (S' := [ii 93, ii c]) dm_X12_isMark_25 rfl rfl rfl rfl ?_
          refine y_2eq (a := c) (b := 93) (t := 48) (pc' := 30) dm_X12_isMark_27 rfl rfl (by omega) (fun hb5 => ?_) (fun hb5 => ?_)
          · refine me0 (pc' := 49) (S' := [ii 1]) dm_X12_isMark_48 rfl rfl rfl rfl ?_
            refine me2 (pc' := 53) (S' := [ii 1]) dm_X12_isMark_49 rfl rfl rfl ?_
            refine y_ret (r := some (ii 1)) dm_X12_isMark_53 rfl rfl rfl ?_
            exact ⟨congrArg some (by unfold mrB; exact zt (by omega)), rfl⟩
          · refine me1 (pc' := 31) (L' := [(0, ii c)]) (S' := [ii c]) dm_X12_isMark_30 rfl rfl rfl rfl ?_
            refine me0 (pc' := 33) (S' := [ii 123, ii c]) dm_X12_isMark_31 rfl rfl rfl rfl ?_
            refine y_2eq (a := c) (b := 123) (t := 48) (pc' := 36) dm_X12_isMark_33 rfl rfl (by omega) (fun hb6 => ?_) (fun hb6 => ?_)
            · refine me0 (pc' := 49) (S' := [ii 1]) dm_X12_isMark_48 rfl rfl rfl rfl ?_
              refine me2 (pc' := 53) (S' := [ii 1]) dm_X12_isMark_49 rfl rfl rfl ?_
              refine y_ret (r := some (ii 1)) dm_X12_isMark_53 rfl rfl rfl ?_
              exact ⟨congrArg some (by unfold mrB; exact zt (by omega)), rfl⟩
            · refine me1 (pc' := 37) (L' := [(0, ii c)]) (S' := [ii c]) dm_X12_isMark_36 rfl rfl rfl rfl ?_
              refine me0 (pc' := 39) (S' := [ii 125, ii c]) dm_X12_isMark_37 rfl rfl rfl rfl ?_
              refine y_2eq (a := c) (b := 125) (t := 48) (pc' := 42) dm_X12_isMark_39 rfl rfl (by omega) (fun hb7 => ?_) (fun hb7 => ?_)
              · refine me0 (pc' := 49) (S' := [ii 1]) dm_X12_isMark_48 rfl rfl rfl rfl ?_
                refine me2 (pc' := 53) (S' := [ii 1]) dm_X12_isMark_49 rfl rfl rfl ?_
                refine y_ret (r := some (ii 1)) dm_X12_isMark_53 rfl rfl rfl ?_
                exact ⟨congrArg some (by unfold mrB; exact zt (by omega)), rfl⟩
              · refine me1 (pc' := 43) (L' := [(0, ii c)]) (S' := [ii c]) dm_X12_isMark_42 rfl rfl rfl rfl ?_
                refine me0 (pc' := 45) (S' := [ii 58, ii c]) dm_X12_isMark_43 rfl rfl rfl rfl ?_
                refine y_2ne (a := c) (b := 58) (t := 52) (pc' := 48) dm_X12_isMark_45 rfl rfl (by omega) (fun hb8 => ?_) (fun hb8 => ?_)
                · refine me0 (pc' := 53) (S' := [ii 0]) dm_X12_isMark_52 rfl rfl rfl rfl ?_
                  refine y_ret (r := some (ii 0)) dm_X12_isMark_53 rfl rfl rfl ?_
                  exact ⟨congrArg some (by unfold mrB; exact zf (by omega)), rfl⟩
                · refine me0 (pc' := 49) (S' := [ii 1]) dm_X12_isMark_48 rfl rfl rfl rfl ?_
                  refine me2 (pc' := 53) (S' := [ii 1]) dm_X12_isMark_49 rfl rfl rfl ?_
                  refine y_ret (r := some (ii 1)) dm_X12_isMark_53 rfl rfl rfl ?_
                  exact ⟨congrArg some (by unfold mrB; exact zt (by omega)), rfl⟩
set_option maxRecDepth 20000 in
theorem pm_X12_digits : mj_mmof pg_ms 208 = some ((⟨"ArrayCalculatorModel", "digits", "(Z)V"⟩, prog_14_method_74_code, 3, (Option.none : Option Jvm.ClassFile.FieldType)), 12, false, mj_dec prog_14_method_74_code) := rfl
theorem dm_X12_digits_0 : mj_dec prog_14_method_74_code 0 = some (.aload_n 0, 1) := by decide +kernel
theorem dm_X12_digits_1 : mj_dec prog_14_method_74_code 1 = some (.iconst 1, 1) := by decide +kernel
theorem dm_X12_digits_2 : mj_dec prog_14_method_74_code 2 = some (.putfield 380, 3) := by decide +kernel
theorem dm_X12_digits_5 : mj_dec prog_14_method_74_code 5 = some (.iload_n 1, 1) := by decide +kernel
theorem dm_X12_digits_6 : mj_dec prog_14_method_74_code 6 = some (.ifCond .eq 13, 3) := by decide +kernel
theorem dm_X12_digits_19 : mj_dec prog_14_method_74_code 19 = some (.aload_n 0, 1) := by decide +kernel
theorem dm_X12_digits_20 : mj_dec prog_14_method_74_code 20 = some (.lconst 0, 1) := by decide +kernel
theorem dm_X12_digits_21 : mj_dec prog_14_method_74_code 21 = some (.putfield 417, 3) := by decide +kernel
theorem dm_X12_digits_24 : mj_dec prog_14_method_74_code 24 = some (.iconst 0, 1) := by decide +kernel
theorem dm_X12_digits_25 : mj_dec prog_14_method_74_code 25 = some (.istore_n 2, 1) := by decide +kernel
theorem dm_X12_digits_26 : mj_dec prog_14_method_74_code 26 = some (.iload_n 2, 1) := by decide +kernel
theorem dm_X12_digits_27 : mj_dec prog_14_method_74_code 27 = some (.bipush 18, 2) := by decide +kernel
theorem dm_X12_digits_29 : mj_dec prog_14_method_74_code 29 = some (.if_icmp .ge 56, 3) := by decide +kernel
theorem dm_X12_digits_32 : mj_dec prog_14_method_74_code 32 = some (.aload_n 0, 1) := by decide +kernel
theorem dm_X12_digits_33 : mj_dec prog_14_method_74_code 33 = some (.aload_n 0, 1) := by decide +kernel
theorem dm_X12_digits_34 : mj_dec prog_14_method_74_code 34 = some (.getfield 383, 3) := by decide +kernel
theorem dm_X12_digits_37 : mj_dec prog_14_method_74_code 37 = some (.invokevirtual 389, 3) := by decide +kernel
theorem dm_X12_digits_40 : mj_dec prog_14_method_74_code 40 = some (.ifCond .eq 45, 3) := by decide +kernel
theorem dm_X12_digits_43 : mj_dec prog_14_method_74_code 43 = some (.aload_n 0, 1) := by decide +kernel
theorem dm_X12_digits_44 : mj_dec prog_14_method_74_code 44 = some (.ldc2_w 279, 3) := by decide +kernel
theorem dm_X12_digits_47 : mj_dec prog_14_method_74_code 47 = some (.aload_n 0, 1) := by decide +kernel
theorem dm_X12_digits_48 : mj_dec prog_14_method_74_code 48 = some (.getfield 417, 3) := by decide +kernel
theorem dm_X12_digits_51 : mj_dec prog_14_method_74_code 51 = some (.lmul, 1) := by decide +kernel
theorem dm_X12_digits_52 : mj_dec prog_14_method_74_code 52 = some (.aload_n 0, 1) := by decide +kernel
theorem dm_X12_digits_53 : mj_dec prog_14_method_74_code 53 = some (.aload_n 0, 1) := by decide +kernel
theorem dm_X12_digits_54 : mj_dec prog_14_method_74_code 54 = some (.getfield 383, 3) := by decide +kernel
theorem dm_X12_digits_57 : mj_dec prog_14_method_74_code 57 = some (.invokevirtual 373, 3) := by decide +kernel
theorem dm_X12_digits_60 : mj_dec prog_14_method_74_code 60 = some (.i2l, 1) := by decide +kernel
theorem dm_X12_digits_61 : mj_dec prog_14_method_74_code 61 = some (.ladd, 1) := by decide +kernel
theorem dm_X12_digits_62 : mj_dec prog_14_method_74_code 62 = some (.ldc2_w 275, 3) := by decide +kernel
theorem dm_X12_digits_65 : mj_dec prog_14_method_74_code 65 = some (.lsub, 1) := by decide +kernel
theorem dm_X12_digits_66 : mj_dec prog_14_method_74_code 66 = some (.putfield 417, 3) := by decide +kernel
theorem dm_X12_digits_69 : mj_dec prog_14_method_74_code 69 = some (.aload_n 0, 1) := by decide +kernel
theorem dm_X12_digits_70 : mj_dec prog_14_method_74_code 70 = some (.dup, 1) := by decide +kernel
theorem dm_X12_digits_71 : mj_dec prog_14_method_74_code 71 = some (.getfield 383, 3) := by decide +kernel
theorem dm_X12_digits_74 : mj_dec prog_14_method_74_code 74 = some (.iconst 1, 1) := by decide +kernel
theorem dm_X12_digits_75 : mj_dec prog_14_method_74_code 75 = some (.iadd, 1) := by decide +kernel
theorem dm_X12_digits_76 : mj_dec prog_14_method_74_code 76 = some (.putfield 383, 3) := by decide +kernel
theorem dm_X12_digits_79 : mj_dec prog_14_method_74_code 79 = some (.iinc 2 1, 3) := by decide +kernel
theorem dm_X12_digits_82 : mj_dec prog_14_method_74_code 82 = some (.goto (-56), 3) := by decide +kernel
theorem dm_X12_digits_85 : mj_dec prog_14_method_74_code 85 = some (.iload_n 1, 1) := by decide +kernel
theorem dm_X12_digits_86 : mj_dec prog_14_method_74_code 86 = some (.ifCond .eq 12, 3) := by decide +kernel
theorem dm_X12_digits_98 : mj_dec prog_14_method_74_code 98 = some (.aload_n 0, 1) := by decide +kernel
theorem dm_X12_digits_99 : mj_dec prog_14_method_74_code 99 = some (.aload_n 0, 1) := by decide +kernel
theorem dm_X12_digits_100 : mj_dec prog_14_method_74_code 100 = some (.aload_n 0, 1) := by decide +kernel
theorem dm_X12_digits_101 : mj_dec prog_14_method_74_code 101 = some (.getfield 383, 3) := by decide +kernel
theorem dm_X12_digits_104 : mj_dec prog_14_method_74_code 104 = some (.invokevirtual 389, 3) := by decide +kernel
theorem dm_X12_digits_107 : mj_dec prog_14_method_74_code 107 = some (.ifCond .ne 14, 3) := by decide +kernel
theorem dm_X12_digits_110 : mj_dec prog_14_method_74_code 110 = some (.aload_n 0, 1) := by decide +kernel
theorem dm_X12_digits_111 : mj_dec prog_14_method_74_code 111 = some (.aload_n 0, 1) := by decide +kernel
theorem dm_X12_digits_112 : mj_dec prog_14_method_74_code 112 = some (.getfield 383, 3) := by decide +kernel
theorem dm_X12_digits_115 : mj_dec prog_14_method_74_code 115 = some (.invokevirtual 396, 3) := by decide +kernel
theorem dm_X12_digits_118 : mj_dec prog_14_method_74_code 118 = some (.ifCond .eq 7, 3) := by decide +kernel
theorem dm_X12_digits_121 : mj_dec prog_14_method_74_code 121 = some (.iconst 1, 1) := by decide +kernel
theorem dm_X12_digits_122 : mj_dec prog_14_method_74_code 122 = some (.goto 4, 3) := by decide +kernel
theorem dm_X12_digits_125 : mj_dec prog_14_method_74_code 125 = some (.iconst 0, 1) := by decide +kernel
theorem dm_X12_digits_126 : mj_dec prog_14_method_74_code 126 = some (.putfield 376, 3) := by decide +kernel
theorem dm_X12_digits_129 : mj_dec prog_14_method_74_code 129 = some (.return_, 1) := by decide +kernel
theorem r_digits0_ {xt : mj_X} {d : Nat} {pre post : mj_H} {s : RS} {bf : Nat → Int} {ln : Nat} (hm : pre.length = 102) (hd : 3 ≤ d) (hP : tpR s bf ln) {fr : Nat} (h35 : s.1 35 = ((fr : Nat) : Int)) (hfr : fr ≤ 300) : pgN xt d 208 [.ref 102, ii 0] (rS pre post s) (fun h' => ∃ t, h' = rS pre post t ∧ dgP bf ln s t (fr + (rnL dgB bf ln 18 fr)) (dvI bf fr (rnL dgB bf ln 18 fr))) := by
  refine x_enter pm_X12_digits (L0 := [(0, .ref 102), (1, ii 0)]) rfl (Nat.le_of_ble_eq_true rfl) (by omega) ?_
  refine me1 (pc' := 1) (L' := [(0, .ref 102), (1, ii 0)]) (S' := [.ref 102]) dm_X12_digits_0 rfl rfl rfl rfl ?_
  refine me0 (pc' := 2) (S' := [ii 1, .ref 102]) dm_X12_digits_1 rfl rfl rfl rfl ?_
  refine me3 (pc' := 5) (S' := []) (h1 := rI pre post (va_up s.1 38 1) s.2.1 s.2.2.1 s.2.2.2) dm_X12_digits_2 (q_puti hm rfl rfl (fun m i l v => rf_38 m i l v)) rfl rfl rfl ?_
  refine me1 (pc' := 6) (L' := [(0, .ref 102), (1, ii 0)]) (S' := [ii 0]) dm_X12_digits_5 rfl rfl rfl rfl ?_
  refine me_1t (pc' := 19) dm_X12_digits_6 rfl (by decide) ?_
  refine me1 (pc' := 20) (L' := [(0, .ref 102), (1, ii 0)]) (S' := [.ref 102]) dm_X12_digits_19 rfl rfl rfl rfl ?_
  refine me0 (pc' := 21) (S' := [.long (Int64.ofInt 0), .ref 102]) dm_X12_digits_20 rfl rfl rfl rfl ?_
  refine me3 (pc' := 24) (S' := []) (h1 := rI pre post (va_up s.1 38 1) (va_up s.2.1 41 (Int64.ofInt 0)) s.2.2.1 s.2.2.2) dm_X12_digits_21 (q_putl hm rfl rfl (fun m i l v => rf_41 m i l v)) rfl rfl rfl ?_
  refine me0 (pc' := 25) (S' := [ii 0]) dm_X12_digits_24 rfl rfl rfl rfl ?_
  refine me1 (pc' := 26) (L' := [(2, ii 0), (0, .ref 102), (1, ii 0)]) (S' := []) dm_X12_digits_25 rfl rfl rfl rfl ?_
  have lp26 : ∀ (n26 : Nat) (k : Nat) (t : RS), 18 - k = n26 → (k ≤ 18) → (∀ j, fr ≤ j → j < fr + k → j < ln ∧ dgB (bf j) = true) → (dgL bf s t fr k) → pgE xt (d - 1) 12 3 false (Option.none : Option Jvm.ClassFile.FieldType) (mj_dec prog_14_method_74_code) 26 [(2, ii ((k : Nat) : Int)), (0, .ref 102), (1, ii 0)] [] (rI pre post t.1 t.2.1 t.2.2.1 t.2.2.2) (fun r h' => r = none ∧ ∃ t, h' = rS pre post t ∧ dgP bf ln s t (fr + (rnL dgB bf ln 18 fr)) (dvI bf fr (rnL dgB bf ln 18 fr))) := by
    intro n26
    induction n26 using Nat.strongRecOn with
    | ind n26 ih26 =>
      intro k t hm26 hk hrun hl
      obtain ⟨l1, l2, l3, l4, l5, l6⟩ := id hl
      have hPt := tpR_k hP l1
      refine me1 (pc' := 27) (L' := [(2, ii ((k : Nat) : Int)), (0, .ref 102), (1, ii 0)]) (S' := [ii ((k : Nat) : Int)]) dm_X12_digits_26 rfl rfl rfl rfl ?_
      refine me0 (pc' := 29) (S' := [ii 18, ii ((k : Nat) : Int)]) dm_X12_digits_27 rfl rfl rfl rfl ?_
      refine y_2ge (a := ((k : Nat) : Int)) (b := 18) (t := 85) (pc' := 32) dm_X12_digits_29 rfl rfl (by omega) (fun hb1 => ?_) (fun hb1 => ?_)
      · have hn : (rnL dgB bf ln 18 fr) = k := rnL_eq 18 fr k hk hrun (Or.inl (by omega))
        refine me1 (pc' := 86) (L' := [(2, ii ((k : Nat) : Int)), (0, .ref 102), (1, ii 0)]) (S' := [ii 0]) dm_X12_digits_85 rfl rfl rfl rfl ?_
        refine me_1t (pc' := 98) dm_X12_digits_86 rfl (by decide) ?_
        refine me1 (pc' := 99) (L' := [(2, ii ((k : Nat) : Int)), (0, .ref 102), (1, ii 0)]) (S' := [.ref 102]) dm_X12_digits_98 rfl rfl rfl rfl ?_
        refine me1 (pc' := 100) (L' := [(2, ii ((k : Nat) : Int)), (0, .ref 102), (1, ii 0)]) (S' := [.ref 102, .ref 102]) dm_X12_digits_99 rfl rfl rfl rfl ?_
        refine me1 (pc' := 101) (L' := [(2, ii ((k : Nat) : Int)), (0, .ref 102), (1, ii 0)]) (S' := [.ref 102, .ref 102, .ref 102]) dm_X12_digits_100 rfl rfl rfl rfl ?_
        refine me3 (pc' := 104) (S' := [ii (t.1 35), .ref 102, .ref 102]) dm_X12_digits_101 (q_geti (v := t.1 35) hm rfl (fun m i l => rg_35 m i l) rfl) rfl rfl rfl ?_
        have hy1P : tpR t bf ln := tpR_k hP (l1)
        have hy1r := byR_r t (t.1 35)
        have hy1 : byR t (t.1 35) = byO bf ln (fr + k) := by rw [show (t.1 35 : Int) = ((fr + k : Nat) : Int) by first | rfl | omega]; exact tpR_by hy1P
        refine x_cp (pc' := 107) (v := zz (decide (48 ≤ byR t (t.1 35) ∧ byR t (t.1 35) ≤ 57))) (rest := [.ref 102]) dm_X12_digits_104 rfl (q_inv (As := [ii (t.1 35)]) (S := [.ref 102]) hm rfl rfl rfl) rfl rfl rfl (r_isDigit_ (s := t) (i := t.1 35) hm (by omega) (by omega) (by have := hy1P.1; have := hy1P.2.1; omega) hy1P.2.2.1) ?_
        refine y_zne (c := decide (48 ≤ byR t (t.1 35) ∧ byR t (t.1 35) ≤ 57)) (t := 121) (pc' := 110) dm_X12_digits_107 rfl rfl (fun hb2 => ?_) (fun hb2 => ?_)
        · replace hb2 := dT hb2
          rw [hy1] at hb2
          refine me0 (pc' := 122) (S' := [ii 1, .ref 102]) dm_X12_digits_121 rfl rfl rfl rfl ?_
          refine me2 (pc' := 126) (S' := [ii 1, .ref 102]) dm_X12_digits_122 rfl rfl rfl ?_
          refine me3 (pc' := 129) (S' := []) (h1 := rI pre post (va_up t.1 36 (zi true)) t.2.1 t.2.2.1 t.2.2.2) dm_X12_digits_126 (q_putz (c := true) hm rfl rfl (fun m i l v => rf_36 m i l v)) rfl rfl rfl ?_
          refine y_ret (r := none) dm_X12_digits_129 rfl rfl rfl ?_
          refine ⟨rfl, (va_up t.1 36 (zi true), t.2.1, t.2.2.1, t.2.2.2), rfl, ?_⟩
          rw [hn]
          refine ⟨rtk_i (j := 36) (by decide) (l1), l2, l3, l4, ?_, l5, l6⟩
          show zi true = _
          first | rw [decide_eq_true (stk_O.mpr (by omega))] | rw [decide_eq_false (fun z => absurd (stk_O.mp z) (by omega))]
        · replace hb2 := dF hb2
          rw [hy1] at hb2
          refine me1 (pc' := 111) (L' := [(2, ii ((k : Nat) : Int)), (0, .ref 102), (1, ii 0)]) (S' := [.ref 102, .ref 102]) dm_X12_digits_110 rfl rfl rfl rfl ?_
          refine me1 (pc' := 112) (L' := [(2, ii ((k : Nat) : Int)), (0, .ref 102), (1, ii 0)]) (S' := [.ref 102, .ref 102, .ref 102]) dm_X12_digits_111 rfl rfl rfl rfl ?_
          refine me3 (pc' := 115) (S' := [ii (t.1 35), .ref 102, .ref 102]) dm_X12_digits_112 (q_geti (v := t.1 35) hm rfl (fun m i l => rg_35 m i l) rfl) rfl rfl rfl ?_
          have hy2P : tpR t bf ln := tpR_k hP (l1)
          have hy2r := byR_r t (t.1 35)
          have hy2 : byR t (t.1 35) = byO bf ln (fr + k) := by rw [show (t.1 35 : Int) = ((fr + k : Nat) : Int) by first | rfl | omega]; exact tpR_by hy2P
          refine x_cp (pc' := 118) (v := zz (decide (97 ≤ byR t (t.1 35) ∧ byR t (t.1 35) ≤ 122))) (rest := [.ref 102]) dm_X12_digits_115 rfl (q_inv (As := [ii (t.1 35)]) (S := [.ref 102]) hm rfl rfl rfl) rfl rfl rfl (r_isLetter_ (s := t) (i := t.1 35) hm (by omega) (by omega) (by have := hy2P.1; have := hy2P.2.1; omega) hy2P.2.2.1) ?_
          refine y_zeq (c := decide (97 ≤ byR t (t.1 35) ∧ byR t (t.1 35) ≤ 122)) (t := 125) (pc' := 121) dm_X12_digits_118 rfl rfl (fun hb3 => ?_) (fun hb3 => ?_)
          · replace hb3 := dF hb3
            rw [hy2] at hb3
            refine me0 (pc' := 126) (S' := [ii 0, .ref 102]) dm_X12_digits_125 rfl rfl rfl rfl ?_
            refine me3 (pc' := 129) (S' := []) (h1 := rI pre post (va_up t.1 36 (zi false)) t.2.1 t.2.2.1 t.2.2.2) dm_X12_digits_126 (q_putz (c := false) hm rfl rfl (fun m i l v => rf_36 m i l v)) rfl rfl rfl ?_
            refine y_ret (r := none) dm_X12_digits_129 rfl rfl rfl ?_
            refine ⟨rfl, (va_up t.1 36 (zi false), t.2.1, t.2.2.1, t.2.2.2), rfl, ?_⟩
            rw [hn]
            refine ⟨rtk_i (j := 36) (by decide) (l1), l2, l3, l4, ?_, l5, l6⟩
            show zi false = _
            first | rw [decide_eq_true (stk_O.mpr (by omega))] | rw [decide_eq_false (fun z => absurd (stk_O.mp z) (by omega))]
          · replace hb3 := dT hb3
            rw [hy2] at hb3
            refine me0 (pc' := 122) (S' := [ii 1, .ref 102]) dm_X12_digits_121 rfl rfl rfl rfl ?_
            refine me2 (pc' := 126) (S' := [ii 1, .ref 102]) dm_X12_digits_122 rfl rfl rfl ?_
            refine me3 (pc' := 129) (S' := []) (h1 := rI pre post (va_up t.1 36 (zi true)) t.2.1 t.2.2.1 t.2.2.2) dm_X12_digits_126 (q_putz (c := true) hm rfl rfl (fun m i l v => rf_36 m i l v)) rfl rfl rfl ?_
            refine y_ret (r := none) dm_X12_digits_129 rfl rfl rfl ?_
            refine ⟨rfl, (va_up t.1 36 (zi true), t.2.1, t.2.2.1, t.2.2.2), rfl, ?_⟩
            rw [hn]
            refine ⟨rtk_i (j := 36) (by decide) (l1), l2, l3, l4, ?_, l5, l6⟩
            show zi true = _
            first | rw [decide_eq_true (stk_O.mpr (by omega))] | rw [decide_eq_false (fun z => absurd (stk_O.mp z) (by omega))]
      · refine me1 (pc' := 33) (L' := [(2, ii ((k : Nat) : Int)), (0, .ref 102), (1, ii 0)]) (S' := [.ref 102]) dm_X12_digits_32 rfl rfl rfl rfl ?_
        refine me1 (pc' := 34) (L' := [(2, ii ((k : Nat) : Int)), (0, .ref 102), (1, ii 0)]) (S' := [.ref 102, .ref 102]) dm_X12_digits_33 rfl rfl rfl rfl ?_
        refine me3 (pc' := 37) (S' := [ii (t.1 35), .ref 102]) dm_X12_digits_34 (q_geti (v := t.1 35) hm rfl (fun m i l => rg_35 m i l) rfl) rfl rfl rfl ?_
        have hy1P : tpR t bf ln := tpR_k hP (l1)
        have hy1r := byR_r t (t.1 35)
        have hy1 : byR t (t.1 35) = byO bf ln (fr + k) := by rw [show (t.1 35 : Int) = ((fr + k : Nat) : Int) by first | rfl | omega]; exact tpR_by hy1P
        refine x_cp (pc' := 40) (v := zz (decide (48 ≤ byR t (t.1 35) ∧ byR t (t.1 35) ≤ 57))) (rest := []) dm_X12_digits_37 rfl (q_inv (As := [ii (t.1 35)]) (S := []) hm rfl rfl rfl) rfl rfl rfl (r_isDigit_ (s := t) (i := t.1 35) hm (by omega) (by omega) (by have := hy1P.1; have := hy1P.2.1; omega) hy1P.2.2.1) ?_
        refine y_zeq (c := decide (48 ≤ byR t (t.1 35) ∧ byR t (t.1 35) ≤ 57)) (t := 85) (pc' := 43) dm_X12_digits_40 rfl rfl (fun hb4 => ?_) (fun hb4 => ?_)
        · replace hb4 := dF hb4
          rw [hy1] at hb4
          have hn : (rnL dgB bf ln 18 fr) = k := rnL_eq 18 fr k hk hrun (Or.inr (fun z => by have z2 := of_decide_eq_true z.2; rw [← byO_in (bf := bf) z.1] at z2; exact hb4 z2))
          refine me1 (pc' := 86) (L' := [(2, ii ((k : Nat) : Int)), (0, .ref 102), (1, ii 0)]) (S' := [ii 0]) dm_X12_digits_85 rfl rfl rfl rfl ?_
          refine me_1t (pc' := 98) dm_X12_digits_86 rfl (by decide) ?_
          refine me1 (pc' := 99) (L' := [(2, ii ((k : Nat) : Int)), (0, .ref 102), (1, ii 0)]) (S' := [.ref 102]) dm_X12_digits_98 rfl rfl rfl rfl ?_
          refine me1 (pc' := 100) (L' := [(2, ii ((k : Nat) : Int)), (0, .ref 102), (1, ii 0)]) (S' := [.ref 102, .ref 102]) dm_X12_digits_99 rfl rfl rfl rfl ?_
          refine me1 (pc' := 101) (L' := [(2, ii ((k : Nat) : Int)), (0, .ref 102), (1, ii 0)]) (S' := [.ref 102, .ref 102, .ref 102]) dm_X12_digits_100 rfl rfl rfl rfl ?_
          refine me3 (pc' := 104) (S' := [ii (t.1 35), .ref 102, .ref 102]) dm_X12_digits_101 (q_geti (v := t.1 35) hm rfl (fun m i l => rg_35 m i l) rfl) rfl rfl rfl ?_
          have hy2P : tpR t bf ln := tpR_k hP (l1)
          have hy2r := byR_r t (t.1 35)
          have hy2 : byR t (t.1 35) = byO bf ln (fr + k) := by rw [show (t.1 35 : Int) = ((fr + k : Nat) : Int) by first | rfl | omega]; exact tpR_by hy2P
          refine x_cp (pc' := 107) (v := zz (decide (48 ≤ byR t (t.1 35) ∧ byR t (t.1 35) ≤ 57))) (rest := [.ref 102]) dm_X12_digits_104 rfl (q_inv (As := [ii (t.1 35)]) (S := [.ref 102]) hm rfl rfl rfl) rfl rfl rfl (r_isDigit_ (s := t) (i := t.1 35) hm (by omega) (by omega) (by have := hy2P.1; have := hy2P.2.1; omega) hy2P.2.2.1) ?_
          refine y_zne (c := decide (48 ≤ byR t (t.1 35) ∧ byR t (t.1 35) ≤ 57)) (t := 121) (pc' := 110) dm_X12_digits_107 rfl rfl (fun hb5 => ?_) (fun hb5 => ?_)
          · replace hb5 := dT hb5
            rw [hy2] at hb5
            refine me0 (pc' := 122) (S' := [ii 1, .ref 102]) dm_X12_digits_121 rfl rfl rfl rfl ?_
            refine me2 (pc' := 126) (S' := [ii 1, .ref 102]) dm_X12_digits_122 rfl rfl rfl ?_
            refine me3 (pc' := 129) (S' := []) (h1 := rI pre post (va_up t.1 36 (zi true)) t.2.1 t.2.2.1 t.2.2.2) dm_X12_digits_126 (q_putz (c := true) hm rfl rfl (fun m i l v => rf_36 m i l v)) rfl rfl rfl ?_
            refine y_ret (r := none) dm_X12_digits_129 rfl rfl rfl ?_
            refine ⟨rfl, (va_up t.1 36 (zi true), t.2.1, t.2.2.1, t.2.2.2), rfl, ?_⟩
            rw [hn]
            refine ⟨rtk_i (j := 36) (by decide) (l1), l2, l3, l4, ?_, l5, l6⟩
            show zi true = _
            first | rw [decide_eq_true (stk_O.mpr (by omega))] | rw [decide_eq_false (fun z => absurd (stk_O.mp z) (by omega))]
          · replace hb5 := dF hb5
            rw [hy2] at hb5
            refine me1 (pc' := 111) (L' := [(2, ii ((k : Nat) : Int)), (0, .ref 102), (1, ii 0)]) (S' := [.ref 102, .ref 102]) dm_X12_digits_110 rfl rfl rfl rfl ?_
            refine me1 (pc' := 112) (L' := [(2, ii ((k : Nat) : Int)), (0, .ref 102), (1, ii 0)]) (S' := [.ref 102, .ref 102, .ref 102]) dm_X12_digits_111 rfl rfl rfl rfl ?_
            refine me3 (pc' := 115) (S' := [ii (t.1 35), .ref 102, .ref 102]) dm_X12_digits_112 (q_geti (v := t.1 35) hm rfl (fun m i l => rg_35 m i l) rfl) rfl rfl rfl ?_
            have hy3P : tpR t bf ln := tpR_k hP (l1)
            have hy3r := byR_r t (t.1 35)
            have hy3 : byR t (t.1 35) = byO bf ln (fr + k) := by rw [show (t.1 35 : Int) = ((fr + k : Nat) : Int) by first | rfl | omega]; exact tpR_by hy3P
            refine x_cp (pc' := 118) (v := zz (decide (97 ≤ byR t (t.1 35) ∧ byR t (t.1 35) ≤ 122))) (rest := [.ref 102]) dm_X12_digits_115 rfl (q_inv (As := [ii (t.1 35)]) (S := [.ref 102]) hm rfl rfl rfl) rfl rfl rfl (r_isLetter_ (s := t) (i := t.1 35) hm (by omega) (by omega) (by have := hy3P.1; have := hy3P.2.1; omega) hy3P.2.2.1) ?_
            refine y_zeq (c := decide (97 ≤ byR t (t.1 35) ∧ byR t (t.1 35) ≤ 122)) (t := 125) (pc' := 121) dm_X12_digits_118 rfl rfl (fun hb6 => ?_) (fun hb6 => ?_)
            · replace hb6 := dF hb6
              rw [hy3] at hb6
              refine me0 (pc' := 126) (S' := [ii 0, .ref 102]) dm_X12_digits_125 rfl rfl rfl rfl ?_
              refine me3 (pc' := 129) (S' := []) (h1 := rI pre post (va_up t.1 36 (zi false)) t.2.1 t.2.2.1 t.2.2.2) dm_X12_digits_126 (q_putz (c := false) hm rfl rfl (fun m i l v => rf_36 m i l v)) rfl rfl rfl ?_
              refine y_ret (r := none) dm_X12_digits_129 rfl rfl rfl ?_
              refine ⟨rfl, (va_up t.1 36 (zi false), t.2.1, t.2.2.1, t.2.2.2), rfl, ?_⟩
              rw [hn]
              refine ⟨rtk_i (j := 36) (by decide) (l1), l2, l3, l4, ?_, l5, l6⟩
              show zi false = _
              first | rw [decide_eq_true (stk_O.mpr (by omega))] | rw [decide_eq_false (fun z => absurd (stk_O.mp z) (by omega))]
            · replace hb6 := dT hb6
              rw [hy3] at hb6
              refine me0 (pc' := 122) (S' := [ii 1, .ref 102]) dm_X12_digits_121 rfl rfl rfl rfl ?_
              refine me2 (pc' := 126) (S' := [ii 1, .ref 102]) dm_X12_digits_122 rfl rfl rfl ?_
              refine me3 (pc' := 129) (S' := []) (h1 := rI pre post (va_up t.1 36 (zi true)) t.2.1 t.2.2.1 t.2.2.2) dm_X12_digits_126 (q_putz (c := true) hm rfl rfl (fun m i l v => rf_36 m i l v)) rfl rfl rfl ?_
              refine y_ret (r := none) dm_X12_digits_129 rfl rfl rfl ?_
              refine ⟨rfl, (va_up t.1 36 (zi true), t.2.1, t.2.2.1, t.2.2.2), rfl, ?_⟩
              rw [hn]
              refine ⟨rtk_i (j := 36) (by decide) (l1), l2, l3, l4, ?_, l5, l6⟩
              show zi true = _
              first | rw [decide_eq_true (stk_O.mpr (by omega))] | rw [decide_eq_false (fun z => absurd (stk_O.mp z) (by omega))]
        · replace hb4 := dT hb4
          rw [hy1] at hb4
          have hin : fr + k < ln := Classical.byContradiction fun z => by have z2 := byO_out (bf := bf) (Nat.le_of_not_lt z); omega
          have hbi := byO_in (bf := bf) hin
          have hby : byR t (t.1 35) = bf (fr + k) := hy1.trans hbi
          have hrun1 : ∀ j, fr ≤ j → j < fr + (k + 1) → j < ln ∧ dgB (bf j) = true := fun j h1 h2 => by by_cases z : j = fr + k; (rw [z]; exact ⟨hin, decide_eq_true (by rw [← hbi]; exact hb4)⟩); exact hrun j h1 (by omega)
          refine me1 (pc' := 44) (L' := [(2, ii ((k : Nat) : Int)), (0, .ref 102), (1, ii 0)]) (S' := [.ref 102]) dm_X12_digits_43 rfl rfl rfl rfl ?_
          refine me3 (pc' := 47) (S' := [.long (Int64.ofInt 10), .ref 102]) dm_X12_digits_44 rfl rfl rfl rfl ?_
          refine me1 (pc' := 48) (L' := [(2, ii ((k : Nat) : Int)), (0, .ref 102), (1, ii 0)]) (S' := [.ref 102, .long (Int64.ofInt 10), .ref 102]) dm_X12_digits_47 rfl rfl rfl rfl ?_
          refine me3 (pc' := 51) (S' := [.long (t.2.1 41), .long (Int64.ofInt 10), .ref 102]) dm_X12_digits_48 (q_getl (v := t.2.1 41) hm rfl (fun m i l => rg_41 m i l) rfl) rfl rfl rfl ?_
          refine me0 (pc' := 52) (S' := [.long ((Int64.ofInt 10) * (t.2.1 41)), .ref 102]) dm_X12_digits_51 rfl rfl rfl rfl ?_
          refine me1 (pc' := 53) (L' := [(2, ii ((k : Nat) : Int)), (0, .ref 102), (1, ii 0)]) (S' := [.ref 102, .long ((Int64.ofInt 10) * (t.2.1 41)), .ref 102]) dm_X12_digits_52 rfl rfl rfl rfl ?_
          refine me1 (pc' := 54) (L' := [(2, ii ((k : Nat) : Int)), (0, .ref 102), (1, ii 0)]) (S' := [.ref 102, .ref 102, .long ((Int64.ofInt 10) * (t.2.1 41)), .ref 102]) dm_X12_digits_53 rfl rfl rfl rfl ?_
          refine me3 (pc' := 57) (S' := [ii (t.1 35), .ref 102, .long ((Int64.ofInt 10) * (t.2.1 41)), .ref 102]) dm_X12_digits_54 (q_geti (v := t.1 35) hm rfl (fun m i l => rg_35 m i l) rfl) rfl rfl rfl ?_
          have hy2P : tpR t bf ln := tpR_k hP (l1)
          have hy2r := byR_r t (t.1 35)
          have hy2 : byR t (t.1 35) = byO bf ln (fr + k) := by rw [show (t.1 35 : Int) = ((fr + k : Nat) : Int) by first | rfl | omega]; exact tpR_by hy2P
          refine x_cp (pc' := 60) (v := ii (byR t (t.1 35))) (rest := [.long ((Int64.ofInt 10) * (t.2.1 41)), .ref 102]) dm_X12_digits_57 rfl (q_inv (As := [ii (t.1 35)]) (S := [.long ((Int64.ofInt 10) * (t.2.1 41)), .ref 102]) hm rfl rfl rfl) rfl rfl rfl (r_byteAt_ (s := t) (i := t.1 35) hm (by omega) (by omega) (by have := hy2P.1; have := hy2P.2.1; omega) hy2P.2.2.1) ?_
          refine y_i2l (a := byR t (t.1 35)) dm_X12_digits_60 (pc' := 61) rfl (by omega) (by omega) ?_
          refine me0 (pc' := 62) (S' := [.long (((Int64.ofInt 10) * (t.2.1 41)) + (Int64.ofInt (byR t (t.1 35)))), .ref 102]) dm_X12_digits_61 rfl rfl rfl rfl ?_
          refine me3 (pc' := 65) (S' := [.long (Int64.ofInt 48), .long (((Int64.ofInt 10) * (t.2.1 41)) + (Int64.ofInt (byR t (t.1 35)))), .ref 102]) dm_X12_digits_62 rfl rfl rfl rfl ?_
          refine me0 (pc' := 66) (S' := [.long ((((Int64.ofInt 10) * (t.2.1 41)) + (Int64.ofInt (byR t (t.1 35)))) - (Int64.ofInt 48)), .ref 102]) dm_X12_digits_65 rfl rfl rfl rfl ?_
          refine me3 (pc' := 69) (S' := []) (h1 := rI pre post t.1 (va_up t.2.1 41 ((((Int64.ofInt 10) * (t.2.1 41)) + (Int64.ofInt (byR t (t.1 35)))) - (Int64.ofInt 48))) t.2.2.1 t.2.2.2) dm_X12_digits_66 (q_putl hm rfl rfl (fun m i l v => rf_41 m i l v)) rfl rfl rfl ?_
          refine me1 (pc' := 70) (L' := [(2, ii ((k : Nat) : Int)), (0, .ref 102), (1, ii 0)]) (S' := [.ref 102]) dm_X12_digits_69 rfl rfl rfl rfl ?_
          refine me0 (pc' := 71) (S' := [.ref 102, .ref 102]) dm_X12_digits_70 rfl rfl rfl rfl ?_
          refine me3 (pc' := 74) (S' := [ii (t.1 35), .ref 102]) dm_X12_digits_71 (q_geti (v := t.1 35) hm rfl (fun m i l => rg_35 m i l) rfl) rfl rfl rfl ?_
          refine me0 (pc' := 75) (S' := [ii 1, ii (t.1 35), .ref 102]) dm_X12_digits_74 rfl rfl rfl rfl ?_
          refine y_iadd (a := t.1 35) (b := 1) dm_X12_digits_75 (pc' := 76) rfl ?_
          refine me3 (pc' := 79) (S' := []) (h1 := rI pre post (va_up t.1 35 ((t.1 35) + 1)) (va_up t.2.1 41 ((((Int64.ofInt 10) * (t.2.1 41)) + (Int64.ofInt (byR t (t.1 35)))) - (Int64.ofInt 48))) t.2.2.1 t.2.2.2) dm_X12_digits_76 (q_puti hm rfl rfl (fun m i l v => rf_35 m i l v)) rfl rfl rfl ?_
          refine y_iinc (pc' := 82) (L' := [(2, ii (((k : Nat) : Int) + 1)), (0, .ref 102), (1, ii 0)]) dm_X12_digits_79 (y_incp (a := ((k : Nat) : Int)) (c := 1) rfl rfl (by decide)) rfl ?_
          refine me2 (pc' := 26) (S' := []) dm_X12_digits_82 rfl rfl rfl ?_
          exact pg_sub (L := [(2, ii (((k + 1) : Nat) : Int)), (0, .ref 102), (1, ii 0)]) rfl rfl rfl (ih26 (18 - (k + 1)) (by omega) (k + 1) (va_up t.1 35 ((t.1 35) + 1), va_up t.2.1 41 ((((Int64.ofInt 10) * (t.2.1 41)) + (Int64.ofInt (byR t (t.1 35)))) - (Int64.ofInt 48)), t.2.2.1, t.2.2.2) rfl (by omega) hrun1 ⟨rtk_l (rtk_i (j := 35) (by decide) (l1)), l2, (show t.1 35 + 1 = _ by omega), (by show Int64.ofInt 10 * t.2.1 41 + Int64.ofInt (byR t (t.1 35)) - Int64.ofInt 48 = _; rw [l4]; exact dv_64r hby), l5, l6⟩)
  exact pg_sub (L := [(2, ii ((0 : Nat) : Int)), (0, .ref 102), (1, ii 0)]) rfl rfl rfl (lp26 _ 0 (va_up s.1 38 1, va_up s.2.1 41 (Int64.ofInt 0), s.2.2.1, s.2.2.2) rfl (by decide) (fun j h1 h2 => absurd h2 (by omega)) ⟨rtk_l (rtk_i (j := 38) (by decide) (rtk_rf s)), rfl, h35, rfl, rfl, rfl⟩)
theorem dm_X12_digits_9 : mj_dec prog_14_method_74_code 9 = some (.aload_n 0, 1) := by decide +kernel
theorem dm_X12_digits_10 : mj_dec prog_14_method_74_code 10 = some (.dup, 1) := by decide +kernel
theorem dm_X12_digits_11 : mj_dec prog_14_method_74_code 11 = some (.getfield 383, 3) := by decide +kernel
theorem dm_X12_digits_14 : mj_dec prog_14_method_74_code 14 = some (.iconst 1, 1) := by decide +kernel
theorem dm_X12_digits_15 : mj_dec prog_14_method_74_code 15 = some (.iadd, 1) := by decide +kernel
theorem dm_X12_digits_16 : mj_dec prog_14_method_74_code 16 = some (.putfield 383, 3) := by decide +kernel
theorem dm_X12_digits_89 : mj_dec prog_14_method_74_code 89 = some (.aload_n 0, 1) := by decide +kernel
theorem dm_X12_digits_90 : mj_dec prog_14_method_74_code 90 = some (.aload_n 0, 1) := by decide +kernel
theorem dm_X12_digits_91 : mj_dec prog_14_method_74_code 91 = some (.getfield 417, 3) := by decide +kernel
theorem dm_X12_digits_94 : mj_dec prog_14_method_74_code 94 = some (.lneg, 1) := by decide +kernel
theorem dm_X12_digits_95 : mj_dec prog_14_method_74_code 95 = some (.putfield 417, 3) := by decide +kernel
theorem r_digits1_ {xt : mj_X} {d : Nat} {pre post : mj_H} {s : RS} {bf : Nat → Int} {ln : Nat} (hm : pre.length = 102) (hd : 3 ≤ d) (hP : tpR s bf ln) {fr : Nat} (h35 : s.1 35 = ((fr : Nat) : Int) - 1) (hfr : fr ≤ 300) : pgN xt d 208 [.ref 102, ii 1] (rS pre post s) (fun h' => ∃ t, h' = rS pre post t ∧ dgP bf ln s t (fr + (rnL dgB bf ln 18 fr)) (- dvI bf fr (rnL dgB bf ln 18 fr))) := by
  refine x_enter pm_X12_digits (L0 := [(0, .ref 102), (1, ii 1)]) rfl (Nat.le_of_ble_eq_true rfl) (by omega) ?_
  refine me1 (pc' := 1) (L' := [(0, .ref 102), (1, ii 1)]) (S' := [.ref 102]) dm_X12_digits_0 rfl rfl rfl rfl ?_
  refine me0 (pc' := 2) (S' := [ii 1, .ref 102]) dm_X12_digits_1 rfl rfl rfl rfl ?_
  refine me3 (pc' := 5) (S' := []) (h1 := rI pre post (va_up s.1 38 1) s.2.1 s.2.2.1 s.2.2.2) dm_X12_digits_2 (q_puti hm rfl rfl (fun m i l v => rf_38 m i l v)) rfl rfl rfl ?_
  refine me1 (pc' := 6) (L' := [(0, .ref 102), (1, ii 1)]) (S' := [ii 1]) dm_X12_digits_5 rfl rfl rfl rfl ?_
  refine me_1f (pc' := 9) dm_X12_digits_6 rfl (by decide) rfl ?_
  refine me1 (pc' := 10) (L' := [(0, .ref 102), (1, ii 1)]) (S' := [.ref 102]) dm_X12_digits_9 rfl rfl rfl rfl ?_
  refine me0 (pc' := 11) (S' := [.ref 102, .ref 102]) dm_X12_digits_10 rfl rfl rfl rfl ?_
  refine me3 (pc' := 14) (S' := [ii (s.1 35), .ref 102]) dm_X12_digits_11 (q_geti (v := s.1 35) hm rfl (fun m i l => rg_35 m i l) rfl) rfl rfl rfl ?_
  refine me0 (pc' := 15) (S' := [ii 1, ii (s.1 35), .ref 102]) dm_X12_digits_14 rfl rfl rfl rfl ?_
  refine y_iadd (a := s.1 35) (b := 1) dm_X12_digits_15 (pc' := 16) rfl ?_
  refine me3 (pc' := 19) (S' := []) (h1 := rI pre post (va_up (va_up s.1 38 1) 35 ((s.1 35) + 1)) s.2.1 s.2.2.1 s.2.2.2) dm_X12_digits_16 (q_puti hm rfl rfl (fun m i l v => rf_35 m i l v)) rfl rfl rfl ?_
  refine me1 (pc' := 20) (L' := [(0, .ref 102), (1, ii 1)]) (S' := [.ref 102]) dm_X12_digits_19 rfl rfl rfl rfl ?_
  refine me0 (pc' := 21) (S' := [.long (Int64.ofInt 0), .ref 102]) dm_X12_digits_20 rfl rfl rfl rfl ?_
  refine me3 (pc' := 24) (S' := []) (h1 := rI pre post (va_up (va_up s.1 38 1) 35 ((s.1 35) + 1)) (va_up s.2.1 41 (Int64.ofInt 0)) s.2.2.1 s.2.2.2) dm_X12_digits_21 (q_putl hm rfl rfl (fun m i l v => rf_41 m i l v)) rfl rfl rfl ?_
  refine me0 (pc' := 25) (S' := [ii 0]) dm_X12_digits_24 rfl rfl rfl rfl ?_
  refine me1 (pc' := 26) (L' := [(2, ii 0), (0, .ref 102), (1, ii 1)]) (S' := []) dm_X12_digits_25 rfl rfl rfl rfl ?_
  have lp26 : ∀ (n26 : Nat) (k : Nat) (t : RS), 18 - k = n26 → (k ≤ 18) → (∀ j, fr ≤ j → j < fr + k → j < ln ∧ dgB (bf j) = true) → (dgL bf s t fr k) → pgE xt (d - 1) 12 3 false (Option.none : Option Jvm.ClassFile.FieldType) (mj_dec prog_14_method_74_code) 26 [(2, ii ((k : Nat) : Int)), (0, .ref 102), (1, ii 1)] [] (rI pre post t.1 t.2.1 t.2.2.1 t.2.2.2) (fun r h' => r = none ∧ ∃ t, h' = rS pre post t ∧ dgP bf ln s t (fr + (rnL dgB bf ln 18 fr)) (- dvI bf fr (rnL dgB bf ln 18 fr))) := by
    intro n26
    induction n26 using Nat.strongRecOn with
    | ind n26 ih26 =>
      intro k t hm26 hk hrun hl
      obtain ⟨l1, l2, l3, l4, l5, l6⟩ := id hl
      have hPt := tpR_k hP l1
      refine me1 (pc' := 27) (L' := [(2, ii ((k : Nat) : Int)), (0, .ref 102), (1, ii 1)]) (S' := [ii ((k : Nat) : Int)]) dm_X12_digits_26 rfl rfl rfl rfl ?_
      refine me0 (pc' := 29) (S' := [ii 18, ii ((k : Nat) : Int)]) dm_X12_digits_27 rfl rfl rfl rfl ?_
      refine y_2ge (a := ((k : Nat) : Int)) (b := 18) (t := 85) (pc' := 32) dm_X12_digits_29 rfl rfl (by omega) (fun hb1 => ?_) (fun hb1 => ?_)
      · have hn : (rnL dgB bf ln 18 fr) = k := rnL_eq 18 fr k hk hrun (Or.inl (by omega))
        refine me1 (pc' := 86) (L' := [(2, ii ((k : Nat) : Int)), (0, .ref 102), (1, ii 1)]) (S' := [ii 1]) dm_X12_digits_85 rfl rfl rfl rfl ?_
        refine me_1f (pc' := 89) dm_X12_digits_86 rfl (by decide) rfl ?_
        refine me1 (pc' := 90) (L' := [(2, ii ((k : Nat) : Int)), (0, .ref 102), (1, ii 1)]) (S' := [.ref 102]) dm_X12_digits_89 rfl rfl rfl rfl ?_
        refine me1 (pc' := 91) (L' := [(2, ii ((k : Nat) : Int)), (0, .ref 102), (1, ii 1)]) (S' := [.ref 102, .ref 102]) dm_X12_digits_90 rfl rfl rfl rfl ?_
        refine me3 (pc' := 94) (S' := [.long (t.2.1 41), .ref 102]) dm_X12_digits_91 (q_getl (v := t.2.1 41) hm rfl (fun m i l => rg_41 m i l) rfl) rfl rfl rfl ?_
        refine me0 (pc' := 95) (S' := [.long (-(t.2.1 41)), .ref 102]) dm_X12_digits_94 rfl rfl rfl rfl ?_
        refine me3 (pc' := 98) (S' := []) (h1 := rI pre post t.1 (va_up t.2.1 41 (-(t.2.1 41))) t.2.2.1 t.2.2.2) dm_X12_digits_95 (q_putl hm rfl rfl (fun m i l v => rf_41 m i l v)) rfl rfl rfl ?_
        refine me1 (pc' := 99) (L' := [(2, ii ((k : Nat) : Int)), (0, .ref 102), (1, ii 1)]) (S' := [.ref 102]) dm_X12_digits_98 rfl rfl rfl rfl ?_
        refine me1 (pc' := 100) (L' := [(2, ii ((k : Nat) : Int)), (0, .ref 102), (1, ii 1)]) (S' := [.ref 102, .ref 102]) dm_X12_digits_99 rfl rfl rfl rfl ?_
        refine me1 (pc' := 101) (L' := [(2, ii ((k : Nat) : Int)), (0, .ref 102), (1, ii 1)]) (S' := [.ref 102, .ref 102, .ref 102]) dm_X12_digits_100 rfl rfl rfl rfl ?_
        refine me3 (pc' := 104) (S' := [ii (t.1 35), .ref 102, .ref 102]) dm_X12_digits_101 (q_geti (v := t.1 35) hm rfl (fun m i l => rg_35 m i l) rfl) rfl rfl rfl ?_
        have hy1P : tpR (t.1, va_up t.2.1 41 (-(t.2.1 41)), t.2.2.1, t.2.2.2) bf ln := tpR_k hP (rtk_l (l1))
        have hy1r := byR_r (t.1, va_up t.2.1 41 (-(t.2.1 41)), t.2.2.1, t.2.2.2) (t.1 35)
        have hy1 : byR (t.1, va_up t.2.1 41 (-(t.2.1 41)), t.2.2.1, t.2.2.2) (t.1 35) = byO bf ln (fr + k) := by rw [show (t.1 35 : Int) = ((fr + k : Nat) : Int) by first | rfl | omega]; exact tpR_by hy1P
        refine x_cp (pc' := 107) (v := zz (decide (48 ≤ byR (t.1, va_up t.2.1 41 (-(t.2.1 41)), t.2.2.1, t.2.2.2) (t.1 35) ∧ byR (t.1, va_up t.2.1 41 (-(t.2.1 41)), t.2.2.1, t.2.2.2) (t.1 35) ≤ 57))) (rest := [.ref 102]) dm_X12_digits_104 rfl (q_inv (As := [ii (t.1 35)]) (S := [.ref 102]) hm rfl rfl rfl) rfl rfl rfl (r_isDigit_ (s := (t.1, va_up t.2.1 41 (-(t.2.1 41)), t.2.2.1, t.2.2.2)) (i := t.1 35) hm (by omega) (by omega) (by have := hy1P.1; have := hy1P.2.1; omega) hy1P.2.2.1) ?_
        refine y_zne (c := decide (48 ≤ byR (t.1, va_up t.2.1 41 (-(t.2.1 41)), t.2.2.1, t.2.2.2) (t.1 35) ∧ byR (t.1, va_up t.2.1 41 (-(t.2.1 41)), t.2.2.1, t.2.2.2) (t.1 35) ≤ 57)) (t := 121) (pc' := 110) dm_X12_digits_107 rfl rfl (fun hb2 => ?_) (fun hb2 => ?_)
        · replace hb2 := dT hb2
          rw [hy1] at hb2
          refine me0 (pc' := 122) (S' := [ii 1, .ref 102]) dm_X12_digits_121 rfl rfl rfl rfl ?_
          refine me2 (pc' := 126) (S' := [ii 1, .ref 102]) dm_X12_digits_122 rfl rfl rfl ?_
          refine me3 (pc' := 129) (S' := []) (h1 := rI pre post (va_up t.1 36 (zi true)) (va_up t.2.1 41 (-(t.2.1 41))) t.2.2.1 t.2.2.2) dm_X12_digits_126 (q_putz (c := true) hm rfl rfl (fun m i l v => rf_36 m i l v)) rfl rfl rfl ?_
          refine y_ret (r := none) dm_X12_digits_129 rfl rfl rfl ?_
          refine ⟨rfl, (va_up t.1 36 (zi true), va_up t.2.1 41 (-(t.2.1 41)), t.2.2.1, t.2.2.2), rfl, ?_⟩
          rw [hn]
          refine ⟨rtk_l (rtk_i (j := 36) (by decide) (l1)), l2, l3, (by show - t.2.1 41 = _; rw [l4, Int64.ofInt_neg]), ?_, l5, l6⟩
          show zi true = _
          first | rw [decide_eq_true (stk_O.mpr (by omega))] | rw [decide_eq_false (fun z => absurd (stk_O.mp z) (by omega))]
        · replace hb2 := dF hb2
          rw [hy1] at hb2
          refine me1 (pc' := 111) (L' := [(2, ii ((k : Nat) : Int)), (0, .ref 102), (1, ii 1)]) (S' := [.ref 102, .ref 102]) dm_X12_digits_110 rfl rfl rfl rfl ?_
          refine me1 (pc' := 112) (L' := [(2, ii ((k : Nat) : Int)), (0, .ref 102), (1, ii 1)]) (S' := [.ref 102, .ref 102, .ref 102]) dm_X12_digits_111 rfl rfl rfl rfl ?_
          refine me3 (pc' := 115) (S' := [ii (t.1 35), .ref 102, .ref 102]) dm_X12_digits_112 (q_geti (v := t.1 35) hm rfl (fun m i l => rg_35 m i l) rfl) rfl rfl rfl ?_
          have hy2P : tpR (t.1, va_up t.2.1 41 (-(t.2.1 41)), t.2.2.1, t.2.2.2) bf ln := tpR_k hP (rtk_l (l1))
          have hy2r := byR_r (t.1, va_up t.2.1 41 (-(t.2.1 41)), t.2.2.1, t.2.2.2) (t.1 35)
          have hy2 : byR (t.1, va_up t.2.1 41 (-(t.2.1 41)), t.2.2.1, t.2.2.2) (t.1 35) = byO bf ln (fr + k) := by rw [show (t.1 35 : Int) = ((fr + k : Nat) : Int) by first | rfl | omega]; exact tpR_by hy2P
          refine x_cp (pc' := 118) (v := zz (decide (97 ≤ byR (t.1, va_up t.2.1 41 (-(t.2.1 41)), t.2.2.1, t.2.2.2) (t.1 35) ∧ byR (t.1, va_up t.2.1 41 (-(t.2.1 41)), t.2.2.1, t.2.2.2) (t.1 35) ≤ 122))) (rest := [.ref 102]) dm_X12_digits_115 rfl (q_inv (As := [ii (t.1 35)]) (S := [.ref 102]) hm rfl rfl rfl) rfl rfl rfl (r_isLetter_ (s := (t.1, va_up t.2.1 41 (-(t.2.1 41)), t.2.2.1, t.2.2.2)) (i := t.1 35) hm (by omega) (by omega) (by have := hy2P.1; have := hy2P.2.1; omega) hy2P.2.2.1) ?_
          refine y_zeq (c := decide (97 ≤ byR (t.1, va_up t.2.1 41 (-(t.2.1 41)), t.2.2.1, t.2.2.2) (t.1 35) ∧ byR (t.1, va_up t.2.1 41 (-(t.2.1 41)), t.2.2.1, t.2.2.2) (t.1 35) ≤ 122)) (t := 125) (pc' := 121) dm_X12_digits_118 rfl rfl (fun hb3 => ?_) (fun hb3 => ?_)
          · replace hb3 := dF hb3
            rw [hy2] at hb3
            refine me0 (pc' := 126) (S' := [ii 0, .ref 102]) dm_X12_digits_125 rfl rfl rfl rfl ?_
            refine me3 (pc' := 129) (S' := []) (h1 := rI pre post (va_up t.1 36 (zi false)) (va_up t.2.1 41 (-(t.2.1 41))) t.2.2.1 t.2.2.2) dm_X12_digits_126 (q_putz (c := false) hm rfl rfl (fun m i l v => rf_36 m i l v)) rfl rfl rfl ?_
            refine y_ret (r := none) dm_X12_digits_129 rfl rfl rfl ?_
            refine ⟨rfl, (va_up t.1 36 (zi false), va_up t.2.1 41 (-(t.2.1 41)), t.2.2.1, t.2.2.2), rfl, ?_⟩
            rw [hn]
            refine ⟨rtk_l (rtk_i (j := 36) (by decide) (l1)), l2, l3, (by show - t.2.1 41 = _; rw [l4, Int64.ofInt_neg]), ?_, l5, l6⟩
            show zi false = _
            first | rw [decide_eq_true (stk_O.mpr (by omega))] | rw [decide_eq_false (fun z => absurd (stk_O.mp z) (by omega))]
          · replace hb3 := dT hb3
            rw [hy2] at hb3
            refine me0 (pc' := 122) (S' := [ii 1, .ref 102]) dm_X12_digits_121 rfl rfl rfl rfl ?_
            refine me2 (pc' := 126) (S' := [ii 1, .ref 102]) dm_X12_digits_122 rfl rfl rfl ?_
            refine me3 (pc' := 129) (S' := []) (h1 := rI pre post (va_up t.1 36 (zi true)) (va_up t.2.1 41 (-(t.2.1 41))) t.2.2.1 t.2.2.2) dm_X12_digits_126 (q_putz (c := true) hm rfl rfl (fun m i l v => rf_36 m i l v)) rfl rfl rfl ?_
            refine y_ret (r := none) dm_X12_digits_129 rfl rfl rfl ?_
            refine ⟨rfl, (va_up t.1 36 (zi true), va_up t.2.1 41 (-(t.2.1 41)), t.2.2.1, t.2.2.2), rfl, ?_⟩
            rw [hn]
            refine ⟨rtk_l (rtk_i (j := 36) (by decide) (l1)), l2, l3, (by show - t.2.1 41 = _; rw [l4, Int64.ofInt_neg]), ?_, l5, l6⟩
            show zi true = _
            first | rw [decide_eq_true (stk_O.mpr (by omega))] | rw [decide_eq_false (fun z => absurd (stk_O.mp z) (by omega))]
      · refine me1 (pc' := 33) (L' := [(2, ii ((k : Nat) : Int)), (0, .ref 102), (1, ii 1)]) (S' := [.ref 102]) dm_X12_digits_32 rfl rfl rfl rfl ?_
        refine me1 (pc' := 34) (L' := [(2, ii ((k : Nat) : Int)), (0, .ref 102), (1, ii 1)]) (S' := [.ref 102, .ref 102]) dm_X12_digits_33 rfl rfl rfl rfl ?_
        refine me3 (pc' := 37) (S' := [ii (t.1 35), .ref 102]) dm_X12_digits_34 (q_geti (v := t.1 35) hm rfl (fun m i l => rg_35 m i l) rfl) rfl rfl rfl ?_
        have hy1P : tpR t bf ln := tpR_k hP (l1)
        have hy1r := byR_r t (t.1 35)
        have hy1 : byR t (t.1 35) = byO bf ln (fr + k) := by rw [show (t.1 35 : Int) = ((fr + k : Nat) : Int) by first | rfl | omega]; exact tpR_by hy1P
        refine x_cp (pc' := 40) (v := zz (decide (48 ≤ byR t (t.1 35) ∧ byR t (t.1 35) ≤ 57))) (rest := []) dm_X12_digits_37 rfl (q_inv (As := [ii (t.1 35)]) (S := []) hm rfl rfl rfl) rfl rfl rfl (r_isDigit_ (s := t) (i := t.1 35) hm (by omega) (by omega) (by have := hy1P.1; have := hy1P.2.1; omega) hy1P.2.2.1) ?_
        refine y_zeq (c := decide (48 ≤ byR t (t.1 35) ∧ byR t (t.1 35) ≤ 57)) (t := 85) (pc' := 43) dm_X12_digits_40 rfl rfl (fun hb4 => ?_) (fun hb4 => ?_)
        · replace hb4 := dF hb4
          rw [hy1] at hb4
          have hn : (rnL dgB bf ln 18 fr) = k := rnL_eq 18 fr k hk hrun (Or.inr (fun z => by have z2 := of_decide_eq_true z.2; rw [← byO_in (bf := bf) z.1] at z2; exact hb4 z2))
          refine me1 (pc' := 86) (L' := [(2, ii ((k : Nat) : Int)), (0, .ref 102), (1, ii 1)]) (S' := [ii 1]) dm_X12_digits_85 rfl rfl rfl rfl ?_
          refine me_1f (pc' := 89) dm_X12_digits_86 rfl (by decide) rfl ?_
          refine me1 (pc' := 90) (L' := [(2, ii ((k : Nat) : Int)), (0, .ref 102), (1, ii 1)]) (S' := [.ref 102]) dm_X12_digits_89 rfl rfl rfl rfl ?_
          refine me1 (pc' := 91) (L' := [(2, ii ((k : Nat) : Int)), (0, .ref 102), (1, ii 1)]) (S' := [.ref 102, .ref 102]) dm_X12_digits_90 rfl rfl rfl rfl ?_
          refine me3 (pc' := 94) (S' := [.long (t.2.1 41), .ref 102]) dm_X12_digits_91 (q_getl (v := t.2.1 41) hm rfl (fun m i l => rg_41 m i l) rfl) rfl rfl rfl ?_
          refine me0 (pc' := 95) (S' := [.long (-(t.2.1 41)), .ref 102]) dm_X12_digits_94 rfl rfl rfl rfl ?_
          refine me3 (pc' := 98) (S' := []) (h1 := rI pre post t.1 (va_up t.2.1 41 (-(t.2.1 41))) t.2.2.1 t.2.2.2) dm_X12_digits_95 (q_putl hm rfl rfl (fun m i l v => rf_41 m i l v)) rfl rfl rfl ?_
          refine me1 (pc' := 99) (L' := [(2, ii ((k : Nat) : Int)), (0, .ref 102), (1, ii 1)]) (S' := [.ref 102]) dm_X12_digits_98 rfl rfl rfl rfl ?_
          refine me1 (pc' := 100) (L' := [(2, ii ((k : Nat) : Int)), (0, .ref 102), (1, ii 1)]) (S' := [.ref 102, .ref 102]) dm_X12_digits_99 rfl rfl rfl rfl ?_
          refine me1 (pc' := 101) (L' := [(2, ii ((k : Nat) : Int)), (0, .ref 102), (1, ii 1)]) (S' := [.ref 102, .ref 102, .ref 102]) dm_X12_digits_100 rfl rfl rfl rfl ?_
          refine me3 (pc' := 104) (S' := [ii (t.1 35), .ref 102, .ref 102]) dm_X12_digits_101 (q_geti (v := t.1 35) hm rfl (fun m i l => rg_35 m i l) rfl) rfl rfl rfl ?_
          have hy2P : tpR (t.1, va_up t.2.1 41 (-(t.2.1 41)), t.2.2.1, t.2.2.2) bf ln := tpR_k hP (rtk_l (l1))
          have hy2r := byR_r (t.1, va_up t.2.1 41 (-(t.2.1 41)), t.2.2.1, t.2.2.2) (t.1 35)
          have hy2 : byR (t.1, va_up t.2.1 41 (-(t.2.1 41)), t.2.2.1, t.2.2.2) (t.1 35) = byO bf ln (fr + k) := by rw [show (t.1 35 : Int) = ((fr + k : Nat) : Int) by first | rfl | omega]; exact tpR_by hy2P
          refine x_cp (pc' := 107) (v := zz (decide (48 ≤ byR (t.1, va_up t.2.1 41 (-(t.2.1 41)), t.2.2.1, t.2.2.2) (t.1 35) ∧ byR (t.1, va_up t.2.1 41 (-(t.2.1 41)), t.2.2.1, t.2.2.2) (t.1 35) ≤ 57))) (rest := [.ref 102]) dm_X12_digits_104 rfl (q_inv (As := [ii (t.1 35)]) (S := [.ref 102]) hm rfl rfl rfl) rfl rfl rfl (r_isDigit_ (s := (t.1, va_up t.2.1 41 (-(t.2.1 41)), t.2.2.1, t.2.2.2)) (i := t.1 35) hm (by omega) (by omega) (by have := hy2P.1; have := hy2P.2.1; omega) hy2P.2.2.1) ?_
          refine y_zne (c := decide (48 ≤ byR (t.1, va_up t.2.1 41 (-(t.2.1 41)), t.2.2.1, t.2.2.2) (t.1 35) ∧ byR (t.1, va_up t.2.1 41 (-(t.2.1 41)), t.2.2.1, t.2.2.2) (t.1 35) ≤ 57)) (t := 121) (pc' := 110) dm_X12_digits_107 rfl rfl (fun hb5 => ?_) (fun hb5 => ?_)
          · replace hb5 := dT hb5
            rw [hy2] at hb5
            refine me0 (pc' := 122) (S' := [ii 1, .ref 102]) dm_X12_digits_121 rfl rfl rfl rfl ?_
            refine me2 (pc' := 126) (S' := [ii 1, .ref 102]) dm_X12_digits_122 rfl rfl rfl ?_
            refine me3 (pc' := 129) (S' := []) (h1 := rI pre post (va_up t.1 36 (zi true)) (va_up t.2.1 41 (-(t.2.1 41))) t.2.2.1 t.2.2.2) dm_X12_digits_126 (q_putz (c := true) hm rfl rfl (fun m i l v => rf_36 m i l v)) rfl rfl rfl ?_
            refine y_ret (r := none) dm_X12_digits_129 rfl rfl rfl ?_
            refine ⟨rfl, (va_up t.1 36 (zi true), va_up t.2.1 41 (-(t.2.1 41)), t.2.2.1, t.2.2.2), rfl, ?_⟩
            rw [hn]
            refine ⟨rtk_l (rtk_i (j := 36) (by decide) (l1)), l2, l3, (by show - t.2.1 41 = _; rw [l4, Int64.ofInt_neg]), ?_, l5, l6⟩
            show zi true = _
            first | rw [decide_eq_true (stk_O.mpr (by omega))] | rw [decide_eq_false (fun z => absurd (stk_O.mp z) (by omega))]
          · replace hb5 := dF hb5
            rw [hy2] at hb5
            refine me1 (pc' := 111) (L' := [(2, ii ((k : Nat) : Int)), (0, .ref 102), (1, ii 1)]) (S' := [.ref 102, .ref 102]) dm_X12_digits_110 rfl rfl rfl rfl ?_
            refine me1 (pc' := 112) (L' := [(2, ii ((k : Nat) : Int)), (0, .ref 102), (1, ii 1)]) (S' := [.ref 102, .ref 102, .ref 102]) dm_X12_digits_111 rfl rfl rfl rfl ?_
            refine me3 (pc' := 115) (S' := [ii (t.1 35), .ref 102, .ref 102]) dm_X12_digits_112 (q_geti (v := t.1 35) hm rfl (fun m i l => rg_35 m i l) rfl) rfl rfl rfl ?_
            have hy3P : tpR (t.1, va_up t.2.1 41 (-(t.2.1 41)), t.2.2.1, t.2.2.2) bf ln := tpR_k hP (rtk_l (l1))
            have hy3r := byR_r (t.1, va_up t.2.1 41 (-(t.2.1 41)), t.2.2.1, t.2.2.2) (t.1 35)
            have hy3 : byR (t.1, va_up t.2.1 41 (-(t.2.1 41)), t.2.2.1, t.2.2.2) (t.1 35) = byO bf ln (fr + k) := by rw [show (t.1 35 : Int) = ((fr + k : Nat) : Int) by first | rfl | omega]; exact tpR_by hy3P
            refine x_cp (pc' := 118) (v := zz (decide (97 ≤ byR (t.1, va_up t.2.1 41 (-(t.2.1 41)), t.2.2.1, t.2.2.2) (t.1 35) ∧ byR (t.1, va_up t.2.1 41 (-(t.2.1 41)), t.2.2.1, t.2.2.2) (t.1 35) ≤ 122))) (rest := [.ref 102]) dm_X12_digits_115 rfl (q_inv (As := [ii (t.1 35)]) (S := [.ref 102]) hm rfl rfl rfl) rfl rfl rfl (r_isLetter_ (s := (t.1, va_up t.2.1 41 (-(t.2.1 41)), t.2.2.1, t.2.2.2)) (i := t.1 35) hm (by omega) (by omega) (by have := hy3P.1; have := hy3P.2.1; omega) hy3P.2.2.1) ?_
            refine y_zeq (c := decide (97 ≤ byR (t.1, va_up t.2.1 41 (-(t.2.1 41)), t.2.2.1, t.2.2.2) (t.1 35) ∧ byR (t.1, va_up t.2.1 41 (-(t.2.1 41)), t.2.2.1, t.2.2.2) (t.1 35) ≤ 122)) (t := 125) (pc' := 121) dm_X12_digits_118 rfl rfl (fun hb6 => ?_) (fun hb6 => ?_)
            · replace hb6 := dF hb6
              rw [hy3] at hb6
              refine me0 (pc' := 126) (S' := [ii 0, .ref 102]) dm_X12_digits_125 rfl rfl rfl rfl ?_
              refine me3 (pc' := 129) (S' := []) (h1 := rI pre post (va_up t.1 36 (zi false)) (va_up t.2.1 41 (-(t.2.1 41))) t.2.2.1 t.2.2.2) dm_X12_digits_126 (q_putz (c := false) hm rfl rfl (fun m i l v => rf_36 m i l v)) rfl rfl rfl ?_
              refine y_ret (r := none) dm_X12_digits_129 rfl rfl rfl ?_
              refine ⟨rfl, (va_up t.1 36 (zi false), va_up t.2.1 41 (-(t.2.1 41)), t.2.2.1, t.2.2.2), rfl, ?_⟩
              rw [hn]
              refine ⟨rtk_l (rtk_i (j := 36) (by decide) (l1)), l2, l3, (by show - t.2.1 41 = _; rw [l4, Int64.ofInt_neg]), ?_, l5, l6⟩
              show zi false = _
              first | rw [decide_eq_true (stk_O.mpr (by omega))] | rw [decide_eq_false (fun z => absurd (stk_O.mp z) (by omega))]
            · replace hb6 := dT hb6
              rw [hy3] at hb6
              refine me0 (pc' := 122) (S' := [ii 1, .ref 102]) dm_X12_digits_121 rfl rfl rfl rfl ?_
              refine me2 (pc' := 126) (S' := [ii 1, .ref 102]) dm_X12_digits_122 rfl rfl rfl ?_
              refine me3 (pc' := 129) (S' := []) (h1 := rI pre post (va_up t.1 36 (zi true)) (va_up t.2.1 41 (-(t.2.1 41))) t.2.2.1 t.2.2.2) dm_X12_digits_126 (q_putz (c := true) hm rfl rfl (fun m i l v => rf_36 m i l v)) rfl rfl rfl ?_
              refine y_ret (r := none) dm_X12_digits_129 rfl rfl rfl ?_
              refine ⟨rfl, (va_up t.1 36 (zi true), va_up t.2.1 41 (-(t.2.1 41)), t.2.2.1, t.2.2.2), rfl, ?_⟩
              rw [hn]
              refine ⟨rtk_l (rtk_i (j := 36) (by decide) (l1)), l2, l3, (by show - t.2.1 41 = _; rw [l4, Int64.ofInt_neg]), ?_, l5, l6⟩
              show zi true = _
              first | rw [decide_eq_true (stk_O.mpr (by omega))] | rw [decide_eq_false (fun z => absurd (stk_O.mp z) (by omega))]
        · replace hb4 := dT hb4
          rw [hy1] at hb4
          have hin : fr + k < ln := Classical.byContradiction fun z => by have z2 := byO_out (bf := bf) (Nat.le_of_not_lt z); omega
          have hbi := byO_in (bf := bf) hin
          have hby : byR t (t.1 35) = bf (fr + k) := hy1.trans hbi
          have hrun1 : ∀ j, fr ≤ j → j < fr + (k + 1) → j < ln ∧ dgB (bf j) = true := fun j h1 h2 => by by_cases z : j = fr + k; (rw [z]; exact ⟨hin, decide_eq_true (by rw [← hbi]; exact hb4)⟩); exact hrun j h1 (by omega)
          refine me1 (pc' := 44) (L' := [(2, ii ((k : Nat) : Int)), (0, .ref 102), (1, ii 1)]) (S' := [.ref 102]) dm_X12_digits_43 rfl rfl rfl rfl ?_
          refine me3 (pc' := 47) (S' := [.long (Int64.ofInt 10), .ref 102]) dm_X12_digits_44 rfl rfl rfl rfl ?_
          refine me1 (pc' := 48) (L' := [(2, ii ((k : Nat) : Int)), (0, .ref 102), (1, ii 1)]) (S' := [.ref 102, .long (Int64.ofInt 10), .ref 102]) dm_X12_digits_47 rfl rfl rfl rfl ?_
          refine me3 (pc' := 51) (S' := [.long (t.2.1 41), .long (Int64.ofInt 10), .ref 102]) dm_X12_digits_48 (q_getl (v := t.2.1 41) hm rfl (fun m i l => rg_41 m i l) rfl) rfl rfl rfl ?_
          refine me0 (pc' := 52) (S' := [.long ((Int64.ofInt 10) * (t.2.1 41)), .ref 102]) dm_X12_digits_51 rfl rfl rfl rfl ?_
          refine me1 (pc' := 53) (L' := [(2, ii ((k : Nat) : Int)), (0, .ref 102), (1, ii 1)]) (S' := [.ref 102, .long ((Int64.ofInt 10) * (t.2.1 41)), .ref 102]) dm_X12_digits_52 rfl rfl rfl rfl ?_
          refine me1 (pc' := 54) (L' := [(2, ii ((k : Nat) : Int)), (0, .ref 102), (1, ii 1)]) (S' := [.ref 102, .ref 102, .long ((Int64.ofInt 10) * (t.2.1 41)), .ref 102]) dm_X12_digits_53 rfl rfl rfl rfl ?_
          refine me3 (pc' := 57) (S' := [ii (t.1 35), .ref 102, .long ((Int64.ofInt 10) * (t.2.1 41)), .ref 102]) dm_X12_digits_54 (q_geti (v := t.1 35) hm rfl (fun m i l => rg_35 m i l) rfl) rfl rfl rfl ?_
          have hy2P : tpR t bf ln := tpR_k hP (l1)
          have hy2r := byR_r t (t.1 35)
          have hy2 : byR t (t.1 35) = byO bf ln (fr + k) := by rw [show (t.1 35 : Int) = ((fr + k : Nat) : Int) by first | rfl | omega]; exact tpR_by hy2P
          refine x_cp (pc' := 60) (v := ii (byR t (t.1 35))) (rest := [.long ((Int64.ofInt 10) * (t.2.1 41)), .ref 102]) dm_X12_digits_57 rfl (q_inv (As := [ii (t.1 35)]) (S := [.long ((Int64.ofInt 10) * (t.2.1 41)), .ref 102]) hm rfl rfl rfl) rfl rfl rfl (r_byteAt_ (s := t) (i := t.1 35) hm (by omega) (by omega) (by have := hy2P.1; have := hy2P.2.1; omega) hy2P.2.2.1) ?_
          refine y_i2l (a := byR t (t.1 35)) dm_X12_digits_60 (pc' := 61) rfl (by omega) (by omega) ?_
          refine me0 (pc' := 62) (S' := [.long (((Int64.ofInt 10) * (t.2.1 41)) + (Int64.ofInt (byR t (t.1 35)))), .ref 102]) dm_X12_digits_61 rfl rfl rfl rfl ?_
          refine me3 (pc' := 65) (S' := [.long (Int64.ofInt 48), .long (((Int64.ofInt 10) * (t.2.1 41)) + (Int64.ofInt (byR t (t.1 35)))), .ref 102]) dm_X12_digits_62 rfl rfl rfl rfl ?_
          refine me0 (pc' := 66) (S' := [.long ((((Int64.ofInt 10) * (t.2.1 41)) + (Int64.ofInt (byR t (t.1 35)))) - (Int64.ofInt 48)), .ref 102]) dm_X12_digits_65 rfl rfl rfl rfl ?_
          refine me3 (pc' := 69) (S' := []) (h1 := rI pre post t.1 (va_up t.2.1 41 ((((Int64.ofInt 10) * (t.2.1 41)) + (Int64.ofInt (byR t (t.1 35)))) - (Int64.ofInt 48))) t.2.2.1 t.2.2.2) dm_X12_digits_66 (q_putl hm rfl rfl (fun m i l v => rf_41 m i l v)) rfl rfl rfl ?_
          refine me1 (pc' := 70) (L' := [(2, ii ((k : Nat) : Int)), (0, .ref 102), (1, ii 1)]) (S' := [.ref 102]) dm_X12_digits_69 rfl rfl rfl rfl ?_
          refine me0 (pc' := 71) (S' := [.ref 102, .ref 102]) dm_X12_digits_70 rfl rfl rfl rfl ?_
          refine me3 (pc' := 74) (S' := [ii (t.1 35), .ref 102]) dm_X12_digits_71 (q_geti (v := t.1 35) hm rfl (fun m i l => rg_35 m i l) rfl) rfl rfl rfl ?_
          refine me0 (pc' := 75) (S' := [ii 1, ii (t.1 35), .ref 102]) dm_X12_digits_74 rfl rfl rfl rfl ?_
          refine y_iadd (a := t.1 35) (b := 1) dm_X12_digits_75 (pc' := 76) rfl ?_
          refine me3 (pc' := 79) (S' := []) (h1 := rI pre post (va_up t.1 35 ((t.1 35) + 1)) (va_up t.2.1 41 ((((Int64.ofInt 10) * (t.2.1 41)) + (Int64.ofInt (byR t (t.1 35)))) - (Int64.ofInt 48))) t.2.2.1 t.2.2.2) dm_X12_digits_76 (q_puti hm rfl rfl (fun m i l v => rf_35 m i l v)) rfl rfl rfl ?_
          refine y_iinc (pc' := 82) (L' := [(2, ii (((k : Nat) : Int) + 1)), (0, .ref 102), (1, ii 1)]) dm_X12_digits_79 (y_incp (a := ((k : Nat) : Int)) (c := 1) rfl rfl (by decide)) rfl ?_
          refine me2 (pc' := 26) (S' := []) dm_X12_digits_82 rfl rfl rfl ?_
          exact pg_sub (L := [(2, ii (((k + 1) : Nat) : Int)), (0, .ref 102), (1, ii 1)]) rfl rfl rfl (ih26 (18 - (k + 1)) (by omega) (k + 1) (va_up t.1 35 ((t.1 35) + 1), va_up t.2.1 41 ((((Int64.ofInt 10) * (t.2.1 41)) + (Int64.ofInt (byR t (t.1 35)))) - (Int64.ofInt 48)), t.2.2.1, t.2.2.2) rfl (by omega) hrun1 ⟨rtk_l (rtk_i (j := 35) (by decide) (l1)), l2, (show t.1 35 + 1 = _ by omega), (by show Int64.ofInt 10 * t.2.1 41 + Int64.ofInt (byR t (t.1 35)) - Int64.ofInt 48 = _; rw [l4]; exact dv_64r hby), l5, l6⟩)
  exact pg_sub (L := [(2, ii ((0 : Nat) : Int)), (0, .ref 102), (1, ii 1)]) rfl rfl rfl (lp26 _ 0 (va_up (va_up s.1 38 1) 35 ((s.1 35) + 1), va_up s.2.1 41 (Int64.ofInt 0), s.2.2.1, s.2.2.2) rfl (by decide) (fun j h1 h2 => absurd h2 (by omega)) ⟨rtk_l (rtk_i (j := 35) (by decide) (rtk_i (j := 38) (by decide) (rtk_rf s))), rfl, (show s.1 35 + 1 = _ by omega), rfl, rfl, rfl⟩)
theorem fndR_rg {f : Nat → Int64} {m : Nat} {key : Int64} (hm : m ≤ 40) : -1 ≤ fndR f m key ∧ fndR f m key ≤ 40 := by
  rcases Nat.lt_or_ge (fndK f m key) m with z | z
  · rw [fndR_y z]; omega
  · rw [fndR_n (Nat.not_lt.mpr z)]; omega
set_option maxRecDepth 20000 in
theorem pm_X12_letters : mj_mmof pg_ms 210 = some ((⟨"ArrayCalculatorModel", "letters", "()V"⟩, prog_14_method_75_code, 2, (Option.none : Option Jvm.ClassFile.FieldType)), 12, false, mj_dec prog_14_method_75_code) := rfl
theorem dm_X12_letters_0 : mj_dec prog_14_method_75_code 0 = some (.aload_n 0, 1) := by decide +kernel
theorem dm_X12_letters_1 : mj_dec prog_14_method_75_code 1 = some (.lconst 0, 1) := by decide +kernel
theorem dm_X12_letters_2 : mj_dec prog_14_method_75_code 2 = some (.putfield 417, 3) := by decide +kernel
theorem dm_X12_letters_5 : mj_dec prog_14_method_75_code 5 = some (.iconst 0, 1) := by decide +kernel
theorem dm_X12_letters_6 : mj_dec prog_14_method_75_code 6 = some (.istore_n 1, 1) := by decide +kernel
theorem dm_X12_letters_7 : mj_dec prog_14_method_75_code 7 = some (.iload_n 1, 1) := by decide +kernel
theorem dm_X12_letters_8 : mj_dec prog_14_method_75_code 8 = some (.bipush 8, 2) := by decide +kernel
theorem dm_X12_letters_10 : mj_dec prog_14_method_75_code 10 = some (.if_icmp .ge 51, 3) := by decide +kernel
theorem dm_X12_letters_13 : mj_dec prog_14_method_75_code 13 = some (.aload_n 0, 1) := by decide +kernel
theorem dm_X12_letters_14 : mj_dec prog_14_method_75_code 14 = some (.aload_n 0, 1) := by decide +kernel
theorem dm_X12_letters_15 : mj_dec prog_14_method_75_code 15 = some (.getfield 383, 3) := by decide +kernel
theorem dm_X12_letters_18 : mj_dec prog_14_method_75_code 18 = some (.invokevirtual 396, 3) := by decide +kernel
theorem dm_X12_letters_21 : mj_dec prog_14_method_75_code 21 = some (.ifCond .eq 40, 3) := by decide +kernel
theorem dm_X12_letters_24 : mj_dec prog_14_method_75_code 24 = some (.aload_n 0, 1) := by decide +kernel
theorem dm_X12_letters_25 : mj_dec prog_14_method_75_code 25 = some (.aload_n 0, 1) := by decide +kernel
theorem dm_X12_letters_26 : mj_dec prog_14_method_75_code 26 = some (.getfield 417, 3) := by decide +kernel
theorem dm_X12_letters_29 : mj_dec prog_14_method_75_code 29 = some (.bipush 8, 2) := by decide +kernel
theorem dm_X12_letters_31 : mj_dec prog_14_method_75_code 31 = some (.lshl, 1) := by decide +kernel
theorem dm_X12_letters_32 : mj_dec prog_14_method_75_code 32 = some (.aload_n 0, 1) := by decide +kernel
theorem dm_X12_letters_33 : mj_dec prog_14_method_75_code 33 = some (.aload_n 0, 1) := by decide +kernel
theorem dm_X12_letters_34 : mj_dec prog_14_method_75_code 34 = some (.getfield 383, 3) := by decide +kernel
theorem dm_X12_letters_37 : mj_dec prog_14_method_75_code 37 = some (.invokevirtual 373, 3) := by decide +kernel
theorem dm_X12_letters_40 : mj_dec prog_14_method_75_code 40 = some (.i2l, 1) := by decide +kernel
theorem dm_X12_letters_41 : mj_dec prog_14_method_75_code 41 = some (.lor, 1) := by decide +kernel
theorem dm_X12_letters_42 : mj_dec prog_14_method_75_code 42 = some (.putfield 417, 3) := by decide +kernel
theorem dm_X12_letters_45 : mj_dec prog_14_method_75_code 45 = some (.aload_n 0, 1) := by decide +kernel
theorem dm_X12_letters_46 : mj_dec prog_14_method_75_code 46 = some (.dup, 1) := by decide +kernel
theorem dm_X12_letters_47 : mj_dec prog_14_method_75_code 47 = some (.getfield 383, 3) := by decide +kernel
theorem dm_X12_letters_50 : mj_dec prog_14_method_75_code 50 = some (.iconst 1, 1) := by decide +kernel
theorem dm_X12_letters_51 : mj_dec prog_14_method_75_code 51 = some (.iadd, 1) := by decide +kernel
theorem dm_X12_letters_52 : mj_dec prog_14_method_75_code 52 = some (.putfield 383, 3) := by decide +kernel
theorem dm_X12_letters_55 : mj_dec prog_14_method_75_code 55 = some (.iinc 1 1, 3) := by decide +kernel
theorem dm_X12_letters_58 : mj_dec prog_14_method_75_code 58 = some (.goto (-51), 3) := by decide +kernel
theorem dm_X12_letters_61 : mj_dec prog_14_method_75_code 61 = some (.aload_n 0, 1) := by decide +kernel
theorem dm_X12_letters_62 : mj_dec prog_14_method_75_code 62 = some (.aload_n 0, 1) := by decide +kernel
theorem dm_X12_letters_63 : mj_dec prog_14_method_75_code 63 = some (.aload_n 0, 1) := by decide +kernel
theorem dm_X12_letters_64 : mj_dec prog_14_method_75_code 64 = some (.getfield 383, 3) := by decide +kernel
theorem dm_X12_letters_67 : mj_dec prog_14_method_75_code 67 = some (.invokevirtual 389, 3) := by decide +kernel
theorem dm_X12_letters_70 : mj_dec prog_14_method_75_code 70 = some (.ifCond .ne 14, 3) := by decide +kernel
theorem dm_X12_letters_73 : mj_dec prog_14_method_75_code 73 = some (.aload_n 0, 1) := by decide +kernel
theorem dm_X12_letters_74 : mj_dec prog_14_method_75_code 74 = some (.aload_n 0, 1) := by decide +kernel
theorem dm_X12_letters_75 : mj_dec prog_14_method_75_code 75 = some (.getfield 383, 3) := by decide +kernel
theorem dm_X12_letters_78 : mj_dec prog_14_method_75_code 78 = some (.invokevirtual 396, 3) := by decide +kernel
theorem dm_X12_letters_81 : mj_dec prog_14_method_75_code 81 = some (.ifCond .eq 7, 3) := by decide +kernel
theorem dm_X12_letters_84 : mj_dec prog_14_method_75_code 84 = some (.iconst 1, 1) := by decide +kernel
theorem dm_X12_letters_85 : mj_dec prog_14_method_75_code 85 = some (.goto 4, 3) := by decide +kernel
theorem dm_X12_letters_88 : mj_dec prog_14_method_75_code 88 = some (.iconst 0, 1) := by decide +kernel
theorem dm_X12_letters_89 : mj_dec prog_14_method_75_code 89 = some (.putfield 376, 3) := by decide +kernel
theorem dm_X12_letters_92 : mj_dec prog_14_method_75_code 92 = some (.aload_n 0, 1) := by decide +kernel
theorem dm_X12_letters_93 : mj_dec prog_14_method_75_code 93 = some (.getfield 417, 3) := by decide +kernel
theorem dm_X12_letters_96 : mj_dec prog_14_method_75_code 96 = some (.aload_n 0, 1) := by decide +kernel
theorem dm_X12_letters_97 : mj_dec prog_14_method_75_code 97 = some (.getfield 421, 3) := by decide +kernel
theorem dm_X12_letters_100 : mj_dec prog_14_method_75_code 100 = some (.lcmp, 1) := by decide +kernel
theorem dm_X12_letters_101 : mj_dec prog_14_method_75_code 101 = some (.ifCond .eq 14, 3) := by decide +kernel
theorem dm_X12_letters_104 : mj_dec prog_14_method_75_code 104 = some (.aload_n 0, 1) := by decide +kernel
theorem dm_X12_letters_105 : mj_dec prog_14_method_75_code 105 = some (.aload_n 0, 1) := by decide +kernel
theorem dm_X12_letters_106 : mj_dec prog_14_method_75_code 106 = some (.getfield 417, 3) := by decide +kernel
theorem dm_X12_letters_109 : mj_dec prog_14_method_75_code 109 = some (.invokevirtual 363, 3) := by decide +kernel
theorem dm_X12_letters_112 : mj_dec prog_14_method_75_code 112 = some (.ifCond .lt 7, 3) := by decide +kernel
theorem dm_X12_letters_115 : mj_dec prog_14_method_75_code 115 = some (.iconst 1, 1) := by decide +kernel
theorem dm_X12_letters_116 : mj_dec prog_14_method_75_code 116 = some (.goto 4, 3) := by decide +kernel
theorem dm_X12_letters_119 : mj_dec prog_14_method_75_code 119 = some (.iconst 0, 1) := by decide +kernel
theorem dm_X12_letters_120 : mj_dec prog_14_method_75_code 120 = some (.istore_n 1, 1) := by decide +kernel
theorem dm_X12_letters_121 : mj_dec prog_14_method_75_code 121 = some (.aload_n 0, 1) := by decide +kernel
theorem dm_X12_letters_122 : mj_dec prog_14_method_75_code 122 = some (.iload_n 1, 1) := by decide +kernel
theorem dm_X12_letters_123 : mj_dec prog_14_method_75_code 123 = some (.ifCond .eq 7, 3) := by decide +kernel
theorem dm_X12_letters_126 : mj_dec prog_14_method_75_code 126 = some (.iconst 4, 1) := by decide +kernel
theorem dm_X12_letters_127 : mj_dec prog_14_method_75_code 127 = some (.goto 4, 3) := by decide +kernel
theorem dm_X12_letters_130 : mj_dec prog_14_method_75_code 130 = some (.iconst 3, 1) := by decide +kernel
theorem dm_X12_letters_131 : mj_dec prog_14_method_75_code 131 = some (.putfield 380, 3) := by decide +kernel
theorem dm_X12_letters_134 : mj_dec prog_14_method_75_code 134 = some (.iload_n 1, 1) := by decide +kernel
theorem dm_X12_letters_135 : mj_dec prog_14_method_75_code 135 = some (.ifCond .eq 11, 3) := by decide +kernel
theorem dm_X12_letters_138 : mj_dec prog_14_method_75_code 138 = some (.aload_n 0, 1) := by decide +kernel
theorem dm_X12_letters_139 : mj_dec prog_14_method_75_code 139 = some (.aload_n 0, 1) := by decide +kernel
theorem dm_X12_letters_140 : mj_dec prog_14_method_75_code 140 = some (.getfield 383, 3) := by decide +kernel
theorem dm_X12_letters_143 : mj_dec prog_14_method_75_code 143 = some (.putfield 402, 3) := by decide +kernel
theorem dm_X12_letters_146 : mj_dec prog_14_method_75_code 146 = some (.return_, 1) := by decide +kernel
theorem r_letters_ {xt : mj_X} {d : Nat} {pre post : mj_H} {s : RS} {bf : Nat → Int} {ln : Nat} (hm : pre.length = 102) (hd : 3 ≤ d) (hP : tpR s bf ln) {fr n m : Nat} (hvn : s.1 23 = (n : Int)) (hfn : s.1 24 = (m : Int)) (hn40 : n ≤ 40) (hm2 : m ≤ 40) (h35 : s.1 35 = ((fr : Nat) : Int)) (hfr : fr ≤ 300) : pgN xt d 210 [.ref 102] (rS pre post s) (fun h' => ∃ t, h' = rS pre post t ∧ ltP bf ln s t m (fr + (rnL ltB bf ln 8 fr)) (rkI bf fr (rnL ltB bf ln 8 fr))) := by
  refine x_enter pm_X12_letters (L0 := [(0, .ref 102)]) rfl (Nat.le_of_ble_eq_true rfl) (by omega) ?_
  refine me1 (pc' := 1) (L' := [(0, .ref 102)]) (S' := [.ref 102]) dm_X12_letters_0 rfl rfl rfl rfl ?_
  refine me0 (pc' := 2) (S' := [.long (Int64.ofInt 0), .ref 102]) dm_X12_letters_1 rfl rfl rfl rfl ?_
  refine me3 (pc' := 5) (S' := []) (h1 := rI pre post s.1 (va_up s.2.1 41 (Int64.ofInt 0)) s.2.2.1 s.2.2.2) dm_X12_letters_2 (q_putl hm rfl rfl (fun m i l v => rf_41 m i l v)) rfl rfl rfl ?_
  refine me0 (pc' := 6) (S' := [ii 0]) dm_X12_letters_5 rfl rfl rfl rfl ?_
  refine me1 (pc' := 7) (L' := [(1, ii 0), (0, .ref 102)]) (S' := []) dm_X12_letters_6 rfl rfl rfl rfl ?_
  have lp7 : ∀ (n7 : Nat) (k : Nat) (t : RS), 8 - k = n7 → (k ≤ 8) → (∀ j, fr ≤ j → j < fr + k → j < ln ∧ ltB (bf j) = true) → (ltL bf s t fr k) → pgE xt (d - 1) 12 2 false (Option.none : Option Jvm.ClassFile.FieldType) (mj_dec prog_14_method_75_code) 7 [(1, ii ((k : Nat) : Int)), (0, .ref 102)] [] (rI pre post t.1 t.2.1 t.2.2.1 t.2.2.2) (fun r h' => r = none ∧ ∃ t, h' = rS pre post t ∧ ltP bf ln s t m (fr + (rnL ltB bf ln 8 fr)) (rkI bf fr (rnL ltB bf ln 8 fr))) := by
    intro n7
    induction n7 using Nat.strongRecOn with
    | ind n7 ih7 =>
      intro k t hm7 hk hrun hl
      obtain ⟨l1, l3, l4, l5, l6⟩ := id hl
      have hPt := tpR_k hP l1
      have h42 := l1.2.2.2 42 (by decide)
      have h20 : t.2.2.2 20 = s.2.2.2 20 := by rw [l1.2.1]
      refine me1 (pc' := 8) (L' := [(1, ii ((k : Nat) : Int)), (0, .ref 102)]) (S' := [ii ((k : Nat) : Int)]) dm_X12_letters_7 rfl rfl rfl rfl ?_
      refine me0 (pc' := 10) (S' := [ii 8, ii ((k : Nat) : Int)]) dm_X12_letters_8 rfl rfl rfl rfl ?_
      refine y_2ge (a := ((k : Nat) : Int)) (b := 8) (t := 61) (pc' := 13) dm_X12_letters_10 rfl rfl (by omega) (fun hb1 => ?_) (fun hb1 => ?_)
      · have hn : (rnL ltB bf ln 8 fr) = k := rnL_eq 8 fr k hk hrun (Or.inl (by omega))
        refine me1 (pc' := 62) (L' := [(1, ii ((k : Nat) : Int)), (0, .ref 102)]) (S' := [.ref 102]) dm_X12_letters_61 rfl rfl rfl rfl ?_
        refine me1 (pc' := 63) (L' := [(1, ii ((k : Nat) : Int)), (0, .ref 102)]) (S' := [.ref 102, .ref 102]) dm_X12_letters_62 rfl rfl rfl rfl ?_
        refine me1 (pc' := 64) (L' := [(1, ii ((k : Nat) : Int)), (0, .ref 102)]) (S' := [.ref 102, .ref 102, .ref 102]) dm_X12_letters_63 rfl rfl rfl rfl ?_
        refine me3 (pc' := 67) (S' := [ii (t.1 35), .ref 102, .ref 102]) dm_X12_letters_64 (q_geti (v := t.1 35) hm rfl (fun m i l => rg_35 m i l) rfl) rfl rfl rfl ?_
        have hy1P : tpR t bf ln := tpR_k hP (l1)
        have hy1r := byR_r t (t.1 35)
        have hy1 : byR t (t.1 35) = byO bf ln (fr + k) := by rw [show (t.1 35 : Int) = ((fr + k : Nat) : Int) by first | rfl | omega]; exact tpR_by hy1P
        refine x_cp (pc' := 70) (v := zz (decide (48 ≤ byR t (t.1 35) ∧ byR t (t.1 35) ≤ 57))) (rest := [.ref 102]) dm_X12_letters_67 rfl (q_inv (As := [ii (t.1 35)]) (S := [.ref 102]) hm rfl rfl rfl) rfl rfl rfl (r_isDigit_ (s := t) (i := t.1 35) hm (by omega) (by omega) (by have := hy1P.1; have := hy1P.2.1; omega) hy1P.2.2.1) ?_
        refine y_zne (c := decide (48 ≤ byR t (t.1 35) ∧ byR t (t.1 35) ≤ 57)) (t := 84) (pc' := 73) dm_X12_letters_70 rfl rfl (fun hb2 => ?_) (fun hb2 => ?_)
        · replace hb2 := dT hb2
          rw [hy1] at hb2
          refine me0 (pc' := 85) (S' := [ii 1, .ref 102]) dm_X12_letters_84 rfl rfl rfl rfl ?_
          refine me2 (pc' := 89) (S' := [ii 1, .ref 102]) dm_X12_letters_85 rfl rfl rfl ?_
          refine me3 (pc' := 92) (S' := []) (h1 := rI pre post (va_up t.1 36 (zi true)) t.2.1 t.2.2.1 t.2.2.2) dm_X12_letters_89 (q_putz (c := true) hm rfl rfl (fun m i l v => rf_36 m i l v)) rfl rfl rfl ?_
          refine me1 (pc' := 93) (L' := [(1, ii ((k : Nat) : Int)), (0, .ref 102)]) (S' := [.ref 102]) dm_X12_letters_92 rfl rfl rfl rfl ?_
          refine me3 (pc' := 96) (S' := [.long (t.2.1 41)]) dm_X12_letters_93 (q_getl (v := t.2.1 41) hm rfl (fun m i l => rg_41 m i l) rfl) rfl rfl rfl ?_
          refine me1 (pc' := 97) (L' := [(1, ii ((k : Nat) : Int)), (0, .ref 102)]) (S' := [.ref 102, .long (t.2.1 41)]) dm_X12_letters_96 rfl rfl rfl rfl ?_
          refine me3 (pc' := 100) (S' := [.long (t.2.1 42), .long (t.2.1 41)]) dm_X12_letters_97 (q_getl (v := t.2.1 42) hm rfl (fun m i l => rg_42 m i l) rfl) rfl rfl rfl ?_
          refine y_leq (x := t.2.1 41) (y := t.2.1 42) (t := 115) (pc1 := 101) (pc' := 104) dm_X12_letters_100 rfl dm_X12_letters_101 rfl rfl (fun hb3 => ?_) (fun hb3 => ?_)
          · have hq41 := hb3
            rw [l4] at hq41
            refine me0 (pc' := 116) (S' := [ii 1]) dm_X12_letters_115 rfl rfl rfl rfl ?_
            refine me2 (pc' := 120) (S' := [ii 1]) dm_X12_letters_116 rfl rfl rfl ?_
            refine me1 (pc' := 121) (L' := [(1, ii 1), (0, .ref 102)]) (S' := []) dm_X12_letters_120 rfl rfl rfl rfl ?_
            refine me1 (pc' := 122) (L' := [(1, ii 1), (0, .ref 102)]) (S' := [.ref 102]) dm_X12_letters_121 rfl rfl rfl rfl ?_
            refine me1 (pc' := 123) (L' := [(1, ii 1), (0, .ref 102)]) (S' := [ii 1, .ref 102]) dm_X12_letters_122 rfl rfl rfl rfl ?_
            refine me_1f (pc' := 126) dm_X12_letters_123 rfl (by decide) rfl ?_
            refine me0 (pc' := 127) (S' := [ii 4, .ref 102]) dm_X12_letters_126 rfl rfl rfl rfl ?_
            refine me2 (pc' := 131) (S' := [ii 4, .ref 102]) dm_X12_letters_127 rfl rfl rfl ?_
            refine me3 (pc' := 134) (S' := []) (h1 := rI pre post (va_up (va_up t.1 36 (zi true)) 38 4) t.2.1 t.2.2.1 t.2.2.2) dm_X12_letters_131 (q_puti hm rfl rfl (fun m i l v => rf_38 m i l v)) rfl rfl rfl ?_
            refine me1 (pc' := 135) (L' := [(1, ii 1), (0, .ref 102)]) (S' := [ii 1]) dm_X12_letters_134 rfl rfl rfl rfl ?_
            refine me_1f (pc' := 138) dm_X12_letters_135 rfl (by decide) rfl ?_
            refine me1 (pc' := 139) (L' := [(1, ii 1), (0, .ref 102)]) (S' := [.ref 102]) dm_X12_letters_138 rfl rfl rfl rfl ?_
            refine me1 (pc' := 140) (L' := [(1, ii 1), (0, .ref 102)]) (S' := [.ref 102, .ref 102]) dm_X12_letters_139 rfl rfl rfl rfl ?_
            refine me3 (pc' := 143) (S' := [ii (t.1 35), .ref 102]) dm_X12_letters_140 (q_geti (v := t.1 35) hm rfl (fun m i l => rg_35 m i l) rfl) rfl rfl rfl ?_
            refine me3 (pc' := 146) (S' := []) (h1 := rI pre post (va_up (va_up (va_up t.1 36 (zi true)) 38 4) 37 (t.1 35)) t.2.1 t.2.2.1 t.2.2.2) dm_X12_letters_143 (q_puti hm rfl rfl (fun m i l v => rf_37 m i l v)) rfl rfl rfl ?_
            refine y_ret (r := none) dm_X12_letters_146 rfl rfl rfl ?_
            refine ⟨rfl, (va_up (va_up (va_up t.1 36 (zi true)) 38 4) 37 (t.1 35), t.2.1, t.2.2.1, t.2.2.2), rfl, ?_⟩
            rw [hn]
            refine ⟨rtk_i (j := 37) (by decide) (rtk_i (j := 38) (by decide) (rtk_i (j := 36) (by decide) (l1))), l3, l4, ?_, l6, ?_⟩
            · show zi true = _
              first | rw [decide_eq_true (stk_O.mpr (by omega))] | rw [decide_eq_false (fun z => absurd (stk_O.mp z) (by omega))]
            · refine Or.inl ⟨?_, rfl, l3⟩
              unfold fnR
              rw [← h42, ← h20]
              first | exact Or.inl hq41 | exact Or.inr (by omega)
          · have hq41 := hb3
            rw [l4] at hq41
            refine me1 (pc' := 105) (L' := [(1, ii ((k : Nat) : Int)), (0, .ref 102)]) (S' := [.ref 102]) dm_X12_letters_104 rfl rfl rfl rfl ?_
            refine me1 (pc' := 106) (L' := [(1, ii ((k : Nat) : Int)), (0, .ref 102)]) (S' := [.ref 102, .ref 102]) dm_X12_letters_105 rfl rfl rfl rfl ?_
            refine me3 (pc' := 109) (S' := [.long (t.2.1 41), .ref 102]) dm_X12_letters_106 (q_getl (v := t.2.1 41) hm rfl (fun m i l => rg_41 m i l) rfl) rfl rfl rfl ?_
            have hfr9 : -1 ≤ fndR (t.2.2.2 20) m (Int64.ofInt (rkI bf fr k)) ∧ fndR (t.2.2.2 20) m (Int64.ofInt (rkI bf fr k)) ≤ 40 := fndR_rg hm2
            refine x_cp (pc' := 112) (v := ii (fndR (t.2.2.2 20) m (Int64.ofInt (rkI bf fr k)))) (rest := []) dm_X12_letters_109 rfl (q_inv (As := [.long (t.2.1 41)]) (S := []) hm rfl rfl rfl) rfl rfl rfl (by have z := r_functionNamed_ (s := (va_up t.1 36 (zi true), t.2.1, t.2.2.1, t.2.2.2)) (n := n) (m := m) (key := Int64.ofInt (rkI bf fr k)) (xt := xt) (post := post) hm (show 1 ≤ d - 1 by omega) (by show t.1 23 = _; rw [l1.2.2.1 23 (by omega)]; exact hvn) (by show t.1 24 = _; rw [l1.2.2.1 24 (by omega)]; exact hfn) hn40 hm2; rw [l4]; exact z) ?_
            refine y_1lt (a := fndR (t.2.2.2 20) m (Int64.ofInt (rkI bf fr k))) (t := 119) (pc' := 115) dm_X12_letters_112 rfl rfl (by omega) (fun hb4 => ?_) (fun hb4 => ?_)
            · refine me0 (pc' := 120) (S' := [ii 0]) dm_X12_letters_119 rfl rfl rfl rfl ?_
              refine me1 (pc' := 121) (L' := [(1, ii 0), (0, .ref 102)]) (S' := []) dm_X12_letters_120 rfl rfl rfl rfl ?_
              refine me1 (pc' := 122) (L' := [(1, ii 0), (0, .ref 102)]) (S' := [.ref 102]) dm_X12_letters_121 rfl rfl rfl rfl ?_
              refine me1 (pc' := 123) (L' := [(1, ii 0), (0, .ref 102)]) (S' := [ii 0, .ref 102]) dm_X12_letters_122 rfl rfl rfl rfl ?_
              refine me_1t (pc' := 130) dm_X12_letters_123 rfl (by decide) ?_
              refine me0 (pc' := 131) (S' := [ii 3, .ref 102]) dm_X12_letters_130 rfl rfl rfl rfl ?_
              refine me3 (pc' := 134) (S' := []) (h1 := rI pre post (va_up (va_up t.1 36 (zi true)) 38 3) t.2.1 t.2.2.1 t.2.2.2) dm_X12_letters_131 (q_puti hm rfl rfl (fun m i l v => rf_38 m i l v)) rfl rfl rfl ?_
              refine me1 (pc' := 135) (L' := [(1, ii 0), (0, .ref 102)]) (S' := [ii 0]) dm_X12_letters_134 rfl rfl rfl rfl ?_
              refine me_1t (pc' := 146) dm_X12_letters_135 rfl (by decide) ?_
              refine y_ret (r := none) dm_X12_letters_146 rfl rfl rfl ?_
              refine ⟨rfl, (va_up (va_up t.1 36 (zi true)) 38 3, t.2.1, t.2.2.1, t.2.2.2), rfl, ?_⟩
              rw [hn]
              refine ⟨rtk_i (j := 38) (by decide) (rtk_i (j := 36) (by decide) (l1)), l3, l4, ?_, l6, ?_⟩
              · show zi true = _
                first | rw [decide_eq_true (stk_O.mpr (by omega))] | rw [decide_eq_false (fun z => absurd (stk_O.mp z) (by omega))]
              · refine Or.inr ⟨?_, rfl, l5⟩
                unfold fnR
                rw [← h42, ← h20]
                rintro (z | z)
                · exact hq41 z
                · omega
            · refine me0 (pc' := 116) (S' := [ii 1]) dm_X12_letters_115 rfl rfl rfl rfl ?_
              refine me2 (pc' := 120) (S' := [ii 1]) dm_X12_letters_116 rfl rfl rfl ?_
              refine me1 (pc' := 121) (L' := [(1, ii 1), (0, .ref 102)]) (S' := []) dm_X12_letters_120 rfl rfl rfl rfl ?_
              refine me1 (pc' := 122) (L' := [(1, ii 1), (0, .ref 102)]) (S' := [.ref 102]) dm_X12_letters_121 rfl rfl rfl rfl ?_
              refine me1 (pc' := 123) (L' := [(1, ii 1), (0, .ref 102)]) (S' := [ii 1, .ref 102]) dm_X12_letters_122 rfl rfl rfl rfl ?_
              refine me_1f (pc' := 126) dm_X12_letters_123 rfl (by decide) rfl ?_
              refine me0 (pc' := 127) (S' := [ii 4, .ref 102]) dm_X12_letters_126 rfl rfl rfl rfl ?_
              refine me2 (pc' := 131) (S' := [ii 4, .ref 102]) dm_X12_letters_127 rfl rfl rfl ?_
              refine me3 (pc' := 134) (S' := []) (h1 := rI pre post (va_up (va_up t.1 36 (zi true)) 38 4) t.2.1 t.2.2.1 t.2.2.2) dm_X12_letters_131 (q_puti hm rfl rfl (fun m i l v => rf_38 m i l v)) rfl rfl rfl ?_
              refine me1 (pc' := 135) (L' := [(1, ii 1), (0, .ref 102)]) (S' := [ii 1]) dm_X12_letters_134 rfl rfl rfl rfl ?_
              refine me_1f (pc' := 138) dm_X12_letters_135 rfl (by decide) rfl ?_
              refine me1 (pc' := 139) (L' := [(1, ii 1), (0, .ref 102)]) (S' := [.ref 102]) dm_X12_letters_138 rfl rfl rfl rfl ?_
              refine me1 (pc' := 140) (L' := [(1, ii 1), (0, .ref 102)]) (S' := [.ref 102, .ref 102]) dm_X12_letters_139 rfl rfl rfl rfl ?_
              refine me3 (pc' := 143) (S' := [ii (t.1 35), .ref 102]) dm_X12_letters_140 (q_geti (v := t.1 35) hm rfl (fun m i l => rg_35 m i l) rfl) rfl rfl rfl ?_
              refine me3 (pc' := 146) (S' := []) (h1 := rI pre post (va_up (va_up (va_up t.1 36 (zi true)) 38 4) 37 (t.1 35)) t.2.1 t.2.2.1 t.2.2.2) dm_X12_letters_143 (q_puti hm rfl rfl (fun m i l v => rf_37 m i l v)) rfl rfl rfl ?_
              refine y_ret (r := none) dm_X12_letters_146 rfl rfl rfl ?_
              refine ⟨rfl, (va_up (va_up (va_up t.1 36 (zi true)) 38 4) 37 (t.1 35), t.2.1, t.2.2.1, t.2.2.2), rfl, ?_⟩
              rw [hn]
              refine ⟨rtk_i (j := 37) (by decide) (rtk_i (j := 38) (by decide) (rtk_i (j := 36) (by decide) (l1))), l3, l4, ?_, l6, ?_⟩
              · show zi true = _
                first | rw [decide_eq_true (stk_O.mpr (by omega))] | rw [decide_eq_false (fun z => absurd (stk_O.mp z) (by omega))]
              · refine Or.inl ⟨?_, rfl, l3⟩
                unfold fnR
                rw [← h42, ← h20]
                first | exact Or.inl hq41 | exact Or.inr (by omega)
        · replace hb2 := dF hb2
          rw [hy1] at hb2
          refine me1 (pc' := 74) (L' := [(1, ii ((k : Nat) : Int)), (0, .ref 102)]) (S' := [.ref 102, .ref 102]) dm_X12_letters_73 rfl rfl rfl rfl ?_
          refine me1 (pc' := 75) (L' := [(1, ii ((k : Nat) : Int)), (0, .ref 102)]) (S' := [.ref 102, .ref 102, .ref 102]) dm_X12_letters_74 rfl rfl rfl rfl ?_
          refine me3 (pc' := 78) (S' := [ii (t.1 35), .ref 102, .ref 102]) dm_X12_letters_75 (q_geti (v := t.1 35) hm rfl (fun m i l => rg_35 m i l) rfl) rfl rfl rfl ?_
          have hy2P : tpR t bf ln := tpR_k hP (l1)
          have hy2r := byR_r t (t.1 35)
          have hy2 : byR t (t.1 35) = byO bf ln (fr + k) := by rw [show (t.1 35 : Int) = ((fr + k : Nat) : Int) by first | rfl | omega]; exact tpR_by hy2P
          refine x_cp (pc' := 81) (v := zz (decide (97 ≤ byR t (t.1 35) ∧ byR t (t.1 35) ≤ 122))) (rest := [.ref 102]) dm_X12_letters_78 rfl (q_inv (As := [ii (t.1 35)]) (S := [.ref 102]) hm rfl rfl rfl) rfl rfl rfl (r_isLetter_ (s := t) (i := t.1 35) hm (by omega) (by omega) (by have := hy2P.1; have := hy2P.2.1; omega) hy2P.2.2.1) ?_
          refine y_zeq (c := decide (97 ≤ byR t (t.1 35) ∧ byR t (t.1 35) ≤ 122)) (t := 88) (pc' := 84) dm_X12_letters_81 rfl rfl (fun hb5 => ?_) (fun hb5 => ?_)
          · replace hb5 := dF hb5
            rw [hy2] at hb5
            refine me0 (pc' := 89) (S' := [ii 0, .ref 102]) dm_X12_letters_88 rfl rfl rfl rfl ?_
            refine me3 (pc' := 92) (S' := []) (h1 := rI pre post (va_up t.1 36 (zi false)) t.2.1 t.2.2.1 t.2.2.2) dm_X12_letters_89 (q_putz (c := false) hm rfl rfl (fun m i l v => rf_36 m i l v)) rfl rfl rfl ?_
            refine me1 (pc' := 93) (L' := [(1, ii ((k : Nat) : Int)), (0, .ref 102)]) (S' := [.ref 102]) dm_X12_letters_92 rfl rfl rfl rfl ?_
            refine me3 (pc' := 96) (S' := [.long (t.2.1 41)]) dm_X12_letters_93 (q_getl (v := t.2.1 41) hm rfl (fun m i l => rg_41 m i l) rfl) rfl rfl rfl ?_
            refine me1 (pc' := 97) (L' := [(1, ii ((k : Nat) : Int)), (0, .ref 102)]) (S' := [.ref 102, .long (t.2.1 41)]) dm_X12_letters_96 rfl rfl rfl rfl ?_
            refine me3 (pc' := 100) (S' := [.long (t.2.1 42), .long (t.2.1 41)]) dm_X12_letters_97 (q_getl (v := t.2.1 42) hm rfl (fun m i l => rg_42 m i l) rfl) rfl rfl rfl ?_
            refine y_leq (x := t.2.1 41) (y := t.2.1 42) (t := 115) (pc1 := 101) (pc' := 104) dm_X12_letters_100 rfl dm_X12_letters_101 rfl rfl (fun hb6 => ?_) (fun hb6 => ?_)
            · have hq41 := hb6
              rw [l4] at hq41
              refine me0 (pc' := 116) (S' := [ii 1]) dm_X12_letters_115 rfl rfl rfl rfl ?_
              refine me2 (pc' := 120) (S' := [ii 1]) dm_X12_letters_116 rfl rfl rfl ?_
              refine me1 (pc' := 121) (L' := [(1, ii 1), (0, .ref 102)]) (S' := []) dm_X12_letters_120 rfl rfl rfl rfl ?_
              refine me1 (pc' := 122) (L' := [(1, ii 1), (0, .ref 102)]) (S' := [.ref 102]) dm_X12_letters_121 rfl rfl rfl rfl ?_
              refine me1 (pc' := 123) (L' := [(1, ii 1), (0, .ref 102)]) (S' := [ii 1, .ref 102]) dm_X12_letters_122 rfl rfl rfl rfl ?_
              refine me_1f (pc' := 126) dm_X12_letters_123 rfl (by decide) rfl ?_
              refine me0 (pc' := 127) (S' := [ii 4, .ref 102]) dm_X12_letters_126 rfl rfl rfl rfl ?_
              refine me2 (pc' := 131) (S' := [ii 4, .ref 102]) dm_X12_letters_127 rfl rfl rfl ?_
              refine me3 (pc' := 134) (S' := []) (h1 := rI pre post (va_up (va_up t.1 36 (zi false)) 38 4) t.2.1 t.2.2.1 t.2.2.2) dm_X12_letters_131 (q_puti hm rfl rfl (fun m i l v => rf_38 m i l v)) rfl rfl rfl ?_
              refine me1 (pc' := 135) (L' := [(1, ii 1), (0, .ref 102)]) (S' := [ii 1]) dm_X12_letters_134 rfl rfl rfl rfl ?_
              refine me_1f (pc' := 138) dm_X12_letters_135 rfl (by decide) rfl ?_
              refine me1 (pc' := 139) (L' := [(1, ii 1), (0, .ref 102)]) (S' := [.ref 102]) dm_X12_letters_138 rfl rfl rfl rfl ?_
              refine me1 (pc' := 140) (L' := [(1, ii 1), (0, .ref 102)]) (S' := [.ref 102, .ref 102]) dm_X12_letters_139 rfl rfl rfl rfl ?_
              refine me3 (pc' := 143) (S' := [ii (t.1 35), .ref 102]) dm_X12_letters_140 (q_geti (v := t.1 35) hm rfl (fun m i l => rg_35 m i l) rfl) rfl rfl rfl ?_
              refine me3 (pc' := 146) (S' := []) (h1 := rI pre post (va_up (va_up (va_up t.1 36 (zi false)) 38 4) 37 (t.1 35)) t.2.1 t.2.2.1 t.2.2.2) dm_X12_letters_143 (q_puti hm rfl rfl (fun m i l v => rf_37 m i l v)) rfl rfl rfl ?_
              refine y_ret (r := none) dm_X12_letters_146 rfl rfl rfl ?_
              refine ⟨rfl, (va_up (va_up (va_up t.1 36 (zi false)) 38 4) 37 (t.1 35), t.2.1, t.2.2.1, t.2.2.2), rfl, ?_⟩
              rw [hn]
              refine ⟨rtk_i (j := 37) (by decide) (rtk_i (j := 38) (by decide) (rtk_i (j := 36) (by decide) (l1))), l3, l4, ?_, l6, ?_⟩
              · show zi false = _
                first | rw [decide_eq_true (stk_O.mpr (by omega))] | rw [decide_eq_false (fun z => absurd (stk_O.mp z) (by omega))]
              · refine Or.inl ⟨?_, rfl, l3⟩
                unfold fnR
                rw [← h42, ← h20]
                first | exact Or.inl hq41 | exact Or.inr (by omega)
            · have hq41 := hb6
              rw [l4] at hq41
              refine me1 (pc' := 105) (L' := [(1, ii ((k : Nat) : Int)), (0, .ref 102)]) (S' := [.ref 102]) dm_X12_letters_104 rfl rfl rfl rfl ?_
              refine me1 (pc' := 106) (L' := [(1, ii ((k : Nat) : Int)), (0, .ref 102)]) (S' := [.ref 102, .ref 102]) dm_X12_letters_105 rfl rfl rfl rfl ?_
              refine me3 (pc' := 109) (S' := [.long (t.2.1 41), .ref 102]) dm_X12_letters_106 (q_getl (v := t.2.1 41) hm rfl (fun m i l => rg_41 m i l) rfl) rfl rfl rfl ?_
              have hfr9 : -1 ≤ fndR (t.2.2.2 20) m (Int64.ofInt (rkI bf fr k)) ∧ fndR (t.2.2.2 20) m (Int64.ofInt (rkI bf fr k)) ≤ 40 := fndR_rg hm2
              refine x_cp (pc' := 112) (v := ii (fndR (t.2.2.2 20) m (Int64.ofInt (rkI bf fr k)))) (rest := []) dm_X12_letters_109 rfl (q_inv (As := [.long (t.2.1 41)]) (S := []) hm rfl rfl rfl) rfl rfl rfl (by have z := r_functionNamed_ (s := (va_up t.1 36 (zi false), t.2.1, t.2.2.1, t.2.2.2)) (n := n) (m := m) (key := Int64.ofInt (rkI bf fr k)) (xt := xt) (post := post) hm (show 1 ≤ d - 1 by omega) (by show t.1 23 = _; rw [l1.2.2.1 23 (by omega)]; exact hvn) (by show t.1 24 = _; rw [l1.2.2.1 24 (by omega)]; exact hfn) hn40 hm2; rw [l4]; exact z) ?_
              refine y_1lt (a := fndR (t.2.2.2 20) m (Int64.ofInt (rkI bf fr k))) (t := 119) (pc' := 115) dm_X12_letters_112 rfl rfl (by omega) (fun hb7 => ?_) (fun hb7 => ?_)
              · refine me0 (pc' := 120) (S' := [ii 0]) dm_X12_letters_119 rfl rfl rfl rfl ?_
                refine me1 (pc' := 121) (L' := [(1, ii 0), (0, .ref 102)]) (S' := []) dm_X12_letters_120 rfl rfl rfl rfl ?_
                refine me1 (pc' := 122) (L' := [(1, ii 0), (0, .ref 102)]) (S' := [.ref 102]) dm_X12_letters_121 rfl rfl rfl rfl ?_
                refine me1 (pc' := 123) (L' := [(1, ii 0), (0, .ref 102)]) (S' := [ii 0, .ref 102]) dm_X12_letters_122 rfl rfl rfl rfl ?_
                refine me_1t (pc' := 130) dm_X12_letters_123 rfl (by decide) ?_
                refine me0 (pc' := 131) (S' := [ii 3, .ref 102]) dm_X12_letters_130 rfl rfl rfl rfl ?_
                refine me3 (pc' := 134) (S' := []) (h1 := rI pre post (va_up (va_up t.1 36 (zi false)) 38 3) t.2.1 t.2.2.1 t.2.2.2) dm_X12_letters_131 (q_puti hm rfl rfl (fun m i l v => rf_38 m i l v)) rfl rfl rfl ?_
                refine me1 (pc' := 135) (L' := [(1, ii 0), (0, .ref 102)]) (S' := [ii 0]) dm_X12_letters_134 rfl rfl rfl rfl ?_
                refine me_1t (pc' := 146) dm_X12_letters_135 rfl (by decide) ?_
                refine y_ret (r := none) dm_X12_letters_146 rfl rfl rfl ?_
                refine ⟨rfl, (va_up (va_up t.1 36 (zi false)) 38 3, t.2.1, t.2.2.1, t.2.2.2), rfl, ?_⟩
                rw [hn]
                refine ⟨rtk_i (j := 38) (by decide) (rtk_i (j := 36) (by decide) (l1)), l3, l4, ?_, l6, ?_⟩
                · show zi false = _
                  first | rw [decide_eq_true (stk_O.mpr (by omega))] | rw [decide_eq_false (fun z => absurd (stk_O.mp z) (by omega))]
                · refine Or.inr ⟨?_, rfl, l5⟩
                  unfold fnR
                  rw [← h42, ← h20]
                  rintro (z | z)
                  · exact hq41 z
                  · omega
              · refine me0 (pc' := 116) (S' := [ii 1]) dm_X12_letters_115 rfl rfl rfl rfl ?_
                refine me2 (pc' := 120) (S' := [ii 1]) dm_X12_letters_116 rfl rfl rfl ?_
                refine me1 (pc' := 121) (L' := [(1, ii 1), (0, .ref 102)]) (S' := []) dm_X12_letters_120 rfl rfl rfl rfl ?_
                refine me1 (pc' := 122) (L' := [(1, ii 1), (0, .ref 102)]) (S' := [.ref 102]) dm_X12_letters_121 rfl rfl rfl rfl ?_
                refine me1 (pc' := 123) (L' := [(1, ii 1), (0, .ref 102)]) (S' := [ii 1, .ref 102]) dm_X12_letters_122 rfl rfl rfl rfl ?_
                refine me_1f (pc' := 126) dm_X12_letters_123 rfl (by decide) rfl ?_
                refine me0 (pc' := 127) (S' := [ii 4, .ref 102]) dm_X12_letters_126 rfl rfl rfl rfl ?_
                refine me2 (pc' := 131) (S' := [ii 4, .ref 102]) dm_X12_letters_127 rfl rfl rfl ?_
                refine me3 (pc' := 134) (S' := []) (h1 := rI pre post (va_up (va_up t.1 36 (zi false)) 38 4) t.2.1 t.2.2.1 t.2.2.2) dm_X12_letters_131 (q_puti hm rfl rfl (fun m i l v => rf_38 m i l v)) rfl rfl rfl ?_
                refine me1 (pc' := 135) (L' := [(1, ii 1), (0, .ref 102)]) (S' := [ii 1]) dm_X12_letters_134 rfl rfl rfl rfl ?_
                refine me_1f (pc' := 138) dm_X12_letters_135 rfl (by decide) rfl ?_
                refine me1 (pc' := 139) (L' := [(1, ii 1), (0, .ref 102)]) (S' := [.ref 102]) dm_X12_letters_138 rfl rfl rfl rfl ?_
                refine me1 (pc' := 140) (L' := [(1, ii 1), (0, .ref 102)]) (S' := [.ref 102, .ref 102]) dm_X12_letters_139 rfl rfl rfl rfl ?_
                refine me3 (pc' := 143) (S' := [ii (t.1 35), .ref 102]) dm_X12_letters_140 (q_geti (v := t.1 35) hm rfl (fun m i l => rg_35 m i l) rfl) rfl rfl rfl ?_
                refine me3 (pc' := 146) (S' := []) (h1 := rI pre post (va_up (va_up (va_up t.1 36 (zi false)) 38 4) 37 (t.1 35)) t.2.1 t.2.2.1 t.2.2.2) dm_X12_letters_143 (q_puti hm rfl rfl (fun m i l v => rf_37 m i l v)) rfl rfl rfl ?_
                refine y_ret (r := none) dm_X12_letters_146 rfl rfl rfl ?_
                refine ⟨rfl, (va_up (va_up (va_up t.1 36 (zi false)) 38 4) 37 (t.1 35), t.2.1, t.2.2.1, t.2.2.2), rfl, ?_⟩
                rw [hn]
                refine ⟨rtk_i (j := 37) (by decide) (rtk_i (j := 38) (by decide) (rtk_i (j := 36) (by decide) (l1))), l3, l4, ?_, l6, ?_⟩
                · show zi false = _
                  first | rw [decide_eq_true (stk_O.mpr (by omega))] | rw [decide_eq_false (fun z => absurd (stk_O.mp z) (by omega))]
                · refine Or.inl ⟨?_, rfl, l3⟩
                  unfold fnR
                  rw [← h42, ← h20]
                  first | exact Or.inl hq41 | exact Or.inr (by omega)
          · replace hb5 := dT hb5
            rw [hy2] at hb5
            refine me0 (pc' := 85) (S' := [ii 1, .ref 102]) dm_X12_letters_84 rfl rfl rfl rfl ?_
            refine me2 (pc' := 89) (S' := [ii 1, .ref 102]) dm_X12_letters_85 rfl rfl rfl ?_
            refine me3 (pc' := 92) (S' := []) (h1 := rI pre post (va_up t.1 36 (zi true)) t.2.1 t.2.2.1 t.2.2.2) dm_X12_letters_89 (q_putz (c := true) hm rfl rfl (fun m i l v => rf_36 m i l v)) rfl rfl rfl ?_
            refine me1 (pc' := 93) (L' := [(1, ii ((k : Nat) : Int)), (0, .ref 102)]) (S' := [.ref 102]) dm_X12_letters_92 rfl rfl rfl rfl ?_
            refine me3 (pc' := 96) (S' := [.long (t.2.1 41)]) dm_X12_letters_93 (q_getl (v := t.2.1 41) hm rfl (fun m i l => rg_41 m i l) rfl) rfl rfl rfl ?_
            refine me1 (pc' := 97) (L' := [(1, ii ((k : Nat) : Int)), (0, .ref 102)]) (S' := [.ref 102, .long (t.2.1 41)]) dm_X12_letters_96 rfl rfl rfl rfl ?_
            refine me3 (pc' := 100) (S' := [.long (t.2.1 42), .long (t.2.1 41)]) dm_X12_letters_97 (q_getl (v := t.2.1 42) hm rfl (fun m i l => rg_42 m i l) rfl) rfl rfl rfl ?_
            refine y_leq (x := t.2.1 41) (y := t.2.1 42) (t := 115) (pc1 := 101) (pc' := 104) dm_X12_letters_100 rfl dm_X12_letters_101 rfl rfl (fun hb8 => ?_) (fun hb8 => ?_)
            · have hq41 := hb8
              rw [l4] at hq41
              refine me0 (pc' := 116) (S' := [ii 1]) dm_X12_letters_115 rfl rfl rfl rfl ?_
              refine me2 (pc' := 120) (S' := [ii 1]) dm_X12_letters_116 rfl rfl rfl ?_
              refine me1 (pc' := 121) (L' := [(1, ii 1), (0, .ref 102)]) (S' := []) dm_X12_letters_120 rfl rfl rfl rfl ?_
              refine me1 (pc' := 122) (L' := [(1, ii 1), (0, .ref 102)]) (S' := [.ref 102]) dm_X12_letters_121 rfl rfl rfl rfl ?_
              refine me1 (pc' := 123) (L' := [(1, ii 1), (0, .ref 102)]) (S' := [ii 1, .ref 102]) dm_X12_letters_122 rfl rfl rfl rfl ?_
              refine me_1f (pc' := 126) dm_X12_letters_123 rfl (by decide) rfl ?_
              refine me0 (pc' := 127) (S' := [ii 4, .ref 102]) dm_X12_letters_126 rfl rfl rfl rfl ?_
              refine me2 (pc' := 131) (S' := [ii 4, .ref 102]) dm_X12_letters_127 rfl rfl rfl ?_
              refine me3 (pc' := 134) (S' := []) (h1 := rI pre post (va_up (va_up t.1 36 (zi true)) 38 4) t.2.1 t.2.2.1 t.2.2.2) dm_X12_letters_131 (q_puti hm rfl rfl (fun m i l v => rf_38 m i l v)) rfl rfl rfl ?_
              refine me1 (pc' := 135) (L' := [(1, ii 1), (0, .ref 102)]) (S' := [ii 1]) dm_X12_letters_134 rfl rfl rfl rfl ?_
              refine me_1f (pc' := 138) dm_X12_letters_135 rfl (by decide) rfl ?_
              refine me1 (pc' := 139) (L' := [(1, ii 1), (0, .ref 102)]) (S' := [.ref 102]) dm_X12_letters_138 rfl rfl rfl rfl ?_
              refine me1 (pc' := 140) (L' := [(1, ii 1), (0, .ref 102)]) (S' := [.ref 102, .ref 102]) dm_X12_letters_139 rfl rfl rfl rfl ?_
              refine me3 (pc' := 143) (S' := [ii (t.1 35), .ref 102]) dm_X12_letters_140 (q_geti (v := t.1 35) hm rfl (fun m i l => rg_35 m i l) rfl) rfl rfl rfl ?_
              refine me3 (pc' := 146) (S' := []) (h1 := rI pre post (va_up (va_up (va_up t.1 36 (zi true)) 38 4) 37 (t.1 35)) t.2.1 t.2.2.1 t.2.2.2) dm_X12_letters_143 (q_puti hm rfl rfl (fun m i l v => rf_37 m i l v)) rfl rfl rfl ?_
              refine y_ret (r := none) dm_X12_letters_146 rfl rfl rfl ?_
              refine ⟨rfl, (va_up (va_up (va_up t.1 36 (zi true)) 38 4) 37 (t.1 35), t.2.1, t.2.2.1, t.2.2.2), rfl, ?_⟩
              rw [hn]
              refine ⟨rtk_i (j := 37) (by decide) (rtk_i (j := 38) (by decide) (rtk_i (j := 36) (by decide) (l1))), l3, l4, ?_, l6, ?_⟩
              · show zi true = _
                first | rw [decide_eq_true (stk_O.mpr (by omega))] | rw [decide_eq_false (fun z => absurd (stk_O.mp z) (by omega))]
              · refine Or.inl ⟨?_, rfl, l3⟩
                unfold fnR
                rw [← h42, ← h20]
                first | exact Or.inl hq41 | exact Or.inr (by omega)
            · have hq41 := hb8
              rw [l4] at hq41
              refine me1 (pc' := 105) (L' := [(1, ii ((k : Nat) : Int)), (0, .ref 102)]) (S' := [.ref 102]) dm_X12_letters_104 rfl rfl rfl rfl ?_
              refine me1 (pc' := 106) (L' := [(1, ii ((k : Nat) : Int)), (0, .ref 102)]) (S' := [.ref 102, .ref 102]) dm_X12_letters_105 rfl rfl rfl rfl ?_
              refine me3 (pc' := 109) (S' := [.long (t.2.1 41), .ref 102]) dm_X12_letters_106 (q_getl (v := t.2.1 41) hm rfl (fun m i l => rg_41 m i l) rfl) rfl rfl rfl ?_
              have hfr9 : -1 ≤ fndR (t.2.2.2 20) m (Int64.ofInt (rkI bf fr k)) ∧ fndR (t.2.2.2 20) m (Int64.ofInt (rkI bf fr k)) ≤ 40 := fndR_rg hm2
              refine x_cp (pc' := 112) (v := ii (fndR (t.2.2.2 20) m (Int64.ofInt (rkI bf fr k)))) (rest := []) dm_X12_letters_109 rfl (q_inv (As := [.long (t.2.1 41)]) (S := []) hm rfl rfl rfl) rfl rfl rfl (by have z := r_functionNamed_ (s := (va_up t.1 36 (zi true), t.2.1, t.2.2.1, t.2.2.2)) (n := n) (m := m) (key := Int64.ofInt (rkI bf fr k)) (xt := xt) (post := post) hm (show 1 ≤ d - 1 by omega) (by show t.1 23 = _; rw [l1.2.2.1 23 (by omega)]; exact hvn) (by show t.1 24 = _; rw [l1.2.2.1 24 (by omega)]; exact hfn) hn40 hm2; rw [l4]; exact z) ?_
              refine y_1lt (a := fndR (t.2.2.2 20) m (Int64.ofInt (rkI bf fr k))) (t := 119) (pc' := 115) dm_X12_letters_112 rfl rfl (by omega) (fun hb9 => ?_) (fun hb9 => ?_)
              · refine me0 (pc' := 120) (S' := [ii 0]) dm_X12_letters_119 rfl rfl rfl rfl ?_
                refine me1 (pc' := 121) (L' := [(1, ii 0), (0, .ref 102)]) (S' := []) dm_X12_letters_120 rfl rfl rfl rfl ?_
                refine me1 (pc' := 122) (L' := [(1, ii 0), (0, .ref 102)]) (S' := [.ref 102]) dm_X12_letters_121 rfl rfl rfl rfl ?_
                refine me1 (pc' := 123) (L' := [(1, ii 0), (0, .ref 102)]) (S' := [ii 0, .ref 102]) dm_X12_letters_122 rfl rfl rfl rfl ?_
                refine me_1t (pc' := 130) dm_X12_letters_123 rfl (by decide) ?_
                refine me0 (pc' := 131) (S' := [ii 3, .ref 102]) dm_X12_letters_130 rfl rfl rfl rfl ?_
                refine me3 (pc' := 134) (S' := []) (h1 := rI pre post (va_up (va_up t.1 36 (zi true)) 38 3) t.2.1 t.2.2.1 t.2.2.2) dm_X12_letters_131 (q_puti hm rfl rfl (fun m i l v => rf_38 m i l v)) rfl rfl rfl ?_
                refine me1 (pc' := 135) (L' := [(1, ii 0), (0, .ref 102)]) (S' := [ii 0]) dm_X12_letters_134 rfl rfl rfl rfl ?_
                refine me_1t (pc' := 146) dm_X12_letters_135 rfl (by decide) ?_
                refine y_ret (r := none) dm_X12_letters_146 rfl rfl rfl ?_
                refine ⟨rfl, (va_up (va_up t.1 36 (zi true)) 38 3, t.2.1, t.2.2.1, t.2.2.2), rfl, ?_⟩
                rw [hn]
                refine ⟨rtk_i (j := 38) (by decide) (rtk_i (j := 36) (by decide) (l1)), l3, l4, ?_, l6, ?_⟩
                · show zi true = _
                  first | rw [decide_eq_true (stk_O.mpr (by omega))] | rw [decide_eq_false (fun z => absurd (stk_O.mp z) (by omega))]
                · refine Or.inr ⟨?_, rfl, l5⟩
                  unfold fnR
                  rw [← h42, ← h20]
                  rintro (z | z)
                  · exact hq41 z
                  · omega
              · refine me0 (pc' := 116) (S' := [ii 1]) dm_X12_letters_115 rfl rfl rfl rfl ?_
                refine me2 (pc' := 120) (S' := [ii 1]) dm_X12_letters_116 rfl rfl rfl ?_
                refine me1 (pc' := 121) (L' := [(1, ii 1), (0, .ref 102)]) (S' := []) dm_X12_letters_120 rfl rfl rfl rfl ?_
                refine me1 (pc' := 122) (L' := [(1, ii 1), (0, .ref 102)]) (S' := [.ref 102]) dm_X12_letters_121 rfl rfl rfl rfl ?_
                refine me1 (pc' := 123) (L' := [(1, ii 1), (0, .ref 102)]) (S' := [ii 1, .ref 102]) dm_X12_letters_122 rfl rfl rfl rfl ?_
                refine me_1f (pc' := 126) dm_X12_letters_123 rfl (by decide) rfl ?_
                refine me0 (pc' := 127) (S' := [ii 4, .ref 102]) dm_X12_letters_126 rfl rfl rfl rfl ?_
                refine me2 (pc' := 131) (S' := [ii 4, .ref 102]) dm_X12_letters_127 rfl rfl rfl ?_
                refine me3 (pc' := 134) (S' := []) (h1 := rI pre post (va_up (va_up t.1 36 (zi true)) 38 4) t.2.1 t.2.2.1 t.2.2.2) dm_X12_letters_131 (q_puti hm rfl rfl (fun m i l v => rf_38 m i l v)) rfl rfl rfl ?_
                refine me1 (pc' := 135) (L' := [(1, ii 1), (0, .ref 102)]) (S' := [ii 1]) dm_X12_letters_134 rfl rfl rfl rfl ?_
                refine me_1f (pc' := 138) dm_X12_letters_135 rfl (by decide) rfl ?_
                refine me1 (pc' := 139) (L' := [(1, ii 1), (0, .ref 102)]) (S' := [.ref 102]) dm_X12_letters_138 rfl rfl rfl rfl ?_
                refine me1 (pc' := 140) (L' := [(1, ii 1), (0, .ref 102)]) (S' := [.ref 102, .ref 102]) dm_X12_letters_139 rfl rfl rfl rfl ?_
                refine me3 (pc' := 143) (S' := [ii (t.1 35), .ref 102]) dm_X12_letters_140 (q_geti (v := t.1 35) hm rfl (fun m i l => rg_35 m i l) rfl) rfl rfl rfl ?_
                refine me3 (pc' := 146) (S' := []) (h1 := rI pre post (va_up (va_up (va_up t.1 36 (zi true)) 38 4) 37 (t.1 35)) t.2.1 t.2.2.1 t.2.2.2) dm_X12_letters_143 (q_puti hm rfl rfl (fun m i l v => rf_37 m i l v)) rfl rfl rfl ?_
                refine y_ret (r := none) dm_X12_letters_146 rfl rfl rfl ?_
                refine ⟨rfl, (va_up (va_up (va_up t.1 36 (zi true)) 38 4) 37 (t.1 35), t.2.1, t.2.2.1, t.2.2.2), rfl, ?_⟩
                rw [hn]
                refine ⟨rtk_i (j := 37) (by decide) (rtk_i (j := 38) (by decide) (rtk_i (j := 36) (by decide) (l1))), l3, l4, ?_, l6, ?_⟩
                · show zi true = _
                  first | rw [decide_eq_true (stk_O.mpr (by omega))] | rw [decide_eq_false (fun z => absurd (stk_O.mp z) (by omega))]
                · refine Or.inl ⟨?_, rfl, l3⟩
                  unfold fnR
                  rw [← h42, ← h20]
                  first | exact Or.inl hq41 | exact Or.inr (by omega)
      · refine me1 (pc' := 14) (L' := [(1, ii ((k : Nat) : Int)), (0, .ref 102)]) (S' := [.ref 102]) dm_X12_letters_13 rfl rfl rfl rfl ?_
        refine me1 (pc' := 15) (L' := [(1, ii ((k : Nat) : Int)), (0, .ref 102)]) (S' := [.ref 102, .ref 102]) dm_X12_letters_14 rfl rfl rfl rfl ?_
        refine me3 (pc' := 18) (S' := [ii (t.1 35), .ref 102]) dm_X12_letters_15 (q_geti (v := t.1 35) hm rfl (fun m i l => rg_35 m i l) rfl) rfl rfl rfl ?_
        have hy1P : tpR t bf ln := tpR_k hP (l1)
        have hy1r := byR_r t (t.1 35)
        have hy1 : byR t (t.1 35) = byO bf ln (fr + k) := by rw [show (t.1 35 : Int) = ((fr + k : Nat) : Int) by first | rfl | omega]; exact tpR_by hy1P
        refine x_cp (pc' := 21) (v := zz (decide (97 ≤ byR t (t.1 35) ∧ byR t (t.1 35) ≤ 122))) (rest := []) dm_X12_letters_18 rfl (q_inv (As := [ii (t.1 35)]) (S := []) hm rfl rfl rfl) rfl rfl rfl (r_isLetter_ (s := t) (i := t.1 35) hm (by omega) (by omega) (by have := hy1P.1; have := hy1P.2.1; omega) hy1P.2.2.1) ?_
        refine y_zeq (c := decide (97 ≤ byR t (t.1 35) ∧ byR t (t.1 35) ≤ 122)) (t := 61) (pc' := 24) dm_X12_letters_21 rfl rfl (fun hb10 => ?_) (fun hb10 => ?_)
        · replace hb10 := dF hb10
          rw [hy1] at hb10
          have hn : (rnL ltB bf ln 8 fr) = k := rnL_eq 8 fr k hk hrun (Or.inr (fun z => by have z2 := of_decide_eq_true z.2; rw [← byO_in (bf := bf) z.1] at z2; exact hb10 z2))
          refine me1 (pc' := 62) (L' := [(1, ii ((k : Nat) : Int)), (0, .ref 102)]) (S' := [.ref 102]) dm_X12_letters_61 rfl rfl rfl rfl ?_
          refine me1 (pc' := 63) (L' := [(1, ii ((k : Nat) : Int)), (0, .ref 102)]) (S' := [.ref 102, .ref 102]) dm_X12_letters_62 rfl rfl rfl rfl ?_
          refine me1 (pc' := 64) (L' := [(1, ii ((k : Nat) : Int)), (0, .ref 102)]) (S' := [.ref 102, .ref 102, .ref 102]) dm_X12_letters_63 rfl rfl rfl rfl ?_
          refine me3 (pc' := 67) (S' := [ii (t.1 35), .ref 102, .ref 102]) dm_X12_letters_64 (q_geti (v := t.1 35) hm rfl (fun m i l => rg_35 m i l) rfl) rfl rfl rfl ?_
          have hy2P : tpR t bf ln := tpR_k hP (l1)
          have hy2r := byR_r t (t.1 35)
          have hy2 : byR t (t.1 35) = byO bf ln (fr + k) := by rw [show (t.1 35 : Int) = ((fr + k : Nat) : Int) by first | rfl | omega]; exact tpR_by hy2P
          refine x_cp (pc' := 70) (v := zz (decide (48 ≤ byR t (t.1 35) ∧ byR t (t.1 35) ≤ 57))) (rest := [.ref 102]) dm_X12_letters_67 rfl (q_inv (As := [ii (t.1 35)]) (S := [.ref 102]) hm rfl rfl rfl) rfl rfl rfl (r_isDigit_ (s := t) (i := t.1 35) hm (by omega) (by omega) (by have := hy2P.1; have := hy2P.2.1; omega) hy2P.2.2.1) ?_
          refine y_zne (c := decide (48 ≤ byR t (t.1 35) ∧ byR t (t.1 35) ≤ 57)) (t := 84) (pc' := 73) dm_X12_letters_70 rfl rfl (fun hb11 => ?_) (fun hb11 => ?_)
          · replace hb11 := dT hb11
            rw [hy2] at hb11
            refine me0 (pc' := 85) (S' := [ii 1, .ref 102]) dm_X12_letters_84 rfl rfl rfl rfl ?_
            refine me2 (pc' := 89) (S' := [ii 1, .ref 102]) dm_X12_letters_85 rfl rfl rfl ?_
            refine me3 (pc' := 92) (S' := []) (h1 := rI pre post (va_up t.1 36 (zi true)) t.2.1 t.2.2.1 t.2.2.2) dm_X12_letters_89 (q_putz (c := true) hm rfl rfl (fun m i l v => rf_36 m i l v)) rfl rfl rfl ?_
            refine me1 (pc' := 93) (L' := [(1, ii ((k : Nat) : Int)), (0, .ref 102)]) (S' := [.ref 102]) dm_X12_letters_92 rfl rfl rfl rfl ?_
            refine me3 (pc' := 96) (S' := [.long (t.2.1 41)]) dm_X12_letters_93 (q_getl (v := t.2.1 41) hm rfl (fun m i l => rg_41 m i l) rfl) rfl rfl rfl ?_
            refine me1 (pc' := 97) (L' := [(1, ii ((k : Nat) : Int)), (0, .ref 102)]) (S' := [.ref 102, .long (t.2.1 41)]) dm_X12_letters_96 rfl rfl rfl rfl ?_
            refine me3 (pc' := 100) (S' := [.long (t.2.1 42), .long (t.2.1 41)]) dm_X12_letters_97 (q_getl (v := t.2.1 42) hm rfl (fun m i l => rg_42 m i l) rfl) rfl rfl rfl ?_
            refine y_leq (x := t.2.1 41) (y := t.2.1 42) (t := 115) (pc1 := 101) (pc' := 104) dm_X12_letters_100 rfl dm_X12_letters_101 rfl rfl (fun hb12 => ?_) (fun hb12 => ?_)
            · have hq41 := hb12
              rw [l4] at hq41
              refine me0 (pc' := 116) (S' := [ii 1]) dm_X12_letters_115 rfl rfl rfl rfl ?_
              refine me2 (pc' := 120) (S' := [ii 1]) dm_X12_letters_116 rfl rfl rfl ?_
              refine me1 (pc' := 121) (L' := [(1, ii 1), (0, .ref 102)]) (S' := []) dm_X12_letters_120 rfl rfl rfl rfl ?_
              refine me1 (pc' := 122) (L' := [(1, ii 1), (0, .ref 102)]) (S' := [.ref 102]) dm_X12_letters_121 rfl rfl rfl rfl ?_
              refine me1 (pc' := 123) (L' := [(1, ii 1), (0, .ref 102)]) (S' := [ii 1, .ref 102]) dm_X12_letters_122 rfl rfl rfl rfl ?_
              refine me_1f (pc' := 126) dm_X12_letters_123 rfl (by decide) rfl ?_
              refine me0 (pc' := 127) (S' := [ii 4, .ref 102]) dm_X12_letters_126 rfl rfl rfl rfl ?_
              refine me2 (pc' := 131) (S' := [ii 4, .ref 102]) dm_X12_letters_127 rfl rfl rfl ?_
              refine me3 (pc' := 134) (S' := []) (h1 := rI pre post (va_up (va_up t.1 36 (zi true)) 38 4) t.2.1 t.2.2.1 t.2.2.2) dm_X12_letters_131 (q_puti hm rfl rfl (fun m i l v => rf_38 m i l v)) rfl rfl rfl ?_
              refine me1 (pc' := 135) (L' := [(1, ii 1), (0, .ref 102)]) (S' := [ii 1]) dm_X12_letters_134 rfl rfl rfl rfl ?_
              refine me_1f (pc' := 138) dm_X12_letters_135 rfl (by decide) rfl ?_
              refine me1 (pc' := 139) (L' := [(1, ii 1), (0, .ref 102)]) (S' := [.ref 102]) dm_X12_letters_138 rfl rfl rfl rfl ?_
              refine me1 (pc' := 140) (L' := [(1, ii 1), (0, .ref 102)]) (S' := [.ref 102, .ref 102]) dm_X12_letters_139 rfl rfl rfl rfl ?_
              refine me3 (pc' := 143) (S' := [ii (t.1 35), .ref 102]) dm_X12_letters_140 (q_geti (v := t.1 35) hm rfl (fun m i l => rg_35 m i l) rfl) rfl rfl rfl ?_
              refine me3 (pc' := 146) (S' := []) (h1 := rI pre post (va_up (va_up (va_up t.1 36 (zi true)) 38 4) 37 (t.1 35)) t.2.1 t.2.2.1 t.2.2.2) dm_X12_letters_143 (q_puti hm rfl rfl (fun m i l v => rf_37 m i l v)) rfl rfl rfl ?_
              refine y_ret (r := none) dm_X12_letters_146 rfl rfl rfl ?_
              refine ⟨rfl, (va_up (va_up (va_up t.1 36 (zi true)) 38 4) 37 (t.1 35), t.2.1, t.2.2.1, t.2.2.2), rfl, ?_⟩
              rw [hn]
              refine ⟨rtk_i (j := 37) (by decide) (rtk_i (j := 38) (by decide) (rtk_i (j := 36) (by decide) (l1))), l3, l4, ?_, l6, ?_⟩
              · show zi true = _
                first | rw [decide_eq_true (stk_O.mpr (by omega))] | rw [decide_eq_false (fun z => absurd (stk_O.mp z) (by omega))]
              · refine Or.inl ⟨?_, rfl, l3⟩
                unfold fnR
                rw [← h42, ← h20]
                first | exact Or.inl hq41 | exact Or.inr (by omega)
            · have hq41 := hb12
              rw [l4] at hq41
              refine me1 (pc' := 105) (L' := [(1, ii ((k : Nat) : Int)), (0, .ref 102)]) (S' := [.ref 102]) dm_X12_letters_104 rfl rfl rfl rfl ?_
              refine me1 (pc' := 106) (L' := [(1, ii ((k : Nat) : Int)), (0, .ref 102)]) (S' := [.ref 102, .ref 102]) dm_X12_letters_105 rfl rfl rfl rfl ?_
              refine me3 (pc' := 109) (S' := [.long (t.2.1 41), .ref 102]) dm_X12_letters_106 (q_getl (v := t.2.1 41) hm rfl (fun m i l => rg_41 m i l) rfl) rfl rfl rfl ?_
              have hfr9 : -1 ≤ fndR (t.2.2.2 20) m (Int64.ofInt (rkI bf fr k)) ∧ fndR (t.2.2.2 20) m (Int64.ofInt (rkI bf fr k)) ≤ 40 := fndR_rg hm2
              refine x_cp (pc' := 112) (v := ii (fndR (t.2.2.2 20) m (Int64.ofInt (rkI bf fr k)))) (rest := []) dm_X12_letters_109 rfl (q_inv (As := [.long (t.2.1 41)]) (S := []) hm rfl rfl rfl) rfl rfl rfl (by have z := r_functionNamed_ (s := (va_up t.1 36 (zi true), t.2.1, t.2.2.1, t.2.2.2)) (n := n) (m := m) (key := Int64.ofInt (rkI bf fr k)) (xt := xt) (post := post) hm (show 1 ≤ d - 1 by omega) (by show t.1 23 = _; rw [l1.2.2.1 23 (by omega)]; exact hvn) (by show t.1 24 = _; rw [l1.2.2.1 24 (by omega)]; exact hfn) hn40 hm2; rw [l4]; exact z) ?_
              refine y_1lt (a := fndR (t.2.2.2 20) m (Int64.ofInt (rkI bf fr k))) (t := 119) (pc' := 115) dm_X12_letters_112 rfl rfl (by omega) (fun hb13 => ?_) (fun hb13 => ?_)
              · refine me0 (pc' := 120) (S' := [ii 0]) dm_X12_letters_119 rfl rfl rfl rfl ?_
                refine me1 (pc' := 121) (L' := [(1, ii 0), (0, .ref 102)]) (S' := []) dm_X12_letters_120 rfl rfl rfl rfl ?_
                refine me1 (pc' := 122) (L' := [(1, ii 0), (0, .ref 102)]) (S' := [.ref 102]) dm_X12_letters_121 rfl rfl rfl rfl ?_
                refine me1 (pc' := 123) (L' := [(1, ii 0), (0, .ref 102)]) (S' := [ii 0, .ref 102]) dm_X12_letters_122 rfl rfl rfl rfl ?_
                refine me_1t (pc' := 130) dm_X12_letters_123 rfl (by decide) ?_
                refine me0 (pc' := 131) (S' := [ii 3, .ref 102]) dm_X12_letters_130 rfl rfl rfl rfl ?_
                refine me3 (pc' := 134) (S' := []) (h1 := rI pre post (va_up (va_up t.1 36 (zi true)) 38 3) t.2.1 t.2.2.1 t.2.2.2) dm_X12_letters_131 (q_puti hm rfl rfl (fun m i l v => rf_38 m i l v)) rfl rfl rfl ?_
                refine me1 (pc' := 135) (L' := [(1, ii 0), (0, .ref 102)]) (S' := [ii 0]) dm_X12_letters_134 rfl rfl rfl rfl ?_
                refine me_1t (pc' := 146) dm_X12_letters_135 rfl (by decide) ?_
                refine y_ret (r := none) dm_X12_letters_146 rfl rfl rfl ?_
                refine ⟨rfl, (va_up (va_up t.1 36 (zi true)) 38 3, t.2.1, t.2.2.1, t.2.2.2), rfl, ?_⟩
                rw [hn]
                refine ⟨rtk_i (j := 38) (by decide) (rtk_i (j := 36) (by decide) (l1)), l3, l4, ?_, l6, ?_⟩
                · show zi true = _
                  first | rw [decide_eq_true (stk_O.mpr (by omega))] | rw [decide_eq_false (fun z => absurd (stk_O.mp z) (by omega))]
                · refine Or.inr ⟨?_, rfl, l5⟩
                  unfold fnR
                  rw [← h42, ← h20]
                  rintro (z | z)
                  · exact hq41 z
                  · omega
              · refine me0 (pc' := 116) (S' := [ii 1]) dm_X12_letters_115 rfl rfl rfl rfl ?_
                refine me2 (pc' := 120) (S' := [ii 1]) dm_X12_letters_116 rfl rfl rfl ?_
                refine me1 (pc' := 121) (L' := [(1, ii 1), (0, .ref 102)]) (S' := []) dm_X12_letters_120 rfl rfl rfl rfl ?_
                refine me1 (pc' := 122) (L' := [(1, ii 1), (0, .ref 102)]) (S' := [.ref 102]) dm_X12_letters_121 rfl rfl rfl rfl ?_
                refine me1 (pc' := 123) (L' := [(1, ii 1), (0, .ref 102)]) (S' := [ii 1, .ref 102]) dm_X12_letters_122 rfl rfl rfl rfl ?_
                refine me_1f (pc' := 126) dm_X12_letters_123 rfl (by decide) rfl ?_
                refine me0 (pc' := 127) (S' := [ii 4, .ref 102]) dm_X12_letters_126 rfl rfl rfl rfl ?_
                refine me2 (pc' := 131) (S' := [ii 4, .ref 102]) dm_X12_letters_127 rfl rfl rfl ?_
                refine me3 (pc' := 134) (S' := []) (h1 := rI pre post (va_up (va_up t.1 36 (zi true)) 38 4) t.2.1 t.2.2.1 t.2.2.2) dm_X12_letters_131 (q_puti hm rfl rfl (fun m i l v => rf_38 m i l v)) rfl rfl rfl ?_
                refine me1 (pc' := 135) (L' := [(1, ii 1), (0, .ref 102)]) (S' := [ii 1]) dm_X12_letters_134 rfl rfl rfl rfl ?_
                refine me_1f (pc' := 138) dm_X12_letters_135 rfl (by decide) rfl ?_
                refine me1 (pc' := 139) (L' := [(1, ii 1), (0, .ref 102)]) (S' := [.ref 102]) dm_X12_letters_138 rfl rfl rfl rfl ?_
                refine me1 (pc' := 140) (L' := [(1, ii 1), (0, .ref 102)]) (S' := [.ref 102, .ref 102]) dm_X12_letters_139 rfl rfl rfl rfl ?_
                refine me3 (pc' := 143) (S' := [ii (t.1 35), .ref 102]) dm_X12_letters_140 (q_geti (v := t.1 35) hm rfl (fun m i l => rg_35 m i l) rfl) rfl rfl rfl ?_
                refine me3 (pc' := 146) (S' := []) (h1 := rI pre post (va_up (va_up (va_up t.1 36 (zi true)) 38 4) 37 (t.1 35)) t.2.1 t.2.2.1 t.2.2.2) dm_X12_letters_143 (q_puti hm rfl rfl (fun m i l v => rf_37 m i l v)) rfl rfl rfl ?_
                refine y_ret (r := none) dm_X12_letters_146 rfl rfl rfl ?_
                refine ⟨rfl, (va_up (va_up (va_up t.1 36 (zi true)) 38 4) 37 (t.1 35), t.2.1, t.2.2.1, t.2.2.2), rfl, ?_⟩
                rw [hn]
                refine ⟨rtk_i (j := 37) (by decide) (rtk_i (j := 38) (by decide) (rtk_i (j := 36) (by decide) (l1))), l3, l4, ?_, l6, ?_⟩
                · show zi true = _
                  first | rw [decide_eq_true (stk_O.mpr (by omega))] | rw [decide_eq_false (fun z => absurd (stk_O.mp z) (by omega))]
                · refine Or.inl ⟨?_, rfl, l3⟩
                  unfold fnR
                  rw [← h42, ← h20]
                  first | exact Or.inl hq41 | exact Or.inr (by omega)
          · replace hb11 := dF hb11
            rw [hy2] at hb11
            refine me1 (pc' := 74) (L' := [(1, ii ((k : Nat) : Int)), (0, .ref 102)]) (S' := [.ref 102, .ref 102]) dm_X12_letters_73 rfl rfl rfl rfl ?_
            refine me1 (pc' := 75) (L' := [(1, ii ((k : Nat) : Int)), (0, .ref 102)]) (S' := [.ref 102, .ref 102, .ref 102]) dm_X12_letters_74 rfl rfl rfl rfl ?_
            refine me3 (pc' := 78) (S' := [ii (t.1 35), .ref 102, .ref 102]) dm_X12_letters_75 (q_geti (v := t.1 35) hm rfl (fun m i l => rg_35 m i l) rfl) rfl rfl rfl ?_
            have hy3P : tpR t bf ln := tpR_k hP (l1)
            have hy3r := byR_r t (t.1 35)
            have hy3 : byR t (t.1 35) = byO bf ln (fr + k) := by rw [show (t.1 35 : Int) = ((fr + k : Nat) : Int) by first | rfl | omega]; exact tpR_by hy3P
            refine x_cp (pc' := 81) (v := zz (decide (97 ≤ byR t (t.1 35) ∧ byR t (t.1 35) ≤ 122))) (rest := [.ref 102]) dm_X12_letters_78 rfl (q_inv (As := [ii (t.1 35)]) (S := [.ref 102]) hm rfl rfl rfl) rfl rfl rfl (r_isLetter_ (s := t) (i := t.1 35) hm (by omega) (by omega) (by have := hy3P.1; have := hy3P.2.1; omega) hy3P.2.2.1) ?_
            refine y_zeq (c := decide (97 ≤ byR t (t.1 35) ∧ byR t (t.1 35) ≤ 122)) (t := 88) (pc' := 84) dm_X12_letters_81 rfl rfl (fun hb14 => ?_) (fun hb14 => ?_)
            · replace hb14 := dF hb14
              rw [hy3] at hb14
              refine me0 (pc' := 89) (S' := [ii 0, .ref 102]) dm_X12_letters_88 rfl rfl rfl rfl ?_
              refine me3 (pc' := 92) (S' := []) (h1 := rI pre post (va_up t.1 36 (zi false)) t.2.1 t.2.2.1 t.2.2.2) dm_X12_letters_89 (q_putz (c := false) hm rfl rfl (fun m i l v => rf_36 m i l v)) rfl rfl rfl ?_
              refine me1 (pc' := 93) (L' := [(1, ii ((k : Nat) : Int)), (0, .ref 102)]) (S' := [.ref 102]) dm_X12_letters_92 rfl rfl rfl rfl ?_
              refine me3 (pc' := 96) (S' := [.long (t.2.1 41)]) dm_X12_letters_93 (q_getl (v := t.2.1 41) hm rfl (fun m i l => rg_41 m i l) rfl) rfl rfl rfl ?_
              refine me1 (pc' := 97) (L' := [(1, ii ((k : Nat) : Int)), (0, .ref 102)]) (S' := [.ref 102, .long (t.2.1 41)]) dm_X12_letters_96 rfl rfl rfl rfl ?_
              refine me3 (pc' := 100) (S' := [.long (t.2.1 42), .long (t.2.1 41)]) dm_X12_letters_97 (q_getl (v := t.2.1 42) hm rfl (fun m i l => rg_42 m i l) rfl) rfl rfl rfl ?_
              refine y_leq (x := t.2.1 41) (y := t.2.1 42) (t := 115) (pc1 := 101) (pc' := 104) dm_X12_letters_100 rfl dm_X12_letters_101 rfl rfl (fun hb15 => ?_) (fun hb15 => ?_)
              · have hq41 := hb15
                rw [l4] at hq41
                refine me0 (pc' := 116) (S' := [ii 1]) dm_X12_letters_115 rfl rfl rfl rfl ?_
                refine me2 (pc' := 120) (S' := [ii 1]) dm_X12_letters_116 rfl rfl rfl ?_
                refine me1 (pc' := 121) (L' := [(1, ii 1), (0, .ref 102)]) (S' := []) dm_X12_letters_120 rfl rfl rfl rfl ?_
                refine me1 (pc' := 122) (L' := [(1, ii 1), (0, .ref 102)]) (S' := [.ref 102]) dm_X12_letters_121 rfl rfl rfl rfl ?_
                refine me1 (pc' := 123) (L' := [(1, ii 1), (0, .ref 102)]) (S' := [ii 1, .ref 102]) dm_X12_letters_122 rfl rfl rfl rfl ?_
                refine me_1f (pc' := 126) dm_X12_letters_123 rfl (by decide) rfl ?_
                refine me0 (pc' := 127) (S' := [ii 4, .ref 102]) dm_X12_letters_126 rfl rfl rfl rfl ?_
                refine me2 (pc' := 131) (S' := [ii 4, .ref 102]) dm_X12_letters_127 rfl rfl rfl ?_
                refine me3 (pc' := 134) (S' := []) (h1 := rI pre post (va_up (va_up t.1 36 (zi false)) 38 4) t.2.1 t.2.2.1 t.2.2.2) dm_X12_letters_131 (q_puti hm rfl rfl (fun m i l v => rf_38 m i l v)) rfl rfl rfl ?_
                refine me1 (pc' := 135) (L' := [(1, ii 1), (0, .ref 102)]) (S' := [ii 1]) dm_X12_letters_134 rfl rfl rfl rfl ?_
                refine me_1f (pc' := 138) dm_X12_letters_135 rfl (by decide) rfl ?_
                refine me1 (pc' := 139) (L' := [(1, ii 1), (0, .ref 102)]) (S' := [.ref 102]) dm_X12_letters_138 rfl rfl rfl rfl ?_
                refine me1 (pc' := 140) (L' := [(1, ii 1), (0, .ref 102)]) (S' := [.ref 102, .ref 102]) dm_X12_letters_139 rfl rfl rfl rfl ?_
                refine me3 (pc' := 143) (S' := [ii (t.1 35), .ref 102]) dm_X12_letters_140 (q_geti (v := t.1 35) hm rfl (fun m i l => rg_35 m i l) rfl) rfl rfl rfl ?_
                refine me3 (pc' := 146) (S' := []) (h1 := rI pre post (va_up (va_up (va_up t.1 36 (zi false)) 38 4) 37 (t.1 35)) t.2.1 t.2.2.1 t.2.2.2) dm_X12_letters_143 (q_puti hm rfl rfl (fun m i l v => rf_37 m i l v)) rfl rfl rfl ?_
                refine y_ret (r := none) dm_X12_letters_146 rfl rfl rfl ?_
                refine ⟨rfl, (va_up (va_up (va_up t.1 36 (zi false)) 38 4) 37 (t.1 35), t.2.1, t.2.2.1, t.2.2.2), rfl, ?_⟩
                rw [hn]
                refine ⟨rtk_i (j := 37) (by decide) (rtk_i (j := 38) (by decide) (rtk_i (j := 36) (by decide) (l1))), l3, l4, ?_, l6, ?_⟩
                · show zi false = _
                  first | rw [decide_eq_true (stk_O.mpr (by omega))] | rw [decide_eq_false (fun z => absurd (stk_O.mp z) (by omega))]
                · refine Or.inl ⟨?_, rfl, l3⟩
                  unfold fnR
                  rw [← h42, ← h20]
                  first | exact Or.inl hq41 | exact Or.inr (by omega)
              · have hq41 := hb15
                rw [l4] at hq41
                refine me1 (pc' := 105) (L' := [(1, ii ((k : Nat) : Int)), (0, .ref 102)]) (S' := [.ref 102]) dm_X12_letters_104 rfl rfl rfl rfl ?_
                refine me1 (pc' := 106) (L' := [(1, ii ((k : Nat) : Int)), (0, .ref 102)]) (S' := [.ref 102, .ref 102]) dm_X12_letters_105 rfl rfl rfl rfl ?_
                refine me3 (pc' := 109) (S' := [.long (t.2.1 41), .ref 102]) dm_X12_letters_106 (q_getl (v := t.2.1 41) hm rfl (fun m i l => rg_41 m i l) rfl) rfl rfl rfl ?_
                have hfr9 : -1 ≤ fndR (t.2.2.2 20) m (Int64.ofInt (rkI bf fr k)) ∧ fndR (t.2.2.2 20) m (Int64.ofInt (rkI bf fr k)) ≤ 40 := fndR_rg hm2
                refine x_cp (pc' := 112) (v := ii (fndR (t.2.2.2 20) m (Int64.ofInt (rkI bf fr k)))) (rest := []) dm_X12_letters_109 rfl (q_inv (As := [.long (t.2.1 41)]) (S := []) hm rfl rfl rfl) rfl rfl rfl (by have z := r_functionNamed_ (s := (va_up t.1 36 (zi false), t.2.1, t.2.2.1, t.2.2.2)) (n := n) (m := m) (key := Int64.ofInt (rkI bf fr k)) (xt := xt) (post := post) hm (show 1 ≤ d - 1 by omega) (by show t.1 23 = _; rw [l1.2.2.1 23 (by omega)]; exact hvn) (by show t.1 24 = _; rw [l1.2.2.1 24 (by omega)]; exact hfn) hn40 hm2; rw [l4]; exact z) ?_
                refine y_1lt (a := fndR (t.2.2.2 20) m (Int64.ofInt (rkI bf fr k))) (t := 119) (pc' := 115) dm_X12_letters_112 rfl rfl (by omega) (fun hb16 => ?_) (fun hb16 => ?_)
                · refine me0 (pc' := 120) (S' := [ii 0]) dm_X12_letters_119 rfl rfl rfl rfl ?_
                  refine me1 (pc' := 121) (L' := [(1, ii 0), (0, .ref 102)]) (S' := []) dm_X12_letters_120 rfl rfl rfl rfl ?_
                  refine me1 (pc' := 122) (L' := [(1, ii 0), (0, .ref 102)]) (S' := [.ref 102]) dm_X12_letters_121 rfl rfl rfl rfl ?_
                  refine me1 (pc' := 123) (L' := [(1, ii 0), (0, .ref 102)]) (S' := [ii 0, .ref 102]) dm_X12_letters_122 rfl rfl rfl rfl ?_
                  refine me_1t (pc' := 130) dm_X12_letters_123 rfl (by decide) ?_
                  refine me0 (pc' := 131) (S' := [ii 3, .ref 102]) dm_X12_letters_130 rfl rfl rfl rfl ?_
                  refine me3 (pc' := 134) (S' := []) (h1 := rI pre post (va_up (va_up t.1 36 (zi false)) 38 3) t.2.1 t.2.2.1 t.2.2.2) dm_X12_letters_131 (q_puti hm rfl rfl (fun m i l v => rf_38 m i l v)) rfl rfl rfl ?_
                  refine me1 (pc' := 135) (L' := [(1, ii 0), (0, .ref 102)]) (S' := [ii 0]) dm_X12_letters_134 rfl rfl rfl rfl ?_
                  refine me_1t (pc' := 146) dm_X12_letters_135 rfl (by decide) ?_
                  refine y_ret (r := none) dm_X12_letters_146 rfl rfl rfl ?_
                  refine ⟨rfl, (va_up (va_up t.1 36 (zi false)) 38 3, t.2.1, t.2.2.1, t.2.2.2), rfl, ?_⟩
                  rw [hn]
                  refine ⟨rtk_i (j := 38) (by decide) (rtk_i (j := 36) (by decide) (l1)), l3, l4, ?_, l6, ?_⟩
                  · show zi false = _
                    first | rw [decide_eq_true (stk_O.mpr (by omega))] | rw [decide_eq_false (fun z => absurd (stk_O.mp z) (by omega))]
                  · refine Or.inr ⟨?_, rfl, l5⟩
                    unfold fnR
                    rw [← h42, ← h20]
                    rintro (z | z)
                    · exact hq41 z
                    · omega
                · refine me0 (pc' := 116) (S' := [ii 1]) dm_X12_letters_115 rfl rfl rfl rfl ?_
                  refine me2 (pc' := 120) (S' := [ii 1]) dm_X12_letters_116 rfl rfl rfl ?_
                  refine me1 (pc' := 121) (L' := [(1, ii 1), (0, .ref 102)]) (S' := []) dm_X12_letters_120 rfl rfl rfl rfl ?_
                  refine me1 (pc' := 122) (L' := [(1, ii 1), (0, .ref 102)]) (S' := [.ref 102]) dm_X12_letters_121 rfl rfl rfl rfl ?_
                  refine me1 (pc' := 123) (L' := [(1, ii 1), (0, .ref 102)]) (S' := [ii 1, .ref 102]) dm_X12_letters_122 rfl rfl rfl rfl ?_
                  refine me_1f (pc' := 126) dm_X12_letters_123 rfl (by decide) rfl ?_
                  refine me0 (pc' := 127) (S' := [ii 4, .ref 102]) dm_X12_letters_126 rfl rfl rfl rfl ?_
                  refine me2 (pc' := 131) (S' := [ii 4, .ref 102]) dm_X12_letters_127 rfl rfl rfl ?_
                  refine me3 (pc' := 134) (S' := []) (h1 := rI pre post (va_up (va_up t.1 36 (zi false)) 38 4) t.2.1 t.2.2.1 t.2.2.2) dm_X12_letters_131 (q_puti hm rfl rfl (fun m i l v => rf_38 m i l v)) rfl rfl rfl ?_
                  refine me1 (pc' := 135) (L' := [(1, ii 1), (0, .ref 102)]) (S' := [ii 1]) dm_X12_letters_134 rfl rfl rfl rfl ?_
                  refine me_1f (pc' := 138) dm_X12_letters_135 rfl (by decide) rfl ?_
                  refine me1 (pc' := 139) (L' := [(1, ii 1), (0, .ref 102)]) (S' := [.ref 102]) dm_X12_letters_138 rfl rfl rfl rfl ?_
                  refine me1 (pc' := 140) (L' := [(1, ii 1), (0, .ref 102)]) (S' := [.ref 102, .ref 102]) dm_X12_letters_139 rfl rfl rfl rfl ?_
                  refine me3 (pc' := 143) (S' := [ii (t.1 35), .ref 102]) dm_X12_letters_140 (q_geti (v := t.1 35) hm rfl (fun m i l => rg_35 m i l) rfl) rfl rfl rfl ?_
                  refine me3 (pc' := 146) (S' := []) (h1 := rI pre post (va_up (va_up (va_up t.1 36 (zi false)) 38 4) 37 (t.1 35)) t.2.1 t.2.2.1 t.2.2.2) dm_X12_letters_143 (q_puti hm rfl rfl (fun m i l v => rf_37 m i l v)) rfl rfl rfl ?_
                  refine y_ret (r := none) dm_X12_letters_146 rfl rfl rfl ?_
                  refine ⟨rfl, (va_up (va_up (va_up t.1 36 (zi false)) 38 4) 37 (t.1 35), t.2.1, t.2.2.1, t.2.2.2), rfl, ?_⟩
                  rw [hn]
                  refine ⟨rtk_i (j := 37) (by decide) (rtk_i (j := 38) (by decide) (rtk_i (j := 36) (by decide) (l1))), l3, l4, ?_, l6, ?_⟩
                  · show zi false = _
                    first | rw [decide_eq_true (stk_O.mpr (by omega))] | rw [decide_eq_false (fun z => absurd (stk_O.mp z) (by omega))]
                  · refine Or.inl ⟨?_, rfl, l3⟩
                    unfold fnR
                    rw [← h42, ← h20]
                    first | exact Or.inl hq41 | exact Or.inr (by omega)
            · replace hb14 := dT hb14
              rw [hy3] at hb14
              refine me0 (pc' := 85) (S' := [ii 1, .ref 102]) dm_X12_letters_84 rfl rfl rfl rfl ?_
              refine me2 (pc' := 89) (S' := [ii 1, .ref 102]) dm_X12_letters_85 rfl rfl rfl ?_
              refine me3 (pc' := 92) (S' := []) (h1 := rI pre post (va_up t.1 36 (zi true)) t.2.1 t.2.2.1 t.2.2.2) dm_X12_letters_89 (q_putz (c := true) hm rfl rfl (fun m i l v => rf_36 m i l v)) rfl rfl rfl ?_
              refine me1 (pc' := 93) (L' := [(1, ii ((k : Nat) : Int)), (0, .ref 102)]) (S' := [.ref 102]) dm_X12_letters_92 rfl rfl rfl rfl ?_
              refine me3 (pc' := 96) (S' := [.long (t.2.1 41)]) dm_X12_letters_93 (q_getl (v := t.2.1 41) hm rfl (fun m i l => rg_41 m i l) rfl) rfl rfl rfl ?_
              refine me1 (pc' := 97) (L' := [(1, ii ((k : Nat) : Int)), (0, .ref 102)]) (S' := [.ref 102, .long (t.2.1 41)]) dm_X12_letters_96 rfl rfl rfl rfl ?_
              refine me3 (pc' := 100) (S' := [.long (t.2.1 42), .long (t.2.1 41)]) dm_X12_letters_97 (q_getl (v := t.2.1 42) hm rfl (fun m i l => rg_42 m i l) rfl) rfl rfl rfl ?_
              refine y_leq (x := t.2.1 41) (y := t.2.1 42) (t := 115) (pc1 := 101) (pc' := 104) dm_X12_letters_100 rfl dm_X12_letters_101 rfl rfl (fun hb17 => ?_) (fun hb17 => ?_)
              · have hq41 := hb17
                rw [l4] at hq41
                refine me0 (pc' := 116) (S' := [ii 1]) dm_X12_letters_115 rfl rfl rfl rfl ?_
                refine me2 (pc' := 120) (S' := [ii 1]) dm_X12_letters_116 rfl rfl rfl ?_
                refine me1 (pc' := 121) (L' := [(1, ii 1), (0, .ref 102)]) (S' := []) dm_X12_letters_120 rfl rfl rfl rfl ?_
                refine me1 (pc' := 122) (L' := [(1, ii 1), (0, .ref 102)]) (S' := [.ref 102]) dm_X12_letters_121 rfl rfl rfl rfl ?_
                refine me1 (pc' := 123) (L' := [(1, ii 1), (0, .ref 102)]) (S' := [ii 1, .ref 102]) dm_X12_letters_122 rfl rfl rfl rfl ?_
                refine me_1f (pc' := 126) dm_X12_letters_123 rfl (by decide) rfl ?_
                refine me0 (pc' := 127) (S' := [ii 4, .ref 102]) dm_X12_letters_126 rfl rfl rfl rfl ?_
                refine me2 (pc' := 131) (S' := [ii 4, .ref 102]) dm_X12_letters_127 rfl rfl rfl ?_
                refine me3 (pc' := 134) (S' := []) (h1 := rI pre post (va_up (va_up t.1 36 (zi true)) 38 4) t.2.1 t.2.2.1 t.2.2.2) dm_X12_letters_131 (q_puti hm rfl rfl (fun m i l v => rf_38 m i l v)) rfl rfl rfl ?_
                refine me1 (pc' := 135) (L' := [(1, ii 1), (0, .ref 102)]) (S' := [ii 1]) dm_X12_letters_134 rfl rfl rfl rfl ?_
                refine me_1f (pc' := 138) dm_X12_letters_135 rfl (by decide) rfl ?_
                refine me1 (pc' := 139) (L' := [(1, ii 1), (0, .ref 102)]) (S' := [.ref 102]) dm_X12_letters_138 rfl rfl rfl rfl ?_
                refine me1 (pc' := 140) (L' := [(1, ii 1), (0, .ref 102)]) (S' := [.ref 102, .ref 102]) dm_X12_letters_139 rfl rfl rfl rfl ?_
                refine me3 (pc' := 143) (S' := [ii (t.1 35), .ref 102]) dm_X12_letters_140 (q_geti (v := t.1 35) hm rfl (fun m i l => rg_35 m i l) rfl) rfl rfl rfl ?_
                refine me3 (pc' := 146) (S' := []) (h1 := rI pre post (va_up (va_up (va_up t.1 36 (zi true)) 38 4) 37 (t.1 35)) t.2.1 t.2.2.1 t.2.2.2) dm_X12_letters_143 (q_puti hm rfl rfl (fun m i l v => rf_37 m i l v)) rfl rfl rfl ?_
                refine y_ret (r := none) dm_X12_letters_146 rfl rfl rfl ?_
                refine ⟨rfl, (va_up (va_up (va_up t.1 36 (zi true)) 38 4) 37 (t.1 35), t.2.1, t.2.2.1, t.2.2.2), rfl, ?_⟩
                rw [hn]
                refine ⟨rtk_i (j := 37) (by decide) (rtk_i (j := 38) (by decide) (rtk_i (j := 36) (by decide) (l1))), l3, l4, ?_, l6, ?_⟩
                · show zi true = _
                  first | rw [decide_eq_true (stk_O.mpr (by omega))] | rw [decide_eq_false (fun z => absurd (stk_O.mp z) (by omega))]
                · refine Or.inl ⟨?_, rfl, l3⟩
                  unfold fnR
                  rw [← h42, ← h20]
                  first | exact Or.inl hq41 | exact Or.inr (by omega)
              · have hq41 := hb17
                rw [l4] at hq41
                refine me1 (pc' := 105) (L' := [(1, ii ((k : Nat) : Int)), (0, .ref 102)]) (S' := [.ref 102]) dm_X12_letters_104 rfl rfl rfl rfl ?_
                refine me1 (pc' := 106) (L' := [(1, ii ((k : Nat) : Int)), (0, .ref 102)]) (S' := [.ref 102, .ref 102]) dm_X12_letters_105 rfl rfl rfl rfl ?_
                refine me3 (pc' := 109) (S' := [.long (t.2.1 41), .ref 102]) dm_X12_letters_106 (q_getl (v := t.2.1 41) hm rfl (fun m i l => rg_41 m i l) rfl) rfl rfl rfl ?_
                have hfr9 : -1 ≤ fndR (t.2.2.2 20) m (Int64.ofInt (rkI bf fr k)) ∧ fndR (t.2.2.2 20) m (Int64.ofInt (rkI bf fr k)) ≤ 40 := fndR_rg hm2
                refine x_cp (pc' := 112) (v := ii (fndR (t.2.2.2 20) m (Int64.ofInt (rkI bf fr k)))) (rest := []) dm_X12_letters_109 rfl (q_inv (As := [.long (t.2.1 41)]) (S := []) hm rfl rfl rfl) rfl rfl rfl (by have z := r_functionNamed_ (s := (va_up t.1 36 (zi true), t.2.1, t.2.2.1, t.2.2.2)) (n := n) (m := m) (key := Int64.ofInt (rkI bf fr k)) (xt := xt) (post := post) hm (show 1 ≤ d - 1 by omega) (by show t.1 23 = _; rw [l1.2.2.1 23 (by omega)]; exact hvn) (by show t.1 24 = _; rw [l1.2.2.1 24 (by omega)]; exact hfn) hn40 hm2; rw [l4]; exact z) ?_
                refine y_1lt (a := fndR (t.2.2.2 20) m (Int64.ofInt (rkI bf fr k))) (t := 119) (pc' := 115) dm_X12_letters_112 rfl rfl (by omega) (fun hb18 => ?_) (fun hb18 => ?_)
                · refine me0 (pc' := 120) (S' := [ii 0]) dm_X12_letters_119 rfl rfl rfl rfl ?_
                  refine me1 (pc' := 121) (L' := [(1, ii 0), (0, .ref 102)]) (S' := []) dm_X12_letters_120 rfl rfl rfl rfl ?_
                  refine me1 (pc' := 122) (L' := [(1, ii 0), (0, .ref 102)]) (S' := [.ref 102]) dm_X12_letters_121 rfl rfl rfl rfl ?_
                  refine me1 (pc' := 123) (L' := [(1, ii 0), (0, .ref 102)]) (S' := [ii 0, .ref 102]) dm_X12_letters_122 rfl rfl rfl rfl ?_
                  refine me_1t (pc' := 130) dm_X12_letters_123 rfl (by decide) ?_
                  refine me0 (pc' := 131) (S' := [ii 3, .ref 102]) dm_X12_letters_130 rfl rfl rfl rfl ?_
                  refine me3 (pc' := 134) (S' := []) (h1 := rI pre post (va_up (va_up t.1 36 (zi true)) 38 3) t.2.1 t.2.2.1 t.2.2.2) dm_X12_letters_131 (q_puti hm rfl rfl (fun m i l v => rf_38 m i l v)) rfl rfl rfl ?_
                  refine me1 (pc' := 135) (L' := [(1, ii 0), (0, .ref 102)]) (S' := [ii 0]) dm_X12_letters_134 rfl rfl rfl rfl ?_
                  refine me_1t (pc' := 146) dm_X12_letters_135 rfl (by decide) ?_
                  refine y_ret (r := none) dm_X12_letters_146 rfl rfl rfl ?_
                  refine ⟨rfl, (va_up (va_up t.1 36 (zi true)) 38 3, t.2.1, t.2.2.1, t.2.2.2), rfl, ?_⟩
                  rw [hn]
                  refine ⟨rtk_i (j := 38) (by decide) (rtk_i (j := 36) (by decide) (l1)), l3, l4, ?_, l6, ?_⟩
                  · show zi true = _
                    first | rw [decide_eq_true (stk_O.mpr (by omega))] | rw [decide_eq_false (fun z => absurd (stk_O.mp z) (by omega))]
                  · refine Or.inr ⟨?_, rfl, l5⟩
                    unfold fnR
                    rw [← h42, ← h20]
                    rintro (z | z)
                    · exact hq41 z
                    · omega
                · refine me0 (pc' := 116) (S' := [ii 1]) dm_X12_letters_115 rfl rfl rfl rfl ?_
                  refine me2 (pc' := 120) (S' := [ii 1]) dm_X12_letters_116 rfl rfl rfl ?_
                  refine me1 (pc' := 121) (L' := [(1, ii 1), (0, .ref 102)]) (S' := []) dm_X12_letters_120 rfl rfl rfl rfl ?_
                  refine me1 (pc' := 122) (L' := [(1, ii 1), (0, .ref 102)]) (S' := [.ref 102]) dm_X12_letters_121 rfl rfl rfl rfl ?_
                  refine me1 (pc' := 123) (L' := [(1, ii 1), (0, .ref 102)]) (S' := [ii 1, .ref 102]) dm_X12_letters_122 rfl rfl rfl rfl ?_
                  refine me_1f (pc' := 126) dm_X12_letters_123 rfl (by decide) rfl ?_
                  refine me0 (pc' := 127) (S' := [ii 4, .ref 102]) dm_X12_letters_126 rfl rfl rfl rfl ?_
                  refine me2 (pc' := 131) (S' := [ii 4, .ref 102]) dm_X12_letters_127 rfl rfl rfl ?_
                  refine me3 (pc' := 134) (S' := []) (h1 := rI pre post (va_up (va_up t.1 36 (zi true)) 38 4) t.2.1 t.2.2.1 t.2.2.2) dm_X12_letters_131 (q_puti hm rfl rfl (fun m i l v => rf_38 m i l v)) rfl rfl rfl ?_
                  refine me1 (pc' := 135) (L' := [(1, ii 1), (0, .ref 102)]) (S' := [ii 1]) dm_X12_letters_134 rfl rfl rfl rfl ?_
                  refine me_1f (pc' := 138) dm_X12_letters_135 rfl (by decide) rfl ?_
                  refine me1 (pc' := 139) (L' := [(1, ii 1), (0, .ref 102)]) (S' := [.ref 102]) dm_X12_letters_138 rfl rfl rfl rfl ?_
                  refine me1 (pc' := 140) (L' := [(1, ii 1), (0, .ref 102)]) (S' := [.ref 102, .ref 102]) dm_X12_letters_139 rfl rfl rfl rfl ?_
                  refine me3 (pc' := 143) (S' := [ii (t.1 35), .ref 102]) dm_X12_letters_140 (q_geti (v := t.1 35) hm rfl (fun m i l => rg_35 m i l) rfl) rfl rfl rfl ?_
                  refine me3 (pc' := 146) (S' := []) (h1 := rI pre post (va_up (va_up (va_up t.1 36 (zi true)) 38 4) 37 (t.1 35)) t.2.1 t.2.2.1 t.2.2.2) dm_X12_letters_143 (q_puti hm rfl rfl (fun m i l v => rf_37 m i l v)) rfl rfl rfl ?_
                  refine y_ret (r := none) dm_X12_letters_146 rfl rfl rfl ?_
                  refine ⟨rfl, (va_up (va_up (va_up t.1 36 (zi true)) 38 4) 37 (t.1 35), t.2.1, t.2.2.1, t.2.2.2), rfl, ?_⟩
                  rw [hn]
                  refine ⟨rtk_i (j := 37) (by decide) (rtk_i (j := 38) (by decide) (rtk_i (j := 36) (by decide) (l1))), l3, l4, ?_, l6, ?_⟩
                  · show zi true = _
                    first | rw [decide_eq_true (stk_O.mpr (by omega))] | rw [decide_eq_false (fun z => absurd (stk_O.mp z) (by omega))]
                  · refine Or.inl ⟨?_, rfl, l3⟩
                    unfold fnR
                    rw [← h42, ← h20]
                    first | exact Or.inl hq41 | exact Or.inr (by omega)
        · replace hb10 := dT hb10
          rw [hy1] at hb10
          have hin : fr + k < ln := Classical.byContradiction fun z => by have z2 := byO_out (bf := bf) (Nat.le_of_not_lt z); omega
          have hbi := byO_in (bf := bf) hin
          have hby : byR t (t.1 35) = bf (fr + k) := hy1.trans hbi
          have hrb := rk_b (f := bf) (i := fr) (n := k) (by omega) (fun j hj => of_decide_eq_true (hrun (fr + j) (by omega) (by omega)).2)
          have hrun1 : ∀ j, fr ≤ j → j < fr + (k + 1) → j < ln ∧ ltB (bf j) = true := fun j h1 h2 => by by_cases z : j = fr + k; (rw [z]; exact ⟨hin, decide_eq_true (by rw [← hbi]; exact hb10)⟩); exact hrun j h1 (by omega)
          refine me1 (pc' := 25) (L' := [(1, ii ((k : Nat) : Int)), (0, .ref 102)]) (S' := [.ref 102]) dm_X12_letters_24 rfl rfl rfl rfl ?_
          refine me1 (pc' := 26) (L' := [(1, ii ((k : Nat) : Int)), (0, .ref 102)]) (S' := [.ref 102, .ref 102]) dm_X12_letters_25 rfl rfl rfl rfl ?_
          refine me3 (pc' := 29) (S' := [.long (t.2.1 41), .ref 102]) dm_X12_letters_26 (q_getl (v := t.2.1 41) hm rfl (fun m i l => rg_41 m i l) rfl) rfl rfl rfl ?_
          refine me0 (pc' := 31) (S' := [ii 8, .long (t.2.1 41), .ref 102]) dm_X12_letters_29 rfl rfl rfl rfl ?_
          refine pg_st (S' := [ii 8, .long (Int64.ofInt (rkI bf fr k)), .ref 102]) (congrArg (fun z => ii 8 :: Value.long z :: [.ref 102]) l4) ?_
          refine y_lshl (a := rkI bf fr k) (n := 8) (k := 8) dm_X12_letters_31 (pc' := 32) rfl (by rfl) (by decide) ?_
          refine me1 (pc' := 33) (L' := [(1, ii ((k : Nat) : Int)), (0, .ref 102)]) (S' := [.ref 102, .long (Int64.ofInt ((rkI bf fr k) * 2 ^ (8))), .ref 102]) dm_X12_letters_32 rfl rfl rfl rfl ?_
          refine me1 (pc' := 34) (L' := [(1, ii ((k : Nat) : Int)), (0, .ref 102)]) (S' := [.ref 102, .ref 102, .long (Int64.ofInt ((rkI bf fr k) * 2 ^ (8))), .ref 102]) dm_X12_letters_33 rfl rfl rfl rfl ?_
          refine me3 (pc' := 37) (S' := [ii (t.1 35), .ref 102, .long (Int64.ofInt ((rkI bf fr k) * 2 ^ (8))), .ref 102]) dm_X12_letters_34 (q_geti (v := t.1 35) hm rfl (fun m i l => rg_35 m i l) rfl) rfl rfl rfl ?_
          have hy2P : tpR t bf ln := tpR_k hP (l1)
          have hy2r := byR_r t (t.1 35)
          have hy2 : byR t (t.1 35) = byO bf ln (fr + k) := by rw [show (t.1 35 : Int) = ((fr + k : Nat) : Int) by first | rfl | omega]; exact tpR_by hy2P
          refine x_cp (pc' := 40) (v := ii (byR t (t.1 35))) (rest := [.long (Int64.ofInt ((rkI bf fr k) * 2 ^ (8))), .ref 102]) dm_X12_letters_37 rfl (q_inv (As := [ii (t.1 35)]) (S := [.long (Int64.ofInt ((rkI bf fr k) * 2 ^ (8))), .ref 102]) hm rfl rfl rfl) rfl rfl rfl (r_byteAt_ (s := t) (i := t.1 35) hm (by omega) (by omega) (by have := hy2P.1; have := hy2P.2.1; omega) hy2P.2.2.1) ?_
          refine y_i2l (a := byR t (t.1 35)) dm_X12_letters_40 (pc' := 41) rfl (by omega) (by omega) ?_
          refine me0 (pc' := 42) (S' := [.long ((Int64.ofInt ((rkI bf fr k) * 2 ^ (8))) ||| (Int64.ofInt (byR t (t.1 35)))), .ref 102]) dm_X12_letters_41 rfl rfl rfl rfl ?_
          refine me3 (pc' := 45) (S' := []) (h1 := rI pre post t.1 (va_up t.2.1 41 ((Int64.ofInt ((rkI bf fr k) * 2 ^ (8))) ||| (Int64.ofInt (byR t (t.1 35))))) t.2.2.1 t.2.2.2) dm_X12_letters_42 (q_putl hm rfl rfl (fun m i l v => rf_41 m i l v)) rfl rfl rfl ?_
          refine me1 (pc' := 46) (L' := [(1, ii ((k : Nat) : Int)), (0, .ref 102)]) (S' := [.ref 102]) dm_X12_letters_45 rfl rfl rfl rfl ?_
          refine me0 (pc' := 47) (S' := [.ref 102, .ref 102]) dm_X12_letters_46 rfl rfl rfl rfl ?_
          refine me3 (pc' := 50) (S' := [ii (t.1 35), .ref 102]) dm_X12_letters_47 (q_geti (v := t.1 35) hm rfl (fun m i l => rg_35 m i l) rfl) rfl rfl rfl ?_
          refine me0 (pc' := 51) (S' := [ii 1, ii (t.1 35), .ref 102]) dm_X12_letters_50 rfl rfl rfl rfl ?_
          refine y_iadd (a := t.1 35) (b := 1) dm_X12_letters_51 (pc' := 52) rfl ?_
          refine me3 (pc' := 55) (S' := []) (h1 := rI pre post (va_up t.1 35 ((t.1 35) + 1)) (va_up t.2.1 41 ((Int64.ofInt ((rkI bf fr k) * 2 ^ (8))) ||| (Int64.ofInt (byR t (t.1 35))))) t.2.2.1 t.2.2.2) dm_X12_letters_52 (q_puti hm rfl rfl (fun m i l v => rf_35 m i l v)) rfl rfl rfl ?_
          refine y_iinc (pc' := 58) (L' := [(1, ii (((k : Nat) : Int) + 1)), (0, .ref 102)]) dm_X12_letters_55 (y_incp (a := ((k : Nat) : Int)) (c := 1) rfl rfl (by decide)) rfl ?_
          refine me2 (pc' := 7) (S' := []) dm_X12_letters_58 rfl rfl rfl ?_
          exact pg_sub (L := [(1, ii (((k + 1) : Nat) : Int)), (0, .ref 102)]) rfl rfl rfl (ih7 (8 - (k + 1)) (by omega) (k + 1) (va_up t.1 35 ((t.1 35) + 1), va_up t.2.1 41 ((Int64.ofInt ((rkI bf fr k) * 2 ^ (8))) ||| (Int64.ofInt (byR t (t.1 35)))), t.2.2.1, t.2.2.2) rfl (by omega) hrun1 ⟨rtk_l (rtk_i (j := 35) (by decide) (l1)), (show t.1 35 + 1 = _ by omega), (by show Int64.ofInt (rkI bf fr k * 2 ^ 8) ||| Int64.ofInt (byR t (t.1 35)) = _; rw [hby]; exact n_orR hrb.1 hrb.2 (by omega) (by omega)), l5, l6⟩)
  exact pg_sub (L := [(1, ii ((0 : Nat) : Int)), (0, .ref 102)]) rfl rfl rfl (lp7 _ 0 (s.1, va_up s.2.1 41 (Int64.ofInt 0), s.2.2.1, s.2.2.2) rfl (by decide) (fun j h1 h2 => absurd h2 (by omega)) ⟨rtk_l (rtk_rf s), h35, rfl, rfl, rfl⟩)
set_option maxRecDepth 20000 in
theorem pm_X12_quote : mj_mmof pg_ms 212 = some ((⟨"ArrayCalculatorModel", "quote", "()V"⟩, prog_14_method_76_code, 2, (Option.none : Option Jvm.ClassFile.FieldType)), 12, false, mj_dec prog_14_method_76_code) := rfl
theorem dm_X12_quote_0 : mj_dec prog_14_method_76_code 0 = some (.iconst 0, 1) := by decide +kernel
theorem dm_X12_quote_1 : mj_dec prog_14_method_76_code 1 = some (.istore_n 1, 1) := by decide +kernel
theorem dm_X12_quote_2 : mj_dec prog_14_method_76_code 2 = some (.aload_n 0, 1) := by decide +kernel
theorem dm_X12_quote_3 : mj_dec prog_14_method_76_code 3 = some (.aload_n 0, 1) := by decide +kernel
theorem dm_X12_quote_4 : mj_dec prog_14_method_76_code 4 = some (.getfield 383, 3) := by decide +kernel
theorem dm_X12_quote_7 : mj_dec prog_14_method_76_code 7 = some (.iconst 1, 1) := by decide +kernel
theorem dm_X12_quote_8 : mj_dec prog_14_method_76_code 8 = some (.iadd, 1) := by decide +kernel
theorem dm_X12_quote_9 : mj_dec prog_14_method_76_code 9 = some (.iload_n 1, 1) := by decide +kernel
theorem dm_X12_quote_10 : mj_dec prog_14_method_76_code 10 = some (.iadd, 1) := by decide +kernel
theorem dm_X12_quote_11 : mj_dec prog_14_method_76_code 11 = some (.invokevirtual 373, 3) := by decide +kernel
theorem dm_X12_quote_14 : mj_dec prog_14_method_76_code 14 = some (.bipush 32, 2) := by decide +kernel
theorem dm_X12_quote_16 : mj_dec prog_14_method_76_code 16 = some (.if_icmp .lt 43, 3) := by decide +kernel
theorem dm_X12_quote_19 : mj_dec prog_14_method_76_code 19 = some (.aload_n 0, 1) := by decide +kernel
theorem dm_X12_quote_20 : mj_dec prog_14_method_76_code 20 = some (.aload_n 0, 1) := by decide +kernel
theorem dm_X12_quote_21 : mj_dec prog_14_method_76_code 21 = some (.getfield 383, 3) := by decide +kernel
theorem dm_X12_quote_24 : mj_dec prog_14_method_76_code 24 = some (.iconst 1, 1) := by decide +kernel
theorem dm_X12_quote_25 : mj_dec prog_14_method_76_code 25 = some (.iadd, 1) := by decide +kernel
theorem dm_X12_quote_26 : mj_dec prog_14_method_76_code 26 = some (.iload_n 1, 1) := by decide +kernel
theorem dm_X12_quote_27 : mj_dec prog_14_method_76_code 27 = some (.iadd, 1) := by decide +kernel
theorem dm_X12_quote_28 : mj_dec prog_14_method_76_code 28 = some (.invokevirtual 373, 3) := by decide +kernel
theorem dm_X12_quote_31 : mj_dec prog_14_method_76_code 31 = some (.bipush 126, 2) := by decide +kernel
theorem dm_X12_quote_33 : mj_dec prog_14_method_76_code 33 = some (.if_icmp .gt 26, 3) := by decide +kernel
theorem dm_X12_quote_36 : mj_dec prog_14_method_76_code 36 = some (.aload_n 0, 1) := by decide +kernel
theorem dm_X12_quote_37 : mj_dec prog_14_method_76_code 37 = some (.aload_n 0, 1) := by decide +kernel
theorem dm_X12_quote_38 : mj_dec prog_14_method_76_code 38 = some (.getfield 383, 3) := by decide +kernel
theorem dm_X12_quote_41 : mj_dec prog_14_method_76_code 41 = some (.iconst 1, 1) := by decide +kernel
theorem dm_X12_quote_42 : mj_dec prog_14_method_76_code 42 = some (.iadd, 1) := by decide +kernel
theorem dm_X12_quote_43 : mj_dec prog_14_method_76_code 43 = some (.iload_n 1, 1) := by decide +kernel
theorem dm_X12_quote_44 : mj_dec prog_14_method_76_code 44 = some (.iadd, 1) := by decide +kernel
theorem dm_X12_quote_45 : mj_dec prog_14_method_76_code 45 = some (.invokevirtual 373, 3) := by decide +kernel
theorem dm_X12_quote_48 : mj_dec prog_14_method_76_code 48 = some (.bipush 39, 2) := by decide +kernel
theorem dm_X12_quote_50 : mj_dec prog_14_method_76_code 50 = some (.if_icmp .eq 9, 3) := by decide +kernel
theorem dm_X12_quote_53 : mj_dec prog_14_method_76_code 53 = some (.iinc 1 1, 3) := by decide +kernel
theorem dm_X12_quote_56 : mj_dec prog_14_method_76_code 56 = some (.goto (-54), 3) := by decide +kernel
theorem dm_X12_quote_59 : mj_dec prog_14_method_76_code 59 = some (.aload_n 0, 1) := by decide +kernel
theorem dm_X12_quote_60 : mj_dec prog_14_method_76_code 60 = some (.iload_n 1, 1) := by decide +kernel
theorem dm_X12_quote_61 : mj_dec prog_14_method_76_code 61 = some (.ifCond .eq 26, 3) := by decide +kernel
theorem dm_X12_quote_64 : mj_dec prog_14_method_76_code 64 = some (.iload_n 1, 1) := by decide +kernel
theorem dm_X12_quote_65 : mj_dec prog_14_method_76_code 65 = some (.bipush 60, 2) := by decide +kernel
theorem dm_X12_quote_67 : mj_dec prog_14_method_76_code 67 = some (.if_icmp .gt 20, 3) := by decide +kernel
theorem dm_X12_quote_70 : mj_dec prog_14_method_76_code 70 = some (.aload_n 0, 1) := by decide +kernel
theorem dm_X12_quote_71 : mj_dec prog_14_method_76_code 71 = some (.aload_n 0, 1) := by decide +kernel
theorem dm_X12_quote_72 : mj_dec prog_14_method_76_code 72 = some (.getfield 383, 3) := by decide +kernel
theorem dm_X12_quote_75 : mj_dec prog_14_method_76_code 75 = some (.iconst 1, 1) := by decide +kernel
theorem dm_X12_quote_76 : mj_dec prog_14_method_76_code 76 = some (.iadd, 1) := by decide +kernel
theorem dm_X12_quote_77 : mj_dec prog_14_method_76_code 77 = some (.iload_n 1, 1) := by decide +kernel
theorem dm_X12_quote_78 : mj_dec prog_14_method_76_code 78 = some (.iadd, 1) := by decide +kernel
theorem dm_X12_quote_79 : mj_dec prog_14_method_76_code 79 = some (.invokevirtual 373, 3) := by decide +kernel
theorem dm_X12_quote_82 : mj_dec prog_14_method_76_code 82 = some (.bipush 39, 2) := by decide +kernel
theorem dm_X12_quote_84 : mj_dec prog_14_method_76_code 84 = some (.if_icmp .eq 8, 3) := by decide +kernel
theorem dm_X12_quote_87 : mj_dec prog_14_method_76_code 87 = some (.bipush 8, 2) := by decide +kernel
theorem dm_X12_quote_89 : mj_dec prog_14_method_76_code 89 = some (.goto 4, 3) := by decide +kernel
theorem dm_X12_quote_92 : mj_dec prog_14_method_76_code 92 = some (.iconst 2, 1) := by decide +kernel
theorem dm_X12_quote_93 : mj_dec prog_14_method_76_code 93 = some (.putfield 380, 3) := by decide +kernel
theorem dm_X12_quote_96 : mj_dec prog_14_method_76_code 96 = some (.aload_n 0, 1) := by decide +kernel
theorem dm_X12_quote_97 : mj_dec prog_14_method_76_code 97 = some (.iload_n 1, 1) := by decide +kernel
theorem dm_X12_quote_98 : mj_dec prog_14_method_76_code 98 = some (.putfield 414, 3) := by decide +kernel
theorem dm_X12_quote_101 : mj_dec prog_14_method_76_code 101 = some (.aload_n 0, 1) := by decide +kernel
theorem dm_X12_quote_102 : mj_dec prog_14_method_76_code 102 = some (.getfield 380, 3) := by decide +kernel
theorem dm_X12_quote_105 : mj_dec prog_14_method_76_code 105 = some (.iconst 2, 1) := by decide +kernel
theorem dm_X12_quote_106 : mj_dec prog_14_method_76_code 106 = some (.if_icmp .ne 15, 3) := by decide +kernel
theorem dm_X12_quote_109 : mj_dec prog_14_method_76_code 109 = some (.aload_n 0, 1) := by decide +kernel
theorem dm_X12_quote_110 : mj_dec prog_14_method_76_code 110 = some (.dup, 1) := by decide +kernel
theorem dm_X12_quote_111 : mj_dec prog_14_method_76_code 111 = some (.getfield 383, 3) := by decide +kernel
theorem dm_X12_quote_114 : mj_dec prog_14_method_76_code 114 = some (.iload_n 1, 1) := by decide +kernel
theorem dm_X12_quote_115 : mj_dec prog_14_method_76_code 115 = some (.iconst 2, 1) := by decide +kernel
theorem dm_X12_quote_116 : mj_dec prog_14_method_76_code 116 = some (.iadd, 1) := by decide +kernel
theorem dm_X12_quote_117 : mj_dec prog_14_method_76_code 117 = some (.iadd, 1) := by decide +kernel
theorem dm_X12_quote_118 : mj_dec prog_14_method_76_code 118 = some (.putfield 383, 3) := by decide +kernel
theorem dm_X12_quote_121 : mj_dec prog_14_method_76_code 121 = some (.return_, 1) := by decide +kernel
theorem r_quote_ {xt : mj_X} {d : Nat} {pre post : mj_H} {s : RS} {bf : Nat → Int} {ln : Nat} (hm : pre.length = 102) (hd : 2 ≤ d) (hP : tpR s bf ln) {a : Nat} (h35 : s.1 35 = ((a : Nat) : Int)) (ha : a < ln) : pgN xt d 212 [.ref 102] (rS pre post s) (fun h' => ∃ t, h' = rS pre post t ∧ qtP s t a (rnL txB bf ln 60 (a + 1)) (0 < rnL txB bf ln 60 (a + 1) ∧ byA bf ln ((a + 1 + rnL txB bf ln 60 (a + 1) : Nat) : Int) = 39)) := by
  have hln := hP.2.1
  refine x_enter pm_X12_quote (L0 := [(0, .ref 102)]) rfl (Nat.le_of_ble_eq_true rfl) (by omega) ?_
  refine me0 (pc' := 1) (S' := [ii 0]) dm_X12_quote_0 rfl rfl rfl rfl ?_
  refine me1 (pc' := 2) (L' := [(1, ii 0), (0, .ref 102)]) (S' := []) dm_X12_quote_1 rfl rfl rfl rfl ?_
  have lp2 : ∀ (n2 : Nat) (k : Nat), ln + 1 - k = n2 → (k ≤ ln) → (∀ j, a + 1 ≤ j → j < a + 1 + k → j < ln ∧ txB (bf j) = true) → pgE xt (d - 1) 12 2 false (Option.none : Option Jvm.ClassFile.FieldType) (mj_dec prog_14_method_76_code) 2 [(1, ii ((k : Nat) : Int)), (0, .ref 102)] [] (rI pre post s.1 s.2.1 s.2.2.1 s.2.2.2) (fun r h' => r = none ∧ ∃ t, h' = rS pre post t ∧ qtP s t a (rnL txB bf ln 60 (a + 1)) (0 < rnL txB bf ln 60 (a + 1) ∧ byA bf ln ((a + 1 + rnL txB bf ln 60 (a + 1) : Nat) : Int) = 39)) := by
    intro n2
    induction n2 using Nat.strongRecOn with
    | ind n2 ih2 =>
      intro k hm2 hk hrun
      refine me1 (pc' := 3) (L' := [(1, ii ((k : Nat) : Int)), (0, .ref 102)]) (S' := [.ref 102]) dm_X12_quote_2 rfl rfl rfl rfl ?_
      refine me1 (pc' := 4) (L' := [(1, ii ((k : Nat) : Int)), (0, .ref 102)]) (S' := [.ref 102, .ref 102]) dm_X12_quote_3 rfl rfl rfl rfl ?_
      refine me3 (pc' := 7) (S' := [ii (s.1 35), .ref 102]) dm_X12_quote_4 (q_geti (v := s.1 35) hm rfl (fun m i l => rg_35 m i l) rfl) rfl rfl rfl ?_
      refine me0 (pc' := 8) (S' := [ii 1, ii (s.1 35), .ref 102]) dm_X12_quote_7 rfl rfl rfl rfl ?_
      refine y_iadd (a := s.1 35) (b := 1) dm_X12_quote_8 (pc' := 9) rfl ?_
      refine me1 (pc' := 10) (L' := [(1, ii ((k : Nat) : Int)), (0, .ref 102)]) (S' := [ii ((k : Nat) : Int), ii ((s.1 35) + 1), .ref 102]) dm_X12_quote_9 rfl rfl rfl rfl ?_
      refine y_iadd (a := (s.1 35) + 1) (b := ((k : Nat) : Int)) dm_X12_quote_10 (pc' := 11) rfl ?_
      have hy1P : tpR s bf ln := tpR_k hP (rtk_rf s)
      have hy1r := byR_r s (((s.1 35) + 1) + ((k : Nat) : Int))
      have hy1 : byR s (((s.1 35) + 1) + ((k : Nat) : Int)) = byO bf ln (a + 1 + k) := by rw [show (((s.1 35) + 1) + ((k : Nat) : Int) : Int) = ((a + 1 + k : Nat) : Int) by first | rfl | omega]; exact tpR_by hy1P
      refine x_cp (pc' := 14) (v := ii (byR s (((s.1 35) + 1) + ((k : Nat) : Int)))) (rest := []) dm_X12_quote_11 rfl (q_inv (As := [ii (((s.1 35) + 1) + ((k : Nat) : Int))]) (S := []) hm rfl rfl rfl) rfl rfl rfl (r_byteAt_ (s := s) (i := ((s.1 35) + 1) + ((k : Nat) : Int)) hm (by omega) (by omega) (by have := hy1P.1; have := hy1P.2.1; omega) hy1P.2.2.1) ?_
      refine me0 (pc' := 16) (S' := [ii 32, ii (byR s (((s.1 35) + 1) + ((k : Nat) : Int)))]) dm_X12_quote_14 rfl rfl rfl rfl ?_
      refine y_2lt (a := byR s (((s.1 35) + 1) + ((k : Nat) : Int))) (b := 32) (t := 59) (pc' := 19) dm_X12_quote_16 rfl rfl (by omega) (fun hb1 => ?_) (fun hb1 => ?_)
      · rw [hy1] at hb1
        have htx := tx_n hrun (fun z => by have z2 := of_decide_eq_true z.2; have z1 := byO_in (bf := bf) z.1; omega)
        refine me1 (pc' := 60) (L' := [(1, ii ((k : Nat) : Int)), (0, .ref 102)]) (S' := [.ref 102]) dm_X12_quote_59 rfl rfl rfl rfl ?_
        refine me1 (pc' := 61) (L' := [(1, ii ((k : Nat) : Int)), (0, .ref 102)]) (S' := [ii ((k : Nat) : Int), .ref 102]) dm_X12_quote_60 rfl rfl rfl rfl ?_
        refine y_1eq (a := ((k : Nat) : Int)) (t := 87) (pc' := 64) dm_X12_quote_61 rfl rfl (by omega) (fun hb2 => ?_) (fun hb2 => ?_)
        · refine me0 (pc' := 89) (S' := [ii 8, .ref 102]) dm_X12_quote_87 rfl rfl rfl rfl ?_
          refine me2 (pc' := 93) (S' := [ii 8, .ref 102]) dm_X12_quote_89 rfl rfl rfl ?_
          refine me3 (pc' := 96) (S' := []) (h1 := rI pre post (va_up s.1 38 8) s.2.1 s.2.2.1 s.2.2.2) dm_X12_quote_93 (q_puti hm rfl rfl (fun m i l v => rf_38 m i l v)) rfl rfl rfl ?_
          refine me1 (pc' := 97) (L' := [(1, ii ((k : Nat) : Int)), (0, .ref 102)]) (S' := [.ref 102]) dm_X12_quote_96 rfl rfl rfl rfl ?_
          refine me1 (pc' := 98) (L' := [(1, ii ((k : Nat) : Int)), (0, .ref 102)]) (S' := [ii ((k : Nat) : Int), .ref 102]) dm_X12_quote_97 rfl rfl rfl rfl ?_
          refine me3 (pc' := 101) (S' := []) (h1 := rI pre post (va_up (va_up s.1 38 8) 40 ((k : Nat) : Int)) s.2.1 s.2.2.1 s.2.2.2) dm_X12_quote_98 (q_puti hm rfl rfl (fun m i l v => rf_40 m i l v)) rfl rfl rfl ?_
          refine me1 (pc' := 102) (L' := [(1, ii ((k : Nat) : Int)), (0, .ref 102)]) (S' := [.ref 102]) dm_X12_quote_101 rfl rfl rfl rfl ?_
          refine me3 (pc' := 105) (S' := [ii 8]) dm_X12_quote_102 (q_geti (v := 8) hm rfl (fun m i l => rg_38 m i l) rfl) rfl rfl rfl ?_
          refine me0 (pc' := 106) (S' := [ii 2, ii 8]) dm_X12_quote_105 rfl rfl rfl rfl ?_
          refine me_2t (pc' := 121) dm_X12_quote_106 rfl (by decide) ?_
          refine y_ret (r := none) dm_X12_quote_121 rfl rfl rfl ?_
          refine ⟨rfl, (va_up (va_up s.1 38 8) 40 ((k : Nat) : Int), s.2.1, s.2.2.1, s.2.2.2), rfl, rtk_i (j := 40) (by decide) (rtk_i (j := 38) (by decide) (rtk_rf s)), rfl, rfl, rfl, ?_⟩
          have hA := byO_A (bf := bf) (ln := ln) (i := a + 1 + k)
          refine Or.inr ⟨fun z => ?_, rfl, h35⟩
          rcases htx with ⟨_, e⟩ | ⟨_, e, e2⟩
          · rw [e] at z; omega
          · rw [e] at z; exact e2 z.2
        · refine me1 (pc' := 65) (L' := [(1, ii ((k : Nat) : Int)), (0, .ref 102)]) (S' := [ii ((k : Nat) : Int), .ref 102]) dm_X12_quote_64 rfl rfl rfl rfl ?_
          refine me0 (pc' := 67) (S' := [ii 60, ii ((k : Nat) : Int), .ref 102]) dm_X12_quote_65 rfl rfl rfl rfl ?_
          refine y_2gt (a := ((k : Nat) : Int)) (b := 60) (t := 87) (pc' := 70) dm_X12_quote_67 rfl rfl (by omega) (fun hb3 => ?_) (fun hb3 => ?_)
          · refine me0 (pc' := 89) (S' := [ii 8, .ref 102]) dm_X12_quote_87 rfl rfl rfl rfl ?_
            refine me2 (pc' := 93) (S' := [ii 8, .ref 102]) dm_X12_quote_89 rfl rfl rfl ?_
            refine me3 (pc' := 96) (S' := []) (h1 := rI pre post (va_up s.1 38 8) s.2.1 s.2.2.1 s.2.2.2) dm_X12_quote_93 (q_puti hm rfl rfl (fun m i l v => rf_38 m i l v)) rfl rfl rfl ?_
            refine me1 (pc' := 97) (L' := [(1, ii ((k : Nat) : Int)), (0, .ref 102)]) (S' := [.ref 102]) dm_X12_quote_96 rfl rfl rfl rfl ?_
            refine me1 (pc' := 98) (L' := [(1, ii ((k : Nat) : Int)), (0, .ref 102)]) (S' := [ii ((k : Nat) : Int), .ref 102]) dm_X12_quote_97 rfl rfl rfl rfl ?_
            refine me3 (pc' := 101) (S' := []) (h1 := rI pre post (va_up (va_up s.1 38 8) 40 ((k : Nat) : Int)) s.2.1 s.2.2.1 s.2.2.2) dm_X12_quote_98 (q_puti hm rfl rfl (fun m i l v => rf_40 m i l v)) rfl rfl rfl ?_
            refine me1 (pc' := 102) (L' := [(1, ii ((k : Nat) : Int)), (0, .ref 102)]) (S' := [.ref 102]) dm_X12_quote_101 rfl rfl rfl rfl ?_
            refine me3 (pc' := 105) (S' := [ii 8]) dm_X12_quote_102 (q_geti (v := 8) hm rfl (fun m i l => rg_38 m i l) rfl) rfl rfl rfl ?_
            refine me0 (pc' := 106) (S' := [ii 2, ii 8]) dm_X12_quote_105 rfl rfl rfl rfl ?_
            refine me_2t (pc' := 121) dm_X12_quote_106 rfl (by decide) ?_
            refine y_ret (r := none) dm_X12_quote_121 rfl rfl rfl ?_
            refine ⟨rfl, (va_up (va_up s.1 38 8) 40 ((k : Nat) : Int), s.2.1, s.2.2.1, s.2.2.2), rfl, rtk_i (j := 40) (by decide) (rtk_i (j := 38) (by decide) (rtk_rf s)), rfl, rfl, rfl, ?_⟩
            have hA := byO_A (bf := bf) (ln := ln) (i := a + 1 + k)
            refine Or.inr ⟨fun z => ?_, rfl, h35⟩
            rcases htx with ⟨_, e⟩ | ⟨_, e, e2⟩
            · rw [e] at z; omega
            · rw [e] at z; exact e2 z.2
          · refine me1 (pc' := 71) (L' := [(1, ii ((k : Nat) : Int)), (0, .ref 102)]) (S' := [.ref 102, .ref 102]) dm_X12_quote_70 rfl rfl rfl rfl ?_
            refine me1 (pc' := 72) (L' := [(1, ii ((k : Nat) : Int)), (0, .ref 102)]) (S' := [.ref 102, .ref 102, .ref 102]) dm_X12_quote_71 rfl rfl rfl rfl ?_
            refine me3 (pc' := 75) (S' := [ii (s.1 35), .ref 102, .ref 102]) dm_X12_quote_72 (q_geti (v := s.1 35) hm rfl (fun m i l => rg_35 m i l) rfl) rfl rfl rfl ?_
            refine me0 (pc' := 76) (S' := [ii 1, ii (s.1 35), .ref 102, .ref 102]) dm_X12_quote_75 rfl rfl rfl rfl ?_
            refine y_iadd (a := s.1 35) (b := 1) dm_X12_quote_76 (pc' := 77) rfl ?_
            refine me1 (pc' := 78) (L' := [(1, ii ((k : Nat) : Int)), (0, .ref 102)]) (S' := [ii ((k : Nat) : Int), ii ((s.1 35) + 1), .ref 102, .ref 102]) dm_X12_quote_77 rfl rfl rfl rfl ?_
            refine y_iadd (a := (s.1 35) + 1) (b := ((k : Nat) : Int)) dm_X12_quote_78 (pc' := 79) rfl ?_
            have hy2P : tpR s bf ln := tpR_k hP (rtk_rf s)
            have hy2r := byR_r s (((s.1 35) + 1) + ((k : Nat) : Int))
            have hy2 : byR s (((s.1 35) + 1) + ((k : Nat) : Int)) = byO bf ln (a + 1 + k) := by rw [show (((s.1 35) + 1) + ((k : Nat) : Int) : Int) = ((a + 1 + k : Nat) : Int) by first | rfl | omega]; exact tpR_by hy2P
            refine x_cp (pc' := 82) (v := ii (byR s (((s.1 35) + 1) + ((k : Nat) : Int)))) (rest := [.ref 102]) dm_X12_quote_79 rfl (q_inv (As := [ii (((s.1 35) + 1) + ((k : Nat) : Int))]) (S := [.ref 102]) hm rfl rfl rfl) rfl rfl rfl (r_byteAt_ (s := s) (i := ((s.1 35) + 1) + ((k : Nat) : Int)) hm (by omega) (by omega) (by have := hy2P.1; have := hy2P.2.1; omega) hy2P.2.2.1) ?_
            refine me0 (pc' := 84) (S' := [ii 39, ii (byR s (((s.1 35) + 1) + ((k : Nat) : Int))), .ref 102]) dm_X12_quote_82 rfl rfl rfl rfl ?_
            refine y_2eq (a := byR s (((s.1 35) + 1) + ((k : Nat) : Int))) (b := 39) (t := 92) (pc' := 87) dm_X12_quote_84 rfl rfl (by omega) (fun hb4 => ?_) (fun hb4 => ?_)
            · rw [hy2] at hb4
              refine me0 (pc' := 93) (S' := [ii 2, .ref 102]) dm_X12_quote_92 rfl rfl rfl rfl ?_
              refine me3 (pc' := 96) (S' := []) (h1 := rI pre post (va_up s.1 38 2) s.2.1 s.2.2.1 s.2.2.2) dm_X12_quote_93 (q_puti hm rfl rfl (fun m i l v => rf_38 m i l v)) rfl rfl rfl ?_
              refine me1 (pc' := 97) (L' := [(1, ii ((k : Nat) : Int)), (0, .ref 102)]) (S' := [.ref 102]) dm_X12_quote_96 rfl rfl rfl rfl ?_
              refine me1 (pc' := 98) (L' := [(1, ii ((k : Nat) : Int)), (0, .ref 102)]) (S' := [ii ((k : Nat) : Int), .ref 102]) dm_X12_quote_97 rfl rfl rfl rfl ?_
              refine me3 (pc' := 101) (S' := []) (h1 := rI pre post (va_up (va_up s.1 38 2) 40 ((k : Nat) : Int)) s.2.1 s.2.2.1 s.2.2.2) dm_X12_quote_98 (q_puti hm rfl rfl (fun m i l v => rf_40 m i l v)) rfl rfl rfl ?_
              refine me1 (pc' := 102) (L' := [(1, ii ((k : Nat) : Int)), (0, .ref 102)]) (S' := [.ref 102]) dm_X12_quote_101 rfl rfl rfl rfl ?_
              refine me3 (pc' := 105) (S' := [ii 2]) dm_X12_quote_102 (q_geti (v := 2) hm rfl (fun m i l => rg_38 m i l) rfl) rfl rfl rfl ?_
              refine me0 (pc' := 106) (S' := [ii 2, ii 2]) dm_X12_quote_105 rfl rfl rfl rfl ?_
              refine me_2f (pc' := 109) dm_X12_quote_106 rfl (by decide) rfl ?_
              refine me1 (pc' := 110) (L' := [(1, ii ((k : Nat) : Int)), (0, .ref 102)]) (S' := [.ref 102]) dm_X12_quote_109 rfl rfl rfl rfl ?_
              refine me0 (pc' := 111) (S' := [.ref 102, .ref 102]) dm_X12_quote_110 rfl rfl rfl rfl ?_
              refine me3 (pc' := 114) (S' := [ii (s.1 35), .ref 102]) dm_X12_quote_111 (q_geti (v := s.1 35) hm rfl (fun m i l => rg_35 m i l) rfl) rfl rfl rfl ?_
              refine me1 (pc' := 115) (L' := [(1, ii ((k : Nat) : Int)), (0, .ref 102)]) (S' := [ii ((k : Nat) : Int), ii (s.1 35), .ref 102]) dm_X12_quote_114 rfl rfl rfl rfl ?_
              refine me0 (pc' := 116) (S' := [ii 2, ii ((k : Nat) : Int), ii (s.1 35), .ref 102]) dm_X12_quote_115 rfl rfl rfl rfl ?_
              refine y_iadd (a := ((k : Nat) : Int)) (b := 2) dm_X12_quote_116 (pc' := 117) rfl ?_
              refine y_iadd (a := s.1 35) (b := ((k : Nat) : Int) + 2) dm_X12_quote_117 (pc' := 118) rfl ?_
              refine me3 (pc' := 121) (S' := []) (h1 := rI pre post (va_up (va_up (va_up s.1 38 2) 40 ((k : Nat) : Int)) 35 ((s.1 35) + (((k : Nat) : Int) + 2))) s.2.1 s.2.2.1 s.2.2.2) dm_X12_quote_118 (q_puti hm rfl rfl (fun m i l v => rf_35 m i l v)) rfl rfl rfl ?_
              refine y_ret (r := none) dm_X12_quote_121 rfl rfl rfl ?_
              refine ⟨rfl, (va_up (va_up (va_up s.1 38 2) 40 ((k : Nat) : Int)) 35 ((s.1 35) + (((k : Nat) : Int) + 2)), s.2.1, s.2.2.1, s.2.2.2), rfl, rtk_i (j := 35) (by decide) (rtk_i (j := 40) (by decide) (rtk_i (j := 38) (by decide) (rtk_rf s))), rfl, rfl, rfl, ?_⟩
              have hA := byO_A (bf := bf) (ln := ln) (i := a + 1 + k)
              rcases htx with ⟨_, e⟩ | ⟨e, _⟩
              · rw [e]; exact Or.inl ⟨⟨by omega, by omega⟩, rfl, rfl, (show s.1 35 + _ = _ by omega)⟩
              · exfalso; omega
            · rw [hy2] at hb4
              refine me0 (pc' := 89) (S' := [ii 8, .ref 102]) dm_X12_quote_87 rfl rfl rfl rfl ?_
              refine me2 (pc' := 93) (S' := [ii 8, .ref 102]) dm_X12_quote_89 rfl rfl rfl ?_
              refine me3 (pc' := 96) (S' := []) (h1 := rI pre post (va_up s.1 38 8) s.2.1 s.2.2.1 s.2.2.2) dm_X12_quote_93 (q_puti hm rfl rfl (fun m i l v => rf_38 m i l v)) rfl rfl rfl ?_
              refine me1 (pc' := 97) (L' := [(1, ii ((k : Nat) : Int)), (0, .ref 102)]) (S' := [.ref 102]) dm_X12_quote_96 rfl rfl rfl rfl ?_
              refine me1 (pc' := 98) (L' := [(1, ii ((k : Nat) : Int)), (0, .ref 102)]) (S' := [ii ((k : Nat) : Int), .ref 102]) dm_X12_quote_97 rfl rfl rfl rfl ?_
              refine me3 (pc' := 101) (S' := []) (h1 := rI pre post (va_up (va_up s.1 38 8) 40 ((k : Nat) : Int)) s.2.1 s.2.2.1 s.2.2.2) dm_X12_quote_98 (q_puti hm rfl rfl (fun m i l v => rf_40 m i l v)) rfl rfl rfl ?_
              refine me1 (pc' := 102) (L' := [(1, ii ((k : Nat) : Int)), (0, .ref 102)]) (S' := [.ref 102]) dm_X12_quote_101 rfl rfl rfl rfl ?_
              refine me3 (pc' := 105) (S' := [ii 8]) dm_X12_quote_102 (q_geti (v := 8) hm rfl (fun m i l => rg_38 m i l) rfl) rfl rfl rfl ?_
              refine me0 (pc' := 106) (S' := [ii 2, ii 8]) dm_X12_quote_105 rfl rfl rfl rfl ?_
              refine me_2t (pc' := 121) dm_X12_quote_106 rfl (by decide) ?_
              refine y_ret (r := none) dm_X12_quote_121 rfl rfl rfl ?_
              refine ⟨rfl, (va_up (va_up s.1 38 8) 40 ((k : Nat) : Int), s.2.1, s.2.2.1, s.2.2.2), rfl, rtk_i (j := 40) (by decide) (rtk_i (j := 38) (by decide) (rtk_rf s)), rfl, rfl, rfl, ?_⟩
              have hA := byO_A (bf := bf) (ln := ln) (i := a + 1 + k)
              refine Or.inr ⟨fun z => ?_, rfl, h35⟩
              rcases htx with ⟨_, e⟩ | ⟨_, e, e2⟩
              · rw [e] at z; omega
              · rw [e] at z; exact e2 z.2
      · rw [hy1] at hb1
        refine me1 (pc' := 20) (L' := [(1, ii ((k : Nat) : Int)), (0, .ref 102)]) (S' := [.ref 102]) dm_X12_quote_19 rfl rfl rfl rfl ?_
        refine me1 (pc' := 21) (L' := [(1, ii ((k : Nat) : Int)), (0, .ref 102)]) (S' := [.ref 102, .ref 102]) dm_X12_quote_20 rfl rfl rfl rfl ?_
        refine me3 (pc' := 24) (S' := [ii (s.1 35), .ref 102]) dm_X12_quote_21 (q_geti (v := s.1 35) hm rfl (fun m i l => rg_35 m i l) rfl) rfl rfl rfl ?_
        refine me0 (pc' := 25) (S' := [ii 1, ii (s.1 35), .ref 102]) dm_X12_quote_24 rfl rfl rfl rfl ?_
        refine y_iadd (a := s.1 35) (b := 1) dm_X12_quote_25 (pc' := 26) rfl ?_
        refine me1 (pc' := 27) (L' := [(1, ii ((k : Nat) : Int)), (0, .ref 102)]) (S' := [ii ((k : Nat) : Int), ii ((s.1 35) + 1), .ref 102]) dm_X12_quote_26 rfl rfl rfl rfl ?_
        refine y_iadd (a := (s.1 35) + 1) (b := ((k : Nat) : Int)) dm_X12_quote_27 (pc' := 28) rfl ?_
        have hy2P : tpR s bf ln := tpR_k hP (rtk_rf s)
        have hy2r := byR_r s (((s.1 35) + 1) + ((k : Nat) : Int))
        have hy2 : byR s (((s.1 35) + 1) + ((k : Nat) : Int)) = byO bf ln (a + 1 + k) := by rw [show (((s.1 35) + 1) + ((k : Nat) : Int) : Int) = ((a + 1 + k : Nat) : Int) by first | rfl | omega]; exact tpR_by hy2P
        refine x_cp (pc' := 31) (v := ii (byR s (((s.1 35) + 1) + ((k : Nat) : Int)))) (rest := []) dm_X12_quote_28 rfl (q_inv (As := [ii (((s.1 35) + 1) + ((k : Nat) : Int))]) (S := []) hm rfl rfl rfl) rfl rfl rfl (r_byteAt_ (s := s) (i := ((s.1 35) + 1) + ((k : Nat) : Int)) hm (by omega) (by omega) (by have := hy2P.1; have := hy2P.2.1; omega) hy2P.2.2.1) ?_
        refine me0 (pc' := 33) (S' := [ii 126, ii (byR s (((s.1 35) + 1) + ((k : Nat) : Int)))]) dm_X12_quote_31 rfl rfl rfl rfl ?_
        refine y_2gt (a := byR s (((s.1 35) + 1) + ((k : Nat) : Int))) (b := 126) (t := 59) (pc' := 36) dm_X12_quote_33 rfl rfl (by omega) (fun hb5 => ?_) (fun hb5 => ?_)
        · rw [hy2] at hb5
          have htx := tx_n hrun (fun z => by have z2 := of_decide_eq_true z.2; have z1 := byO_in (bf := bf) z.1; omega)
          refine me1 (pc' := 60) (L' := [(1, ii ((k : Nat) : Int)), (0, .ref 102)]) (S' := [.ref 102]) dm_X12_quote_59 rfl rfl rfl rfl ?_
          refine me1 (pc' := 61) (L' := [(1, ii ((k : Nat) : Int)), (0, .ref 102)]) (S' := [ii ((k : Nat) : Int), .ref 102]) dm_X12_quote_60 rfl rfl rfl rfl ?_
          refine y_1eq (a := ((k : Nat) : Int)) (t := 87) (pc' := 64) dm_X12_quote_61 rfl rfl (by omega) (fun hb6 => ?_) (fun hb6 => ?_)
          · refine me0 (pc' := 89) (S' := [ii 8, .ref 102]) dm_X12_quote_87 rfl rfl rfl rfl ?_
            refine me2 (pc' := 93) (S' := [ii 8, .ref 102]) dm_X12_quote_89 rfl rfl rfl ?_
            refine me3 (pc' := 96) (S' := []) (h1 := rI pre post (va_up s.1 38 8) s.2.1 s.2.2.1 s.2.2.2) dm_X12_quote_93 (q_puti hm rfl rfl (fun m i l v => rf_38 m i l v)) rfl rfl rfl ?_
            refine me1 (pc' := 97) (L' := [(1, ii ((k : Nat) : Int)), (0, .ref 102)]) (S' := [.ref 102]) dm_X12_quote_96 rfl rfl rfl rfl ?_
            refine me1 (pc' := 98) (L' := [(1, ii ((k : Nat) : Int)), (0, .ref 102)]) (S' := [ii ((k : Nat) : Int), .ref 102]) dm_X12_quote_97 rfl rfl rfl rfl ?_
            refine me3 (pc' := 101) (S' := []) (h1 := rI pre post (va_up (va_up s.1 38 8) 40 ((k : Nat) : Int)) s.2.1 s.2.2.1 s.2.2.2) dm_X12_quote_98 (q_puti hm rfl rfl (fun m i l v => rf_40 m i l v)) rfl rfl rfl ?_
            refine me1 (pc' := 102) (L' := [(1, ii ((k : Nat) : Int)), (0, .ref 102)]) (S' := [.ref 102]) dm_X12_quote_101 rfl rfl rfl rfl ?_
            refine me3 (pc' := 105) (S' := [ii 8]) dm_X12_quote_102 (q_geti (v := 8) hm rfl (fun m i l => rg_38 m i l) rfl) rfl rfl rfl ?_
            refine me0 (pc' := 106) (S' := [ii 2, ii 8]) dm_X12_quote_105 rfl rfl rfl rfl ?_
            refine me_2t (pc' := 121) dm_X12_quote_106 rfl (by decide) ?_
            refine y_ret (r := none) dm_X12_quote_121 rfl rfl rfl ?_
            refine ⟨rfl, (va_up (va_up s.1 38 8) 40 ((k : Nat) : Int), s.2.1, s.2.2.1, s.2.2.2), rfl, rtk_i (j := 40) (by decide) (rtk_i (j := 38) (by decide) (rtk_rf s)), rfl, rfl, rfl, ?_⟩
            have hA := byO_A (bf := bf) (ln := ln) (i := a + 1 + k)
            refine Or.inr ⟨fun z => ?_, rfl, h35⟩
            rcases htx with ⟨_, e⟩ | ⟨_, e, e2⟩
            · rw [e] at z; omega
            · rw [e] at z; exact e2 z.2
          · refine me1 (pc' := 65) (L' := [(1, ii ((k : Nat) : Int)), (0, .ref 102)]) (S' := [ii ((k : Nat) : Int), .ref 102]) dm_X12_quote_64 rfl rfl rfl rfl ?_
            refine me0 (pc' := 67) (S' := [ii 60, ii ((k : Nat) : Int), .ref 102]) dm_X12_quote_65 rfl rfl rfl rfl ?_
            refine y_2gt (a := ((k : Nat) : Int)) (b := 60) (t := 87) (pc' := 70) dm_X12_quote_67 rfl rfl (by omega) (fun hb7 => ?_) (fun hb7 => ?_)
            · refine me0 (pc' := 89) (S' := [ii 8, .ref 102]) dm_X12_quote_87 rfl rfl rfl rfl ?_
              refine me2 (pc' := 93) (S' := [ii 8, .ref 102]) dm_X12_quote_89 rfl rfl rfl ?_
              refine me3 (pc' := 96) (S' := []) (h1 := rI pre post (va_up s.1 38 8) s.2.1 s.2.2.1 s.2.2.2) dm_X12_quote_93 (q_puti hm rfl rfl (fun m i l v => rf_38 m i l v)) rfl rfl rfl ?_
              refine me1 (pc' := 97) (L' := [(1, ii ((k : Nat) : Int)), (0, .ref 102)]) (S' := [.ref 102]) dm_X12_quote_96 rfl rfl rfl rfl ?_
              refine me1 (pc' := 98) (L' := [(1, ii ((k : Nat) : Int)), (0, .ref 102)]) (S' := [ii ((k : Nat) : Int), .ref 102]) dm_X12_quote_97 rfl rfl rfl rfl ?_
              refine me3 (pc' := 101) (S' := []) (h1 := rI pre post (va_up (va_up s.1 38 8) 40 ((k : Nat) : Int)) s.2.1 s.2.2.1 s.2.2.2) dm_X12_quote_98 (q_puti hm rfl rfl (fun m i l v => rf_40 m i l v)) rfl rfl rfl ?_
              refine me1 (pc' := 102) (L' := [(1, ii ((k : Nat) : Int)), (0, .ref 102)]) (S' := [.ref 102]) dm_X12_quote_101 rfl rfl rfl rfl ?_
              refine me3 (pc' := 105) (S' := [ii 8]) dm_X12_quote_102 (q_geti (v := 8) hm rfl (fun m i l => rg_38 m i l) rfl) rfl rfl rfl ?_
              refine me0 (pc' := 106) (S' := [ii 2, ii 8]) dm_X12_quote_105 rfl rfl rfl rfl ?_
              refine me_2t (pc' := 121) dm_X12_quote_106 rfl (by decide) ?_
              refine y_ret (r := none) dm_X12_quote_121 rfl rfl rfl ?_
              refine ⟨rfl, (va_up (va_up s.1 38 8) 40 ((k : Nat) : Int), s.2.1, s.2.2.1, s.2.2.2), rfl, rtk_i (j := 40) (by decide) (rtk_i (j := 38) (by decide) (rtk_rf s)), rfl, rfl, rfl, ?_⟩
              have hA := byO_A (bf := bf) (ln := ln) (i := a + 1 + k)
              refine Or.inr ⟨fun z => ?_, rfl, h35⟩
              rcases htx with ⟨_, e⟩ | ⟨_, e, e2⟩
              · rw [e] at z; omega
              · rw [e] at z; exact e2 z.2
            · refine me1 (pc' := 71) (L' := [(1, ii ((k : Nat) : Int)), (0, .ref 102)]) (S' := [.ref 102, .ref 102]) dm_X12_quote_70 rfl rfl rfl rfl ?_
              refine me1 (pc' := 72) (L' := [(1, ii ((k : Nat) : Int)), (0, .ref 102)]) (S' := [.ref 102, .ref 102, .ref 102]) dm_X12_quote_71 rfl rfl rfl rfl ?_
              refine me3 (pc' := 75) (S' := [ii (s.1 35), .ref 102, .ref 102]) dm_X12_quote_72 (q_geti (v := s.1 35) hm rfl (fun m i l => rg_35 m i l) rfl) rfl rfl rfl ?_
              refine me0 (pc' := 76) (S' := [ii 1, ii (s.1 35), .ref 102, .ref 102]) dm_X12_quote_75 rfl rfl rfl rfl ?_
              refine y_iadd (a := s.1 35) (b := 1) dm_X12_quote_76 (pc' := 77) rfl ?_
              refine me1 (pc' := 78) (L' := [(1, ii ((k : Nat) : Int)), (0, .ref 102)]) (S' := [ii ((k : Nat) : Int), ii ((s.1 35) + 1), .ref 102, .ref 102]) dm_X12_quote_77 rfl rfl rfl rfl ?_
              refine y_iadd (a := (s.1 35) + 1) (b := ((k : Nat) : Int)) dm_X12_quote_78 (pc' := 79) rfl ?_
              have hy3P : tpR s bf ln := tpR_k hP (rtk_rf s)
              have hy3r := byR_r s (((s.1 35) + 1) + ((k : Nat) : Int))
              have hy3 : byR s (((s.1 35) + 1) + ((k : Nat) : Int)) = byO bf ln (a + 1 + k) := by rw [show (((s.1 35) + 1) + ((k : Nat) : Int) : Int) = ((a + 1 + k : Nat) : Int) by first | rfl | omega]; exact tpR_by hy3P
              refine x_cp (pc' := 82) (v := ii (byR s (((s.1 35) + 1) + ((k : Nat) : Int)))) (rest := [.ref 102]) dm_X12_quote_79 rfl (q_inv (As := [ii (((s.1 35) + 1) + ((k : Nat) : Int))]) (S := [.ref 102]) hm rfl rfl rfl) rfl rfl rfl (r_byteAt_ (s := s) (i := ((s.1 35) + 1) + ((k : Nat) : Int)) hm (by omega) (by omega) (by have := hy3P.1; have := hy3P.2.1; omega) hy3P.2.2.1) ?_
              refine me0 (pc' := 84) (S' := [ii 39, ii (byR s (((s.1 35) + 1) + ((k : Nat) : Int))), .ref 102]) dm_X12_quote_82 rfl rfl rfl rfl ?_
              refine y_2eq (a := byR s (((s.1 35) + 1) + ((k : Nat) : Int))) (b := 39) (t := 92) (pc' := 87) dm_X12_quote_84 rfl rfl (by omega) (fun hb8 => ?_) (fun hb8 => ?_)
              · rw [hy3] at hb8
                refine me0 (pc' := 93) (S' := [ii 2, .ref 102]) dm_X12_quote_92 rfl rfl rfl rfl ?_
                refine me3 (pc' := 96) (S' := []) (h1 := rI pre post (va_up s.1 38 2) s.2.1 s.2.2.1 s.2.2.2) dm_X12_quote_93 (q_puti hm rfl rfl (fun m i l v => rf_38 m i l v)) rfl rfl rfl ?_
                refine me1 (pc' := 97) (L' := [(1, ii ((k : Nat) : Int)), (0, .ref 102)]) (S' := [.ref 102]) dm_X12_quote_96 rfl rfl rfl rfl ?_
                refine me1 (pc' := 98) (L' := [(1, ii ((k : Nat) : Int)), (0, .ref 102)]) (S' := [ii ((k : Nat) : Int), .ref 102]) dm_X12_quote_97 rfl rfl rfl rfl ?_
                refine me3 (pc' := 101) (S' := []) (h1 := rI pre post (va_up (va_up s.1 38 2) 40 ((k : Nat) : Int)) s.2.1 s.2.2.1 s.2.2.2) dm_X12_quote_98 (q_puti hm rfl rfl (fun m i l v => rf_40 m i l v)) rfl rfl rfl ?_
                refine me1 (pc' := 102) (L' := [(1, ii ((k : Nat) : Int)), (0, .ref 102)]) (S' := [.ref 102]) dm_X12_quote_101 rfl rfl rfl rfl ?_
                refine me3 (pc' := 105) (S' := [ii 2]) dm_X12_quote_102 (q_geti (v := 2) hm rfl (fun m i l => rg_38 m i l) rfl) rfl rfl rfl ?_
                refine me0 (pc' := 106) (S' := [ii 2, ii 2]) dm_X12_quote_105 rfl rfl rfl rfl ?_
                refine me_2f (pc' := 109) dm_X12_quote_106 rfl (by decide) rfl ?_
                refine me1 (pc' := 110) (L' := [(1, ii ((k : Nat) : Int)), (0, .ref 102)]) (S' := [.ref 102]) dm_X12_quote_109 rfl rfl rfl rfl ?_
                refine me0 (pc' := 111) (S' := [.ref 102, .ref 102]) dm_X12_quote_110 rfl rfl rfl rfl ?_
                refine me3 (pc' := 114) (S' := [ii (s.1 35), .ref 102]) dm_X12_quote_111 (q_geti (v := s.1 35) hm rfl (fun m i l => rg_35 m i l) rfl) rfl rfl rfl ?_
                refine me1 (pc' := 115) (L' := [(1, ii ((k : Nat) : Int)), (0, .ref 102)]) (S' := [ii ((k : Nat) : Int), ii (s.1 35), .ref 102]) dm_X12_quote_114 rfl rfl rfl rfl ?_
                refine me0 (pc' := 116) (S' := [ii 2, ii ((k : Nat) : Int), ii (s.1 35), .ref 102]) dm_X12_quote_115 rfl rfl rfl rfl ?_
                refine y_iadd (a := ((k : Nat) : Int)) (b := 2) dm_X12_quote_116 (pc' := 117) rfl ?_
                refine y_iadd (a := s.1 35) (b := ((k : Nat) : Int) + 2) dm_X12_quote_117 (pc' := 118) rfl ?_
                refine me3 (pc' := 121) (S' := []) (h1 := rI pre post (va_up (va_up (va_up s.1 38 2) 40 ((k : Nat) : Int)) 35 ((s.1 35) + (((k : Nat) : Int) + 2))) s.2.1 s.2.2.1 s.2.2.2) dm_X12_quote_118 (q_puti hm rfl rfl (fun m i l v => rf_35 m i l v)) rfl rfl rfl ?_
                refine y_ret (r := none) dm_X12_quote_121 rfl rfl rfl ?_
                refine ⟨rfl, (va_up (va_up (va_up s.1 38 2) 40 ((k : Nat) : Int)) 35 ((s.1 35) + (((k : Nat) : Int) + 2)), s.2.1, s.2.2.1, s.2.2.2), rfl, rtk_i (j := 35) (by decide) (rtk_i (j := 40) (by decide) (rtk_i (j := 38) (by decide) (rtk_rf s))), rfl, rfl, rfl, ?_⟩
                have hA := byO_A (bf := bf) (ln := ln) (i := a + 1 + k)
                rcases htx with ⟨_, e⟩ | ⟨e, _⟩
                · rw [e]; exact Or.inl ⟨⟨by omega, by omega⟩, rfl, rfl, (show s.1 35 + _ = _ by omega)⟩
                · exfalso; omega
              · rw [hy3] at hb8
                refine me0 (pc' := 89) (S' := [ii 8, .ref 102]) dm_X12_quote_87 rfl rfl rfl rfl ?_
                refine me2 (pc' := 93) (S' := [ii 8, .ref 102]) dm_X12_quote_89 rfl rfl rfl ?_
                refine me3 (pc' := 96) (S' := []) (h1 := rI pre post (va_up s.1 38 8) s.2.1 s.2.2.1 s.2.2.2) dm_X12_quote_93 (q_puti hm rfl rfl (fun m i l v => rf_38 m i l v)) rfl rfl rfl ?_
                refine me1 (pc' := 97) (L' := [(1, ii ((k : Nat) : Int)), (0, .ref 102)]) (S' := [.ref 102]) dm_X12_quote_96 rfl rfl rfl rfl ?_
                refine me1 (pc' := 98) (L' := [(1, ii ((k : Nat) : Int)), (0, .ref 102)]) (S' := [ii ((k : Nat) : Int), .ref 102]) dm_X12_quote_97 rfl rfl rfl rfl ?_
                refine me3 (pc' := 101) (S' := []) (h1 := rI pre post (va_up (va_up s.1 38 8) 40 ((k : Nat) : Int)) s.2.1 s.2.2.1 s.2.2.2) dm_X12_quote_98 (q_puti hm rfl rfl (fun m i l v => rf_40 m i l v)) rfl rfl rfl ?_
                refine me1 (pc' := 102) (L' := [(1, ii ((k : Nat) : Int)), (0, .ref 102)]) (S' := [.ref 102]) dm_X12_quote_101 rfl rfl rfl rfl ?_
                refine me3 (pc' := 105) (S' := [ii 8]) dm_X12_quote_102 (q_geti (v := 8) hm rfl (fun m i l => rg_38 m i l) rfl) rfl rfl rfl ?_
                refine me0 (pc' := 106) (S' := [ii 2, ii 8]) dm_X12_quote_105 rfl rfl rfl rfl ?_
                refine me_2t (pc' := 121) dm_X12_quote_106 rfl (by decide) ?_
                refine y_ret (r := none) dm_X12_quote_121 rfl rfl rfl ?_
                refine ⟨rfl, (va_up (va_up s.1 38 8) 40 ((k : Nat) : Int), s.2.1, s.2.2.1, s.2.2.2), rfl, rtk_i (j := 40) (by decide) (rtk_i (j := 38) (by decide) (rtk_rf s)), rfl, rfl, rfl, ?_⟩
                have hA := byO_A (bf := bf) (ln := ln) (i := a + 1 + k)
                refine Or.inr ⟨fun z => ?_, rfl, h35⟩
                rcases htx with ⟨_, e⟩ | ⟨_, e, e2⟩
                · rw [e] at z; omega
                · rw [e] at z; exact e2 z.2
        · rw [hy2] at hb5
          refine me1 (pc' := 37) (L' := [(1, ii ((k : Nat) : Int)), (0, .ref 102)]) (S' := [.ref 102]) dm_X12_quote_36 rfl rfl rfl rfl ?_
          refine me1 (pc' := 38) (L' := [(1, ii ((k : Nat) : Int)), (0, .ref 102)]) (S' := [.ref 102, .ref 102]) dm_X12_quote_37 rfl rfl rfl rfl ?_
          refine me3 (pc' := 41) (S' := [ii (s.1 35), .ref 102]) dm_X12_quote_38 (q_geti (v := s.1 35) hm rfl (fun m i l => rg_35 m i l) rfl) rfl rfl rfl ?_
          refine me0 (pc' := 42) (S' := [ii 1, ii (s.1 35), .ref 102]) dm_X12_quote_41 rfl rfl rfl rfl ?_
          refine y_iadd (a := s.1 35) (b := 1) dm_X12_quote_42 (pc' := 43) rfl ?_
          refine me1 (pc' := 44) (L' := [(1, ii ((k : Nat) : Int)), (0, .ref 102)]) (S' := [ii ((k : Nat) : Int), ii ((s.1 35) + 1), .ref 102]) dm_X12_quote_43 rfl rfl rfl rfl ?_
          refine y_iadd (a := (s.1 35) + 1) (b := ((k : Nat) : Int)) dm_X12_quote_44 (pc' := 45) rfl ?_
          have hy3P : tpR s bf ln := tpR_k hP (rtk_rf s)
          have hy3r := byR_r s (((s.1 35) + 1) + ((k : Nat) : Int))
          have hy3 : byR s (((s.1 35) + 1) + ((k : Nat) : Int)) = byO bf ln (a + 1 + k) := by rw [show (((s.1 35) + 1) + ((k : Nat) : Int) : Int) = ((a + 1 + k : Nat) : Int) by first | rfl | omega]; exact tpR_by hy3P
          refine x_cp (pc' := 48) (v := ii (byR s (((s.1 35) + 1) + ((k : Nat) : Int)))) (rest := []) dm_X12_quote_45 rfl (q_inv (As := [ii (((s.1 35) + 1) + ((k : Nat) : Int))]) (S := []) hm rfl rfl rfl) rfl rfl rfl (r_byteAt_ (s := s) (i := ((s.1 35) + 1) + ((k : Nat) : Int)) hm (by omega) (by omega) (by have := hy3P.1; have := hy3P.2.1; omega) hy3P.2.2.1) ?_
          refine me0 (pc' := 50) (S' := [ii 39, ii (byR s (((s.1 35) + 1) + ((k : Nat) : Int)))]) dm_X12_quote_48 rfl rfl rfl rfl ?_
          refine y_2eq (a := byR s (((s.1 35) + 1) + ((k : Nat) : Int))) (b := 39) (t := 59) (pc' := 53) dm_X12_quote_50 rfl rfl (by omega) (fun hb9 => ?_) (fun hb9 => ?_)
          · rw [hy3] at hb9
            have htx := tx_n hrun (fun z => by have z2 := of_decide_eq_true z.2; have z1 := byO_in (bf := bf) z.1; omega)
            refine me1 (pc' := 60) (L' := [(1, ii ((k : Nat) : Int)), (0, .ref 102)]) (S' := [.ref 102]) dm_X12_quote_59 rfl rfl rfl rfl ?_
            refine me1 (pc' := 61) (L' := [(1, ii ((k : Nat) : Int)), (0, .ref 102)]) (S' := [ii ((k : Nat) : Int), .ref 102]) dm_X12_quote_60 rfl rfl rfl rfl ?_
            refine y_1eq (a := ((k : Nat) : Int)) (t := 87) (pc' := 64) dm_X12_quote_61 rfl rfl (by omega) (fun hb10 => ?_) (fun hb10 => ?_)
            · refine me0 (pc' := 89) (S' := [ii 8, .ref 102]) dm_X12_quote_87 rfl rfl rfl rfl ?_
              refine me2 (pc' := 93) (S' := [ii 8, .ref 102]) dm_X12_quote_89 rfl rfl rfl ?_
              refine me3 (pc' := 96) (S' := []) (h1 := rI pre post (va_up s.1 38 8) s.2.1 s.2.2.1 s.2.2.2) dm_X12_quote_93 (q_puti hm rfl rfl (fun m i l v => rf_38 m i l v)) rfl rfl rfl ?_
              refine me1 (pc' := 97) (L' := [(1, ii ((k : Nat) : Int)), (0, .ref 102)]) (S' := [.ref 102]) dm_X12_quote_96 rfl rfl rfl rfl ?_
              refine me1 (pc' := 98) (L' := [(1, ii ((k : Nat) : Int)), (0, .ref 102)]) (S' := [ii ((k : Nat) : Int), .ref 102]) dm_X12_quote_97 rfl rfl rfl rfl ?_
              refine me3 (pc' := 101) (S' := []) (h1 := rI pre post (va_up (va_up s.1 38 8) 40 ((k : Nat) : Int)) s.2.1 s.2.2.1 s.2.2.2) dm_X12_quote_98 (q_puti hm rfl rfl (fun m i l v => rf_40 m i l v)) rfl rfl rfl ?_
              refine me1 (pc' := 102) (L' := [(1, ii ((k : Nat) : Int)), (0, .ref 102)]) (S' := [.ref 102]) dm_X12_quote_101 rfl rfl rfl rfl ?_
              refine me3 (pc' := 105) (S' := [ii 8]) dm_X12_quote_102 (q_geti (v := 8) hm rfl (fun m i l => rg_38 m i l) rfl) rfl rfl rfl ?_
              refine me0 (pc' := 106) (S' := [ii 2, ii 8]) dm_X12_quote_105 rfl rfl rfl rfl ?_
              refine me_2t (pc' := 121) dm_X12_quote_106 rfl (by decide) ?_
              refine y_ret (r := none) dm_X12_quote_121 rfl rfl rfl ?_
              refine ⟨rfl, (va_up (va_up s.1 38 8) 40 ((k : Nat) : Int), s.2.1, s.2.2.1, s.2.2.2), rfl, rtk_i (j := 40) (by decide) (rtk_i (j := 38) (by decide) (rtk_rf s)), rfl, rfl, rfl, ?_⟩
              have hA := byO_A (bf := bf) (ln := ln) (i := a + 1 + k)
              refine Or.inr ⟨fun z => ?_, rfl, h35⟩
              rcases htx with ⟨_, e⟩ | ⟨_, e, e2⟩
              · rw [e] at z; omega
              · rw [e] at z; exact e2 z.2
            · refine me1 (pc' := 65) (L' := [(1, ii ((k : Nat) : Int)), (0, .ref 102)]) (S' := [ii ((k : Nat) : Int), .ref 102]) dm_X12_quote_64 rfl rfl rfl rfl ?_
              refine me0 (pc' := 67) (S' := [ii 60, ii ((k : Nat) : Int), .ref 102]) dm_X12_quote_65 rfl rfl rfl rfl ?_
              refine y_2gt (a := ((k : Nat) : Int)) (b := 60) (t := 87) (pc' := 70) dm_X12_quote_67 rfl rfl (by omega) (fun hb11 => ?_) (fun hb11 => ?_)
              · refine me0 (pc' := 89) (S' := [ii 8, .ref 102]) dm_X12_quote_87 rfl rfl rfl rfl ?_
                refine me2 (pc' := 93) (S' := [ii 8, .ref 102]) dm_X12_quote_89 rfl rfl rfl ?_
                refine me3 (pc' := 96) (S' := []) (h1 := rI pre post (va_up s.1 38 8) s.2.1 s.2.2.1 s.2.2.2) dm_X12_quote_93 (q_puti hm rfl rfl (fun m i l v => rf_38 m i l v)) rfl rfl rfl ?_
                refine me1 (pc' := 97) (L' := [(1, ii ((k : Nat) : Int)), (0, .ref 102)]) (S' := [.ref 102]) dm_X12_quote_96 rfl rfl rfl rfl ?_
                refine me1 (pc' := 98) (L' := [(1, ii ((k : Nat) : Int)), (0, .ref 102)]) (S' := [ii ((k : Nat) : Int), .ref 102]) dm_X12_quote_97 rfl rfl rfl rfl ?_
                refine me3 (pc' := 101) (S' := []) (h1 := rI pre post (va_up (va_up s.1 38 8) 40 ((k : Nat) : Int)) s.2.1 s.2.2.1 s.2.2.2) dm_X12_quote_98 (q_puti hm rfl rfl (fun m i l v => rf_40 m i l v)) rfl rfl rfl ?_
                refine me1 (pc' := 102) (L' := [(1, ii ((k : Nat) : Int)), (0, .ref 102)]) (S' := [.ref 102]) dm_X12_quote_101 rfl rfl rfl rfl ?_
                refine me3 (pc' := 105) (S' := [ii 8]) dm_X12_quote_102 (q_geti (v := 8) hm rfl (fun m i l => rg_38 m i l) rfl) rfl rfl rfl ?_
                refine me0 (pc' := 106) (S' := [ii 2, ii 8]) dm_X12_quote_105 rfl rfl rfl rfl ?_
                refine me_2t (pc' := 121) dm_X12_quote_106 rfl (by decide) ?_
                refine y_ret (r := none) dm_X12_quote_121 rfl rfl rfl ?_
                refine ⟨rfl, (va_up (va_up s.1 38 8) 40 ((k : Nat) : Int), s.2.1, s.2.2.1, s.2.2.2), rfl, rtk_i (j := 40) (by decide) (rtk_i (j := 38) (by decide) (rtk_rf s)), rfl, rfl, rfl, ?_⟩
                have hA := byO_A (bf := bf) (ln := ln) (i := a + 1 + k)
                refine Or.inr ⟨fun z => ?_, rfl, h35⟩
                rcases htx with ⟨_, e⟩ | ⟨_, e, e2⟩
                · rw [e] at z; omega
                · rw [e] at z; exact e2 z.2
              · refine me1 (pc' := 71) (L' := [(1, ii ((k : Nat) : Int)), (0, .ref 102)]) (S' := [.ref 102, .ref 102]) dm_X12_quote_70 rfl rfl rfl rfl ?_
                refine me1 (pc' := 72) (L' := [(1, ii ((k : Nat) : Int)), (0, .ref 102)]) (S' := [.ref 102, .ref 102, .ref 102]) dm_X12_quote_71 rfl rfl rfl rfl ?_
                refine me3 (pc' := 75) (S' := [ii (s.1 35), .ref 102, .ref 102]) dm_X12_quote_72 (q_geti (v := s.1 35) hm rfl (fun m i l => rg_35 m i l) rfl) rfl rfl rfl ?_
                refine me0 (pc' := 76) (S' := [ii 1, ii (s.1 35), .ref 102, .ref 102]) dm_X12_quote_75 rfl rfl rfl rfl ?_
                refine y_iadd (a := s.1 35) (b := 1) dm_X12_quote_76 (pc' := 77) rfl ?_
                refine me1 (pc' := 78) (L' := [(1, ii ((k : Nat) : Int)), (0, .ref 102)]) (S' := [ii ((k : Nat) : Int), ii ((s.1 35) + 1), .ref 102, .ref 102]) dm_X12_quote_77 rfl rfl rfl rfl ?_
                refine y_iadd (a := (s.1 35) + 1) (b := ((k : Nat) : Int)) dm_X12_quote_78 (pc' := 79) rfl ?_
                have hy4P : tpR s bf ln := tpR_k hP (rtk_rf s)
                have hy4r := byR_r s (((s.1 35) + 1) + ((k : Nat) : Int))
                have hy4 : byR s (((s.1 35) + 1) + ((k : Nat) : Int)) = byO bf ln (a + 1 + k) := by rw [show (((s.1 35) + 1) + ((k : Nat) : Int) : Int) = ((a + 1 + k : Nat) : Int) by first | rfl | omega]; exact tpR_by hy4P
                refine x_cp (pc' := 82) (v := ii (byR s (((s.1 35) + 1) + ((k : Nat) : Int)))) (rest := [.ref 102]) dm_X12_quote_79 rfl (q_inv (As := [ii (((s.1 35) + 1) + ((k : Nat) : Int))]) (S := [.ref 102]) hm rfl rfl rfl) rfl rfl rfl (r_byteAt_ (s := s) (i := ((s.1 35) + 1) + ((k : Nat) : Int)) hm (by omega) (by omega) (by have := hy4P.1; have := hy4P.2.1; omega) hy4P.2.2.1) ?_
                refine me0 (pc' := 84) (S' := [ii 39, ii (byR s (((s.1 35) + 1) + ((k : Nat) : Int))), .ref 102]) dm_X12_quote_82 rfl rfl rfl rfl ?_
                refine y_2eq (a := byR s (((s.1 35) + 1) + ((k : Nat) : Int))) (b := 39) (t := 92) (pc' := 87) dm_X12_quote_84 rfl rfl (by omega) (fun hb12 => ?_) (fun hb12 => ?_)
                · rw [hy4] at hb12
                  refine me0 (pc' := 93) (S' := [ii 2, .ref 102]) dm_X12_quote_92 rfl rfl rfl rfl ?_
                  refine me3 (pc' := 96) (S' := []) (h1 := rI pre post (va_up s.1 38 2) s.2.1 s.2.2.1 s.2.2.2) dm_X12_quote_93 (q_puti hm rfl rfl (fun m i l v => rf_38 m i l v)) rfl rfl rfl ?_
                  refine me1 (pc' := 97) (L' := [(1, ii ((k : Nat) : Int)), (0, .ref 102)]) (S' := [.ref 102]) dm_X12_quote_96 rfl rfl rfl rfl ?_
                  refine me1 (pc' := 98) (L' := [(1, ii ((k : Nat) : Int)), (0, .ref 102)]) (S' := [ii ((k : Nat) : Int), .ref 102]) dm_X12_quote_97 rfl rfl rfl rfl ?_
                  refine me3 (pc' := 101) (S' := []) (h1 := rI pre post (va_up (va_up s.1 38 2) 40 ((k : Nat) : Int)) s.2.1 s.2.2.1 s.2.2.2) dm_X12_quote_98 (q_puti hm rfl rfl (fun m i l v => rf_40 m i l v)) rfl rfl rfl ?_
                  refine me1 (pc' := 102) (L' := [(1, ii ((k : Nat) : Int)), (0, .ref 102)]) (S' := [.ref 102]) dm_X12_quote_101 rfl rfl rfl rfl ?_
                  refine me3 (pc' := 105) (S' := [ii 2]) dm_X12_quote_102 (q_geti (v := 2) hm rfl (fun m i l => rg_38 m i l) rfl) rfl rfl rfl ?_
                  refine me0 (pc' := 106) (S' := [ii 2, ii 2]) dm_X12_quote_105 rfl rfl rfl rfl ?_
                  refine me_2f (pc' := 109) dm_X12_quote_106 rfl (by decide) rfl ?_
                  refine me1 (pc' := 110) (L' := [(1, ii ((k : Nat) : Int)), (0, .ref 102)]) (S' := [.ref 102]) dm_X12_quote_109 rfl rfl rfl rfl ?_
                  refine me0 (pc' := 111) (S' := [.ref 102, .ref 102]) dm_X12_quote_110 rfl rfl rfl rfl ?_
                  refine me3 (pc' := 114) (S' := [ii (s.1 35), .ref 102]) dm_X12_quote_111 (q_geti (v := s.1 35) hm rfl (fun m i l => rg_35 m i l) rfl) rfl rfl rfl ?_
                  refine me1 (pc' := 115) (L' := [(1, ii ((k : Nat) : Int)), (0, .ref 102)]) (S' := [ii ((k : Nat) : Int), ii (s.1 35), .ref 102]) dm_X12_quote_114 rfl rfl rfl rfl ?_
                  refine me0 (pc' := 116) (S' := [ii 2, ii ((k : Nat) : Int), ii (s.1 35), .ref 102]) dm_X12_quote_115 rfl rfl rfl rfl ?_
                  refine y_iadd (a := ((k : Nat) : Int)) (b := 2) dm_X12_quote_116 (pc' := 117) rfl ?_
                  refine y_iadd (a := s.1 35) (b := ((k : Nat) : Int) + 2) dm_X12_quote_117 (pc' := 118) rfl ?_
                  refine me3 (pc' := 121) (S' := []) (h1 := rI pre post (va_up (va_up (va_up s.1 38 2) 40 ((k : Nat) : Int)) 35 ((s.1 35) + (((k : Nat) : Int) + 2))) s.2.1 s.2.2.1 s.2.2.2) dm_X12_quote_118 (q_puti hm rfl rfl (fun m i l v => rf_35 m i l v)) rfl rfl rfl ?_
                  refine y_ret (r := none) dm_X12_quote_121 rfl rfl rfl ?_
                  refine ⟨rfl, (va_up (va_up (va_up s.1 38 2) 40 ((k : Nat) : Int)) 35 ((s.1 35) + (((k : Nat) : Int) + 2)), s.2.1, s.2.2.1, s.2.2.2), rfl, rtk_i (j := 35) (by decide) (rtk_i (j := 40) (by decide) (rtk_i (j := 38) (by decide) (rtk_rf s))), rfl, rfl, rfl, ?_⟩
                  have hA := byO_A (bf := bf) (ln := ln) (i := a + 1 + k)
                  rcases htx with ⟨_, e⟩ | ⟨e, _⟩
                  · rw [e]; exact Or.inl ⟨⟨by omega, by omega⟩, rfl, rfl, (show s.1 35 + _ = _ by omega)⟩
                  · exfalso; omega
                · rw [hy4] at hb12
                  refine me0 (pc' := 89) (S' := [ii 8, .ref 102]) dm_X12_quote_87 rfl rfl rfl rfl ?_
                  refine me2 (pc' := 93) (S' := [ii 8, .ref 102]) dm_X12_quote_89 rfl rfl rfl ?_
                  refine me3 (pc' := 96) (S' := []) (h1 := rI pre post (va_up s.1 38 8) s.2.1 s.2.2.1 s.2.2.2) dm_X12_quote_93 (q_puti hm rfl rfl (fun m i l v => rf_38 m i l v)) rfl rfl rfl ?_
                  refine me1 (pc' := 97) (L' := [(1, ii ((k : Nat) : Int)), (0, .ref 102)]) (S' := [.ref 102]) dm_X12_quote_96 rfl rfl rfl rfl ?_
                  refine me1 (pc' := 98) (L' := [(1, ii ((k : Nat) : Int)), (0, .ref 102)]) (S' := [ii ((k : Nat) : Int), .ref 102]) dm_X12_quote_97 rfl rfl rfl rfl ?_
                  refine me3 (pc' := 101) (S' := []) (h1 := rI pre post (va_up (va_up s.1 38 8) 40 ((k : Nat) : Int)) s.2.1 s.2.2.1 s.2.2.2) dm_X12_quote_98 (q_puti hm rfl rfl (fun m i l v => rf_40 m i l v)) rfl rfl rfl ?_
                  refine me1 (pc' := 102) (L' := [(1, ii ((k : Nat) : Int)), (0, .ref 102)]) (S' := [.ref 102]) dm_X12_quote_101 rfl rfl rfl rfl ?_
                  refine me3 (pc' := 105) (S' := [ii 8]) dm_X12_quote_102 (q_geti (v := 8) hm rfl (fun m i l => rg_38 m i l) rfl) rfl rfl rfl ?_
                  refine me0 (pc' := 106) (S' := [ii 2, ii 8]) dm_X12_quote_105 rfl rfl rfl rfl ?_
                  refine me_2t (pc' := 121) dm_X12_quote_106 rfl (by decide) ?_
                  refine y_ret (r := none) dm_X12_quote_121 rfl rfl rfl ?_
                  refine ⟨rfl, (va_up (va_up s.1 38 8) 40 ((k : Nat) : Int), s.2.1, s.2.2.1, s.2.2.2), rfl, rtk_i (j := 40) (by decide) (rtk_i (j := 38) (by decide) (rtk_rf s)), rfl, rfl, rfl, ?_⟩
                  have hA := byO_A (bf := bf) (ln := ln) (i := a + 1 + k)
                  refine Or.inr ⟨fun z => ?_, rfl, h35⟩
                  rcases htx with ⟨_, e⟩ | ⟨_, e, e2⟩
                  · rw [e] at z; omega
                  · rw [e] at z; exact e2 z.2
          · rw [hy3] at hb9
            have hin : a + 1 + k < ln := Classical.byContradiction fun z => by have z2 := byO_out (bf := bf) (Nat.le_of_not_lt z); omega
            have hbi := byO_in (bf := bf) hin
            have hrun1 : ∀ j, a + 1 ≤ j → j < a + 1 + (k + 1) → j < ln ∧ txB (bf j) = true := fun j h1 h2 => by by_cases z : j = a + 1 + k; (rw [z]; exact ⟨hin, decide_eq_true (by rw [← hbi]; exact ⟨by omega, by omega, by omega⟩)⟩); exact hrun j h1 (by omega)
            refine y_iinc (pc' := 56) (L' := [(1, ii (((k : Nat) : Int) + 1)), (0, .ref 102)]) dm_X12_quote_53 (y_incp (a := ((k : Nat) : Int)) (c := 1) rfl rfl (by decide)) rfl ?_
            refine me2 (pc' := 2) (S' := []) dm_X12_quote_56 rfl rfl rfl ?_
            exact pg_sub (L := [(1, ii (((k + 1) : Nat) : Int)), (0, .ref 102)]) rfl rfl rfl (ih2 (ln + 1 - (k + 1)) (by omega) (k + 1) rfl (by omega) hrun1)
  exact pg_sub (L := [(1, ii ((0 : Nat) : Int)), (0, .ref 102)]) rfl rfl rfl (lp2 _ 0 rfl (Nat.zero_le _) (fun j h1 h2 => absurd h2 (by omega)))
