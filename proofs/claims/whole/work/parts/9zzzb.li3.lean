/-! the reference: a line as a whole -/
/-- a function's body, its nodes below C -/
def RBC (s : RS) (T : Nat → Tok) (n : Nat) (C : Int) : Prop := ∃ mk ln j B, TOKS T mk ln ∧ 3 ≤ mk ∧ TKO T ∧ pR T fuR 0 1 3 = .inr j ∧ ((B : Nat) : Int) ≤ C ∧ n < B ∧ rR s T fuR 0 1 3 B n (-1)
/-- what the names stand for, between lines -/
def RNC (Nv : Int → Option VV) (Fn : Int → Option (Nat → Tok)) (s : RS) (n m : Nat) : Prop := s.1 23 = (n : Int) ∧ s.1 24 = (m : Int) ∧ n ≤ 40 ∧ m ≤ 40 ∧ (∀ c r : Int, nmR c r → (¬ fndK (s.2.2.2 19) n (Int64.ofInt r) < n ∧ Nv c = none) ∨ (fndK (s.2.2.2 19) n (Int64.ofInt r) < n ∧ ∃ (q : Nat) (v : VV), s.2.2.1 21 (fndK (s.2.2.2 19) n (Int64.ofInt r)) = (q : Int) ∧ Nv c = some v ∧ gr s q v)) ∧ (∀ c r : Int, nmR c r → (¬ fndK (s.2.2.2 20) m (Int64.ofInt r) < m ∧ Fn c = none) ∨ (fndK (s.2.2.2 20) m (Int64.ofInt r) < m ∧ ∃ (nd : Nat) (T : Nat → Tok), s.2.2.1 22 (fndK (s.2.2.2 20) m (Int64.ofInt r)) = (nd : Int) ∧ Fn c = some T ∧ RBC s T nd (s.1 50)))
/-- what a line leaves as it was, but for the names and the result -/
def LF (s t : RS) : Prop := rext s t ∧ t.1 18 = s.1 18 ∧ (∀ k, k = 16 ∨ (25 ≤ k ∧ k ≤ 29) ∨ k = 32 → t.2.2.1 k = s.2.2.1 k) ∧ t.2.2.2 25 = s.2.2.2 25 ∧ (∀ k x : Nat, 43 ≤ k → k ≤ 48 → (x : Int) < s.1 50 → t.2.2.1 k x = s.2.2.1 k x) ∧ (∀ x : Nat, (x : Int) < s.1 50 → t.2.2.2 49 x = s.2.2.2 49 x) ∧ t.1 33 = 0 ∧ t.1 31 = t.1 30
/-- nor these -/
def NF (s t : RS) : Prop := t.1 23 = s.1 23 ∧ t.1 24 = s.1 24 ∧ t.2.2.1 21 = s.2.2.1 21 ∧ t.2.2.1 22 = s.2.2.1 22 ∧ t.2.2.2 19 = s.2.2.2 19 ∧ t.2.2.2 20 = s.2.2.2 20
/-- a line that ends in an error -/
def LNE (s t : RS) (W W' : Nat) (e : Nat) (pl : Int) : Prop := LF s t ∧ NF s t ∧ t.1 30 = s.1 30 ∧ t.1 5 = (e : Int) ∧ t.1 6 = pl ∧ t.1 7 + (W' : Int) = (W : Int) ∧ t.1 8 = (W' : Int) ∧ t.1 3 = s.1 3 ∧ t.1 4 = s.1 4 ∧ t.1 50 = s.1 50
/-- the names as they were, or with one told more -/
def NFm (s t : RS) (T : Nat → Tok) (n m q : Nat) : Prop := if liS T = 0 then NF s t else (t.1 23 = ((max n (fndK (s.2.2.2 19) n (Int64.ofInt (tqR (T 0))) + 1) : Nat) : Int) ∧ t.1 24 = ((delN m (fndK (s.2.2.2 20) m (Int64.ofInt (tqR (T 0)))) : Nat) : Int) ∧ t.2.2.1 21 = va_up (s.2.2.1 21) (fndK (s.2.2.2 19) n (Int64.ofInt (tqR (T 0)))) (q : Int) ∧ t.2.2.1 22 = delF (s.2.2.1 22) m (fndK (s.2.2.2 20) m (Int64.ofInt (tqR (T 0)))) ∧ t.2.2.2 19 = va_up (s.2.2.2 19) (fndK (s.2.2.2 19) n (Int64.ofInt (tqR (T 0)))) (Int64.ofInt (tqR (T 0))) ∧ t.2.2.2 20 = delF (s.2.2.2 20) m (fndK (s.2.2.2 20) m (Int64.ofInt (tqR (T 0)))))
/-- a line that comes to a value -/
def LNV (s t : RS) (T : Nat → Tok) (n m ln W W' : Nat) (v : VV) : Prop := LF s t ∧ t.1 5 = 0 ∧ t.1 6 = -1 ∧ t.1 7 + (W' : Int) = (W : Int) ∧ t.1 8 = (W' : Int) ∧ t.1 3 + (W' : Int) ≤ s.1 3 + (ln : Int) + (W : Int) ∧ 10 * t.1 4 + 6 * (W' : Int) ≤ 10 * s.1 4 + 5 * (ln : Int) + 5 + 6 * (W : Int) ∧ t.1 50 = s.1 50 ∧ ∃ q : Nat, t.1 30 = (q : Int) ∧ gr t q v ∧ NFm s t T n m q
/-- a line that tells a function -/
def LNT (s t : RS) (T : Nat → Tok) (n m ln W : Nat) : Prop := LF s t ∧ t.1 30 = s.1 30 ∧ t.1 5 = 0 ∧ t.1 6 = -1 ∧ t.1 7 = 0 ∧ t.1 8 = (W : Int) ∧ t.1 3 ≤ s.1 3 + (ln : Int) ∧ 2 * t.1 4 ≤ 2 * s.1 4 + (ln : Int) + 1 ∧ (s.1 50 ≤ t.1 50 ∧ t.1 50 ≤ s.1 50 + 2 * (ln : Int)) ∧ ∃ rt : Nat, RBC t T rt (t.1 50) ∧ t.1 24 = ((max m (fndK (s.2.2.2 20) m (Int64.ofInt (tqR (T 0))) + 1) : Nat) : Int) ∧ t.1 23 = ((delN n (fndK (s.2.2.2 19) n (Int64.ofInt (tqR (T 0)))) : Nat) : Int) ∧ t.2.2.1 22 = va_up (s.2.2.1 22) (fndK (s.2.2.2 20) m (Int64.ofInt (tqR (T 0)))) (rt : Int) ∧ t.2.2.1 21 = delF (s.2.2.1 21) n (fndK (s.2.2.2 19) n (Int64.ofInt (tqR (T 0)))) ∧ t.2.2.2 20 = va_up (s.2.2.2 20) (fndK (s.2.2.2 20) m (Int64.ofInt (tqR (T 0)))) (Int64.ofInt (tqR (T 0))) ∧ t.2.2.2 19 = delF (s.2.2.2 19) n (fndK (s.2.2.2 19) n (Int64.ofInt (tqR (T 0))))
/-- a line's doing, where it tells no function -/
def lnD (Nv : Int → Option VV) (Fn : Int → Option (Nat → Tok)) (T : Nat → Tok) (a W : Nat) : DR := if liS T = 3 then dAL Nv Fn T a W else eE (eC Nv Fn 10) T Nv none none none fuR 0 0 a zB W
/-- is one name more than may be known -/
def lnF (s : RS) (T : Nat → Tok) (n m : Nat) : Prop := (liS T = 1 ∨ liS T = 2) ∧ ¬ (0 ≤ fndR (s.2.2.2 19) n (Int64.ofInt (tqR (T 0))) ∨ 0 ≤ fndR (s.2.2.2 20) m (Int64.ofInt (tqR (T 0)))) ∧ n + m = 40
/-- what a line leaves -/
def lnP (Nv : Int → Option VV) (Fn : Int → Option (Nat → Tok)) (s : RS) (T : Nat → Tok) (n m ln W : Nat) (t : RS) (z : Int) : Prop := match liR T with
  | .inl p => z = -1 ∧ LNE s t W W 1 (p : Int)
  | .inr a => (lnF s T n m ∧ z = -8 ∧ LNE s t W W 8 (tqP (T 0) : Int)) ∨ (¬ lnF s T n m ∧ liS T = 2 ∧ z = 0 ∧ LNT s t T n m ln W) ∨ (¬ lnF s T n m ∧ liS T ≠ 2 ∧ match lnD Nv Fn T a W with
    | (W', .inl (e, pl)) => z = -(e : Int) ∧ LNE s t W W' e pl
    | (W', .inr v) => z = 0 ∧ LNV s t T n m ln W W' v)
section li0s
variable {s u t : RS}
theorem li0_k {k : Nat} (h : k ≠ 33 ∧ k ≠ 5 ∧ k ≠ 6 ∧ k ≠ 7 ∧ k ≠ 10 ∧ k ≠ 13) : (li0 s).1 k = s.1 k := by
  show va_up (va_up (va_up (va_up (va_up (va_up s.1 33 0) 5 0) 6 (-1)) 7 0) 10 0) 13 0 k = _
  rw [up_ne _ _ (by omega), up_ne _ _ (by omega), up_ne _ _ (by omega), up_ne _ _ (by omega), up_ne _ _ (by omega), up_ne _ _ (by omega)]
theorem li0_v : (li0 s).1 33 = 0 ∧ (li0 s).1 5 = 0 ∧ (li0 s).1 6 = -1 ∧ (li0 s).1 7 = 0 ∧ (li0 s).1 10 = 0 ∧ (li0 s).1 13 = 0 := by
  refine ⟨?_, ?_, ?_, ?_, ?_, ?_⟩ <;> simp [li0, va_up]
theorem E1_k {k : Nat} (h : k ≠ 3 ∧ k ≠ 4 ∧ k ≠ 50 ∧ k ≠ 31) : (liE1 s u).1 k = u.1 k := by
  show va_up (va_up (va_up (va_up u.1 3 (s.1 3)) 4 (s.1 4)) 50 (s.1 50)) 31 (u.1 30) k = _
  rw [up_ne _ _ (by omega), up_ne _ _ (by omega), up_ne _ _ (by omega), up_ne _ _ (by omega)]
theorem E1_v : (liE1 s u).1 3 = s.1 3 ∧ (liE1 s u).1 4 = s.1 4 ∧ (liE1 s u).1 50 = s.1 50 ∧ (liE1 s u).1 31 = u.1 30 := by
  refine ⟨?_, ?_, ?_, ?_⟩ <;> simp [liE1, va_up]
theorem E2_k {k : Nat} (h : k ≠ 50 ∧ k ≠ 31) : (liE2 s u).1 k = u.1 k := by
  show va_up (va_up u.1 50 (s.1 50)) 31 (u.1 30) k = _
  rw [up_ne _ _ (by omega), up_ne _ _ (by omega)]
theorem E2_v : (liE2 s u).1 50 = s.1 50 ∧ (liE2 s u).1 31 = u.1 30 := by
  refine ⟨?_, ?_⟩ <;> simp [liE2, va_up]
theorem E3_k {k : Nat} (h : k ≠ 31) : (liE3 u).1 k = u.1 k := by
  show va_up u.1 31 (u.1 30) k = _
  rw [up_ne _ _ h]
theorem E3_v : (liE3 u).1 31 = u.1 30 := by
  show va_up u.1 31 (u.1 30) 31 = _
  rw [up_eq]
/-- what reading and doing leave, ahead of the line's end -/
def LM (s u : RS) : Prop := rext s u ∧ u.1 18 = s.1 18 ∧ (∀ k, k = 16 ∨ (25 ≤ k ∧ k ≤ 29) ∨ k = 32 → u.2.2.1 k = s.2.2.1 k) ∧ u.2.2.2 25 = s.2.2.2 25 ∧ (∀ k x : Nat, 43 ≤ k → k ≤ 48 → (x : Int) < s.1 50 → u.2.2.1 k x = s.2.2.1 k x) ∧ (∀ x : Nat, (x : Int) < s.1 50 → u.2.2.2 49 x = s.2.2.2 49 x) ∧ u.1 33 = 0
theorem LM_rl (h : rlF (li0 s) u) : LM s u ∧ NF s u ∧ u.1 30 = s.1 30 ∧ s.1 50 ≤ u.1 50 := by
  obtain ⟨a1, a2, a3, a4, a5, a6, a7, a8⟩ := h
  have k3 := li0_k (s := s) (k := 3) (by omega)
  have k4 := li0_k (s := s) (k := 4) (by omega)
  have k50 := li0_k (s := s) (k := 50) (by omega)
  have hx : rext s u := by
    obtain ⟨x1, x2, x3, x4⟩ := a1
    exact ⟨by omega, by omega, fun hd h1 h2 => x3 hd h1 (by omega), fun k hk => x4 k (by omega)⟩
  have g : ∀ k, ¬ (k = 3 ∨ k = 4 ∨ (34 ≤ k ∧ k ≤ 40) ∨ (50 ≤ k ∧ k ≤ 57)) → (k ≠ 33 ∧ k ≠ 5 ∧ k ≠ 6 ∧ k ≠ 7 ∧ k ≠ 10 ∧ k ≠ 13) → u.1 k = s.1 k := fun k h1 h2 => (a3 k h1).trans (li0_k h2)
  refine ⟨⟨hx, g 18 (by omega) (by omega), fun k hk => a5 k (by omega), a6 25 (by decide) (by decide), fun k x h1 h2 h3 => a7 k x h1 h2 (by omega), fun x h => a8 x (by omega), (a3 33 (by omega)).trans li0_v.1⟩, ⟨g 23 (by omega) (by omega), g 24 (by omega) (by omega), a5 21 (by omega), a5 22 (by omega), a6 19 (by decide) (by decide), a6 20 (by decide) (by decide)⟩, g 30 (by omega) (by omega), by omega⟩
theorem LM_d (h : LM s u) (hx : rext u t) (hf : dfr u t) : LM s t := by
  obtain ⟨a1, a2, a3, a4, a5, a6, a7⟩ := h
  refine ⟨rext_tr a1 hx, (dfr_i hf (by omega)).trans a2, fun k hk => ?_, (hf.2.2.2.2.1 25 (by decide)).trans a4, fun k x h1 h2 h3 => ?_, fun x h => ?_, (dfr_i hf (by omega)).trans a7⟩
  · rw [dfr_a hf (by omega)]; exact a3 k hk
  · rw [dfr_a hf (by omega)]; exact a5 k x h1 h2 h3
  · rw [hf.2.2.2.2.1 49 (by decide)]; exact a6 x h
theorem NF_d (h : NF s u) (hf : dfr u t) : NF s t := by
  obtain ⟨a1, a2, a3, a4, a5, a6⟩ := h
  exact ⟨(dfr_i hf (by omega)).trans a1, (dfr_i hf (by omega)).trans a2, (dfr_a hf (by decide)).trans a3, (dfr_a hf (by decide)).trans a4, (hf.2.2.2.2.1 19 (by decide)).trans a5, (hf.2.2.2.2.1 20 (by decide)).trans a6⟩
/-- the end after an error -/
theorem LNE_i {W W' e : Nat} {pl : Int} (h : LM s u) (hn : NF s u) (h30 : u.1 30 = s.1 30) (h5 : u.1 5 = (e : Int)) (h6 : u.1 6 = pl) (h7 : u.1 7 + (W' : Int) = (W : Int)) (h8 : u.1 8 = (W' : Int)) : LNE s (liE1 s u) W W' e pl := by
  obtain ⟨a1, a2, a3, a4, a5, a6, a7⟩ := h
  obtain ⟨n1, n2, n3, n4, n5, n6⟩ := hn
  obtain ⟨v3, v4, v50, v31⟩ := E1_v (s := s) (u := u)
  have g : ∀ k, k ≠ 3 ∧ k ≠ 4 ∧ k ≠ 50 ∧ k ≠ 31 → (liE1 s u).1 k = u.1 k := fun k h => E1_k h
  have g5 := g 5 (by omega)
  have g6 := g 6 (by omega)
  have g7 := g 7 (by omega)
  have g8 := g 8 (by omega)
  have g30 := g 30 (by omega)
  have g33 := g 33 (by omega)
  refine ⟨⟨⟨by omega, by omega, fun hd x1 x2 => a1.2.2.1 hd x1 x2, fun k hk => a1.2.2.2 k hk⟩, (g 18 (by omega)).trans a2, a3, a4, a5, a6, by omega, by omega⟩, ⟨(g 23 (by omega)).trans n1, (g 24 (by omega)).trans n2, n3, n4, n5, n6⟩, by omega, by omega, by omega, by omega, by omega, v3, v4, v50⟩
end li0s
