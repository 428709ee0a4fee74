/-! the spec of reading: where an expression, a noun .. that begins at a token ends, or which place is wrong -/
abbrev isMk (T : Nat → Tok) (i : Nat) (c : Int) : Prop := tqS (T i) = 7 ∧ tqD (T i) = c
abbrev isDs (T : Nat → Tok) (i : Nat) : Prop := tqS (T i) = 5 ∨ tqS (T i) = 4
abbrev isIx (T : Nat → Tok) (j : Nat) : Prop := tqS (T j) = 5 ∧ tqD (T j) = 64 ∧ isMk T (j + 1) 40
/-- how many tokens from i on are of a sort, at most n -/
def soN (T : Nat → Tok) (s : Nat) : Nat → Nat → Nat
  | 0, _ => 0
  | n + 1, i => if tqS (T i) = s then soN T s n (i + 1) + 1 else 0
/-- the token behind a VERB or function and its ADVERBS -/
abbrev dsE (T : Nat → Tok) (i : Nat) : Nat := i + 1 + soN T 6 4 (i + 1)
/-- modes: 0 an expression, 1 a noun, 2 what may stand behind a noun, 3 a noun's base, 4 the parts of a list -/
def pR (T : Nat → Tok) : Nat → Nat → Nat → Nat → Nat ⊕ Nat
  | 0, _, _, i => .inl (tqP (T i))
  | f + 1, 0, o, i =>
    if isDs T i then pR T f 0 o (dsE T i) else
    match pR T f 1 o i with
    | .inl p => .inl p
    | .inr j => if isDs T j then pR T f 0 o (dsE T j) else .inr j
  | f + 1, 1, o, i =>
    match pR T f 3 o i with
    | .inl p => .inl p
    | .inr j => pR T f 2 o j
  | f + 1, 2, o, j =>
    if isIx T j then
      if 12 ≤ o then .inl (tqP (T (j + 1))) else
      match pR T f 0 (o + 1) (j + 2) with
      | .inl p => .inl p
      | .inr k => if isMk T k 41 then pR T f 2 o (k + 1) else .inl (tqP (T k))
    else .inr j
  | f + 1, 3, o, i =>
    if tqS (T i) = 1 then .inr (i + soN T 1 201 i) else
    if tqS (T i) = 2 ∨ tqS (T i) = 3 then .inr (i + 1) else
    if isMk T i 40 ∧ o < 12 then (if isMk T (i + 1) 41 then .inr (i + 2) else pR T f 4 (o + 1) (i + 1)) else
    if isMk T i 91 ∧ o < 12 then
      match pR T f 0 (o + 1) (i + 1) with
      | .inl p => .inl p
      | .inr j => if isMk T j 59 then
          match pR T f 0 (o + 1) (j + 1) with
          | .inl p => .inl p
          | .inr k => if isMk T k 59 then
              match pR T f 0 (o + 1) (k + 1) with
              | .inl p => .inl p
              | .inr l => if isMk T l 93 then .inr (l + 1) else .inl (tqP (T l))
            else .inl (tqP (T k))
        else .inl (tqP (T j))
    else .inl (tqP (T i))
  | f + 1, _ + 4, o, i =>
    match pR T f 0 o i with
    | .inl p => .inl p
    | .inr j => if isMk T j 59 then pR T f 4 o (j + 1) else if isMk T j 41 then .inr (j + 1) else .inl (tqP (T j))
section pRs
variable {T : Nat → Tok} {f o i : Nat}
theorem pR0_d (h : isDs T i) : pR T (f + 1) 0 o i = pR T f 0 o (dsE T i) := if_pos h
theorem pR0_e {p : Nat} (h : ¬ isDs T i) (h1 : pR T f 1 o i = .inl p) : pR T (f + 1) 0 o i = .inl p := by
  show (if isDs T i then pR T f 0 o (dsE T i) else match pR T f 1 o i with | .inl p => .inl p | .inr j => if isDs T j then pR T f 0 o (dsE T j) else .inr j) = _
  rw [if_neg h, h1]
theorem pR0_a {j : Nat} (h : ¬ isDs T i) (h1 : pR T f 1 o i = .inr j) (h2 : isDs T j) : pR T (f + 1) 0 o i = pR T f 0 o (dsE T j) := by
  show (if isDs T i then pR T f 0 o (dsE T i) else match pR T f 1 o i with | .inl p => .inl p | .inr j => if isDs T j then pR T f 0 o (dsE T j) else .inr j) = _
  rw [if_neg h, h1]
  exact if_pos h2
theorem pR0_n {j : Nat} (h : ¬ isDs T i) (h1 : pR T f 1 o i = .inr j) (h2 : ¬ isDs T j) : pR T (f + 1) 0 o i = .inr j := by
  show (if isDs T i then pR T f 0 o (dsE T i) else match pR T f 1 o i with | .inl p => .inl p | .inr j => if isDs T j then pR T f 0 o (dsE T j) else .inr j) = _
  rw [if_neg h, h1]
  exact if_neg h2
theorem pR1_e {p : Nat} (h1 : pR T f 3 o i = .inl p) : pR T (f + 1) 1 o i = .inl p := by
  show (match pR T f 3 o i with | .inl p => (.inl p : Nat ⊕ Nat) | .inr j => pR T f 2 o j) = _
  rw [h1]
theorem pR1_n {j : Nat} (h1 : pR T f 3 o i = .inr j) : pR T (f + 1) 1 o i = pR T f 2 o j := by
  show (match pR T f 3 o i with | .inl p => (.inl p : Nat ⊕ Nat) | .inr j => pR T f 2 o j) = _
  rw [h1]
theorem pR2_n (h : ¬ isIx T i) : pR T (f + 1) 2 o i = .inr i := if_neg h
theorem pR2_o (h : isIx T i) (ho : 12 ≤ o) : pR T (f + 1) 2 o i = .inl (tqP (T (i + 1))) := by
  show (if isIx T i then _ else _) = _
  rw [if_pos h, if_pos ho]
theorem pR2_m (h : isIx T i) (ho : o < 12) : pR T (f + 1) 2 o i = match pR T f 0 (o + 1) (i + 2) with
      | .inl p => .inl p
      | .inr k => if isMk T k 41 then pR T f 2 o (k + 1) else .inl (tqP (T k)) := by
  show (if isIx T i then _ else _) = _
  rw [if_pos h, if_neg (by omega)]
theorem pR2_e {p : Nat} (h : isIx T i) (ho : o < 12) (h1 : pR T f 0 (o + 1) (i + 2) = .inl p) : pR T (f + 1) 2 o i = .inl p := by rw [pR2_m h ho, h1]
theorem pR2_x {k : Nat} (h : isIx T i) (ho : o < 12) (h1 : pR T f 0 (o + 1) (i + 2) = .inr k) (h2 : ¬ isMk T k 41) : pR T (f + 1) 2 o i = .inl (tqP (T k)) := by
  rw [pR2_m h ho, h1]
  exact if_neg h2
theorem pR2_g {k : Nat} (h : isIx T i) (ho : o < 12) (h1 : pR T f 0 (o + 1) (i + 2) = .inr k) (h2 : isMk T k 41) : pR T (f + 1) 2 o i = pR T f 2 o (k + 1) := by
  rw [pR2_m h ho, h1]
  exact if_pos h2
theorem pR3_1 (h : tqS (T i) = 1) : pR T (f + 1) 3 o i = .inr (i + soN T 1 201 i) := if_pos h
theorem pR3_2 (h : tqS (T i) = 2 ∨ tqS (T i) = 3) : pR T (f + 1) 3 o i = .inr (i + 1) := by
  show (if tqS (T i) = 1 then _ else _) = _
  rw [if_neg (by omega), if_pos h]
theorem pR3_0 (h : isMk T i 40) (ho : o < 12) (h2 : isMk T (i + 1) 41) : pR T (f + 1) 3 o i = .inr (i + 2) := by
  show (if tqS (T i) = 1 then _ else _) = _
  rw [if_neg (by omega), if_neg (by omega), if_pos ⟨h, ho⟩, if_pos h2]
theorem pR3_l (h : isMk T i 40) (ho : o < 12) (h2 : ¬ isMk T (i + 1) 41) : pR T (f + 1) 3 o i = pR T f 4 (o + 1) (i + 1) := by
  show (if tqS (T i) = 1 then _ else _) = _
  rw [if_neg (by omega), if_neg (by omega), if_pos ⟨h, ho⟩, if_neg h2]
theorem pR3_x (h : ¬ (tqS (T i) = 1 ∨ tqS (T i) = 2 ∨ tqS (T i) = 3)) (h1 : ¬ (isMk T i 40 ∧ o < 12)) (h2 : ¬ (isMk T i 91 ∧ o < 12)) : pR T (f + 1) 3 o i = .inl (tqP (T i)) := by
  show (if tqS (T i) = 1 then _ else _) = _
  rw [if_neg (by omega), if_neg (by omega), if_neg h1, if_neg h2]
theorem pR3_m (h : isMk T i 91) (ho : o < 12) : pR T (f + 1) 3 o i = match pR T f 0 (o + 1) (i + 1) with
      | .inl p => .inl p
      | .inr j => if isMk T j 59 then
          match pR T f 0 (o + 1) (j + 1) with
          | .inl p => .inl p
          | .inr k => if isMk T k 59 then
              match pR T f 0 (o + 1) (k + 1) with
              | .inl p => .inl p
              | .inr l => if isMk T l 93 then .inr (l + 1) else .inl (tqP (T l))
            else .inl (tqP (T k))
        else .inl (tqP (T j)) := by
  have e : ¬ (isMk T i 40 ∧ o < 12) := fun z => by have := z.1.2; have := h.2; omega
  show (if tqS (T i) = 1 then _ else _) = _
  rw [if_neg (by omega), if_neg (by omega), if_neg e, if_pos ⟨h, ho⟩]
theorem pR3_c1 {p : Nat} (h : isMk T i 91) (ho : o < 12) (h1 : pR T f 0 (o + 1) (i + 1) = .inl p) : pR T (f + 1) 3 o i = .inl p := by rw [pR3_m h ho, h1]
theorem pR3_c2 {j : Nat} (h : isMk T i 91) (ho : o < 12) (h1 : pR T f 0 (o + 1) (i + 1) = .inr j) (h2 : ¬ isMk T j 59) : pR T (f + 1) 3 o i = .inl (tqP (T j)) := by
  rw [pR3_m h ho, h1]
  exact if_neg h2
theorem pR3_c3 {j p : Nat} (h : isMk T i 91) (ho : o < 12) (h1 : pR T f 0 (o + 1) (i + 1) = .inr j) (h2 : isMk T j 59) (h3 : pR T f 0 (o + 1) (j + 1) = .inl p) : pR T (f + 1) 3 o i = .inl p := by
  rw [pR3_m h ho, h1]
  refine (if_pos h2).trans ?_
  rw [h3]
theorem pR3_c4 {j k : Nat} (h : isMk T i 91) (ho : o < 12) (h1 : pR T f 0 (o + 1) (i + 1) = .inr j) (h2 : isMk T j 59) (h3 : pR T f 0 (o + 1) (j + 1) = .inr k) (h4 : ¬ isMk T k 59) : pR T (f + 1) 3 o i = .inl (tqP (T k)) := by
  rw [pR3_m h ho, h1]
  refine (if_pos h2).trans ?_
  rw [h3]
  exact if_neg h4
theorem pR3_c5 {j k p : Nat} (h : isMk T i 91) (ho : o < 12) (h1 : pR T f 0 (o + 1) (i + 1) = .inr j) (h2 : isMk T j 59) (h3 : pR T f 0 (o + 1) (j + 1) = .inr k) (h4 : isMk T k 59) (h5 : pR T f 0 (o + 1) (k + 1) = .inl p) : pR T (f + 1) 3 o i = .inl p := by
  rw [pR3_m h ho, h1]
  refine (if_pos h2).trans ?_
  rw [h3]
  refine (if_pos h4).trans ?_
  rw [h5]
theorem pR3_c6 {j k l : Nat} (h : isMk T i 91) (ho : o < 12) (h1 : pR T f 0 (o + 1) (i + 1) = .inr j) (h2 : isMk T j 59) (h3 : pR T f 0 (o + 1) (j + 1) = .inr k) (h4 : isMk T k 59) (h5 : pR T f 0 (o + 1) (k + 1) = .inr l) : pR T (f + 1) 3 o i = if isMk T l 93 then .inr (l + 1) else .inl (tqP (T l)) := by
  rw [pR3_m h ho, h1]
  refine (if_pos h2).trans ?_
  rw [h3]
  refine (if_pos h4).trans ?_
  rw [h5]
theorem pR4_m : pR T (f + 1) 4 o i = match pR T f 0 o i with
    | .inl p => .inl p
    | .inr j => if isMk T j 59 then pR T f 4 o (j + 1) else if isMk T j 41 then .inr (j + 1) else .inl (tqP (T j)) := rfl
theorem pR4_e {p : Nat} (h1 : pR T f 0 o i = .inl p) : pR T (f + 1) 4 o i = .inl p := by rw [pR4_m, h1]
theorem pR4_g {j : Nat} (h1 : pR T f 0 o i = .inr j) (h2 : isMk T j 59) : pR T (f + 1) 4 o i = pR T f 4 o (j + 1) := by
  rw [pR4_m, h1]
  exact if_pos h2
theorem pR4_n {j : Nat} (h1 : pR T f 0 o i = .inr j) (h2 : ¬ isMk T j 59) (h3 : isMk T j 41) : pR T (f + 1) 4 o i = .inr (j + 1) := by
  rw [pR4_m, h1]
  refine (if_neg h2).trans ?_
  rw [if_pos h3]
theorem pR4_x {j : Nat} (h1 : pR T f 0 o i = .inr j) (h2 : ¬ isMk T j 59) (h3 : ¬ isMk T j 41) : pR T (f + 1) 4 o i = .inl (tqP (T j)) := by
  rw [pR4_m, h1]
  refine (if_neg h2).trans ?_
  rw [if_neg h3]
end pRs
/-- a line's tokens: mk of them, then its end or a fault -/
def TOKS (T : Nat → Tok) (mk ln : Nat) : Prop := mk ≤ 200 ∧ ln ≤ 200 ∧ (∀ i, i < mk → 1 ≤ tqS (T i) ∧ tqS (T i) ≤ 7) ∧ (∀ i, mk ≤ i → T i = T mk) ∧ (tqS (T mk) = 0 ∨ tqS (T mk) = 8) ∧ (∀ i, -1000000000000000000 < tqD (T i) ∧ tqD (T i) < 1000000000000000000) ∧ (∀ i, i < mk → tqP (T i) + 1 ≤ tqP (T (i + 1))) ∧ (∀ i, i < mk → tqS (T i) = 2 → 1 ≤ tqD (T i) ∧ tqD (T i) ≤ 60 ∧ (tqP (T i) : Int) + tqD (T i) + 2 ≤ tqP (T (i + 1)) ∧ ∀ k, (32 ≤ tqX (T i) k ∧ tqX (T i) k ≤ 126) ∨ tqD (T i) ≤ (k : Int)) ∧ (∀ i, tqP (T i) ≤ ln) ∧ (∀ i, tqS (T i) = 5 ∨ tqS (T i) = 6 ∨ tqS (T i) = 7 → 1 ≤ tqD (T i) ∧ tqD (T i) ≤ 126) ∧ (∀ i, tqS (T i) = 1 → tqS (T (i + 1)) = 1 → tqE (T i) + 2 ≤ tqE (T (i + 1))) ∧ (∀ i, tqS (T i) = 1 → 1 ≤ tqE (T i) ∧ tqE (T i) ≤ ln)
theorem TOKS_lt {T : Nat → Tok} {mk ln i : Nat} (h : TOKS T mk ln) (hs : 1 ≤ tqS (T i) ∧ tqS (T i) ≤ 7) : i < mk := by
  refine Classical.byContradiction fun z => ?_
  have e := h.2.2.2.1 i (by omega)
  have e2 := h.2.2.2.2.1
  rw [e] at hs
  omega
theorem soN_le {T : Nat → Tok} {s : Nat} : ∀ n i, soN T s n i ≤ n := by
  intro n
  induction n with
  | zero => intro i; exact Nat.le_refl _
  | succ n ih =>
    intro i
    unfold soN
    split
    · have := ih (i + 1); omega
    · omega
theorem soN_mk {T : Nat → Tok} {mk ln s : Nat} (h : TOKS T mk ln) (hs : 1 ≤ s ∧ s ≤ 7) : ∀ n i, i ≤ mk → i + soN T s n i ≤ mk := by
  intro n
  induction n with
  | zero => intro i hi; exact hi
  | succ n ih =>
    intro i hi
    unfold soN
    by_cases z : tqS (T i) = s
    · rw [if_pos z]
      have := ih (i + 1) (TOKS_lt h (by omega))
      omega
    · rw [if_neg z]; exact hi
theorem soN_eq {T : Nat → Tok} {s : Nat} : ∀ n i k, k ≤ n → (∀ j, j < k → tqS (T (i + j)) = s) → (k = n ∨ tqS (T (i + k)) ≠ s) → soN T s n i = k := by
  intro n
  induction n with
  | zero => intro i k h _ _; show 0 = k; omega
  | succ n ih =>
    intro i k h h1 h2
    unfold soN
    cases k with
    | zero =>
      rw [if_neg]
      rcases h2 with h2 | h2
      · omega
      · exact h2
    | succ k =>
      rw [if_pos (show tqS (T i) = s from h1 0 (by omega)), ih (i + 1) k (by omega) (fun j hj => by rw [show i + 1 + j = i + (j + 1) by omega]; exact h1 (j + 1) (by omega)) (by
        rcases h2 with h2 | h2
        · exact Or.inl (by omega)
        · exact Or.inr (by rw [show i + 1 + k = i + (k + 1) by omega]; exact h2))]
theorem dsE_mk {T : Nat → Tok} {mk ln i : Nat} (h : TOKS T mk ln) (hd : isDs T i) : i < mk ∧ i < dsE T i ∧ dsE T i ≤ mk := by
  have a := TOKS_lt h (i := i) (by omega)
  have b := soN_mk h (s := 6) (by decide) 4 (i + 1) (by omega)
  exact ⟨a, by show i < i + 1 + _; omega, b⟩
theorem soN_100 {T : Nat → Tok} {mk ln : Nat} (h : TOKS T mk ln) {i n : Nat} (hn : ∀ j, j < n → tqS (T (i + j)) = 1) : n ≤ 100 := by
  have a : ∀ k, k < n → 2 * k + 1 ≤ tqE (T (i + k)) := by
    intro k
    induction k with
    | zero => intro hk; have := (h.2.2.2.2.2.2.2.2.2.2.2 (i + 0) (hn 0 hk)).1; omega
    | succ k ih =>
      intro hk
      have b := ih (by omega)
      have c := h.2.2.2.2.2.2.2.2.2.2.1 (i + k) (hn k (by omega)) (by rw [show i + k + 1 = i + (k + 1) by omega]; exact hn (k + 1) hk)
      rw [show i + k + 1 = i + (k + 1) by omega] at c
      omega
  rcases Nat.eq_zero_or_pos n with z | z
  · omega
  · have b := a (n - 1) (by omega)
    have c := (h.2.2.2.2.2.2.2.2.2.2.2 (i + (n - 1)) (hn (n - 1) (by omega))).2
    have d := h.2.1
    omega
/-- reading goes on from token to token -/
theorem pR_mk {T : Nat → Tok} {mk ln : Nat} (h : TOKS T mk ln) : ∀ f m o i j, i ≤ mk → pR T f m o i = .inr j → i ≤ j ∧ j ≤ mk ∧ (m ≠ 2 → i < j) := by
  intro f
  induction f with
  | zero => intro m o i j _ hr; cases hr
  | succ f ih =>
    intro m o i j hi hr
    rcases m with _ | _ | _ | _ | m
    · by_cases a : isDs T i
      · rw [pR0_d a] at hr
        have b := dsE_mk h a
        have c := ih 0 o _ j b.2.2 hr
        exact ⟨by omega, c.2.1, fun _ => by omega⟩
      · cases e : pR T f 1 o i with
        | inl p => rw [pR0_e a e] at hr; cases hr
        | inr k =>
          have b := ih 1 o i k hi e
          have b3 := b.2.2 (by decide)
          by_cases c : isDs T k
          · rw [pR0_a a e c] at hr
            have d := dsE_mk h c
            have g := ih 0 o _ j d.2.2 hr
            exact ⟨by omega, g.2.1, fun _ => by omega⟩
          · rw [pR0_n a e c] at hr
            cases hr
            exact ⟨b.1, b.2.1, fun _ => b3⟩
    · cases e : pR T f 3 o i with
      | inl p => rw [show pR T (f + 1) (0 + 1) o i = .inl p from pR1_e e] at hr; cases hr
      | inr k =>
        rw [show pR T (f + 1) (0 + 1) o i = pR T f 2 o k from pR1_n e] at hr
        have b := ih 3 o i k hi e
        have b3 := b.2.2 (by decide)
        have c := ih 2 o k j b.2.1 hr
        exact ⟨by omega, c.2.1, fun _ => by omega⟩
    · by_cases a : isIx T i
      · by_cases ho : o < 12
        · cases e : pR T f 0 (o + 1) (i + 2) with
          | inl p => rw [show pR T (f + 1) (0 + 1 + 1) o i = .inl p from pR2_e a ho e] at hr; cases hr
          | inr k =>
            have l1 := TOKS_lt h (i := i + 1) (by have := a.2.2.1; omega)
            have b := ih 0 (o + 1) (i + 2) k (by omega) e
            by_cases c : isMk T k 41
            · rw [show pR T (f + 1) (0 + 1 + 1) o i = pR T f 2 o (k + 1) from pR2_g a ho e c] at hr
              have l2 := TOKS_lt h (i := k) (by have := c.1; omega)
              have d := ih 2 o (k + 1) j (by omega) hr
              exact ⟨by omega, d.2.1, fun z => absurd rfl z⟩
            · rw [show pR T (f + 1) (0 + 1 + 1) o i = .inl _ from pR2_x a ho e c] at hr; cases hr
        · rw [show pR T (f + 1) (0 + 1 + 1) o i = .inl _ from pR2_o a (by omega)] at hr; cases hr
      · rw [show pR T (f + 1) (0 + 1 + 1) o i = .inr i from pR2_n a] at hr
        cases hr
        exact ⟨Nat.le_refl _, hi, fun z => absurd rfl z⟩
    · have hr : pR T (f + 1) 3 o i = .inr j := hr
      by_cases a1 : tqS (T i) = 1
      · rw [pR3_1 a1] at hr
        have l := TOKS_lt h (i := i) (by omega)
        have b := soN_mk h (s := 1) (by decide) 201 i (by omega)
        have c : 0 < soN T 1 201 i := by unfold soN; rw [if_pos a1]; omega
        have e := Sum.inr.inj hr
        exact ⟨by omega, by omega, fun _ => by omega⟩
      · by_cases a2 : tqS (T i) = 2 ∨ tqS (T i) = 3
        · rw [pR3_2 a2] at hr
          have l := TOKS_lt h (i := i) (by omega)
          have e := Sum.inr.inj hr
          exact ⟨by omega, by omega, fun _ => by omega⟩
        · by_cases a3 : isMk T i 40 ∧ o < 12
          · have l := TOKS_lt h (i := i) (by have := a3.1.1; omega)
            by_cases a4 : isMk T (i + 1) 41
            · rw [pR3_0 a3.1 a3.2 a4] at hr
              have l2 := TOKS_lt h (i := i + 1) (by have := a4.1; omega)
              have e := Sum.inr.inj hr
              exact ⟨by omega, by omega, fun _ => by omega⟩
            · rw [pR3_l a3.1 a3.2 a4] at hr
              have b := ih 4 (o + 1) (i + 1) j (by omega) hr
              exact ⟨by omega, b.2.1, fun _ => by omega⟩
          · by_cases a5 : isMk T i 91 ∧ o < 12
            · obtain ⟨a5, ho⟩ := a5
              have l := TOKS_lt h (i := i) (by have := a5.1; omega)
              cases e1 : pR T f 0 (o + 1) (i + 1) with
              | inl p => rw [pR3_c1 a5 ho e1] at hr; cases hr
              | inr j1 =>
                have b1 := ih 0 (o + 1) (i + 1) j1 (by omega) e1
                by_cases c1 : isMk T j1 59
                · have l1 := TOKS_lt h (i := j1) (by have := c1.1; omega)
                  cases e2 : pR T f 0 (o + 1) (j1 + 1) with
                  | inl p => rw [pR3_c3 a5 ho e1 c1 e2] at hr; cases hr
                  | inr j2 =>
                    have b2 := ih 0 (o + 1) (j1 + 1) j2 (by omega) e2
                    by_cases c2 : isMk T j2 59
                    · have l2 := TOKS_lt h (i := j2) (by have := c2.1; omega)
                      cases e3 : pR T f 0 (o + 1) (j2 + 1) with
                      | inl p => rw [pR3_c5 a5 ho e1 c1 e2 c2 e3] at hr; cases hr
                      | inr j3 =>
                        have b3 := ih 0 (o + 1) (j2 + 1) j3 (by omega) e3
                        rw [pR3_c6 a5 ho e1 c1 e2 c2 e3] at hr
                        by_cases c3 : isMk T j3 93
                        · rw [if_pos c3] at hr
                          have l3 := TOKS_lt h (i := j3) (by have := c3.1; omega)
                          have e := Sum.inr.inj hr
                          exact ⟨by omega, by omega, fun _ => by omega⟩
                        · rw [if_neg c3] at hr; cases hr
                    · rw [pR3_c4 a5 ho e1 c1 e2 c2] at hr; cases hr
                · rw [pR3_c2 a5 ho e1 c1] at hr; cases hr
            · rw [pR3_x (by omega) a3 a5] at hr; cases hr
    · have hr : (match pR T f 0 o i with
        | .inl p => .inl p
        | .inr j => if isMk T j 59 then pR T f 4 o (j + 1) else if isMk T j 41 then .inr (j + 1) else .inl (tqP (T j))) = Sum.inr j := hr
      cases e : pR T f 0 o i with
      | inl p => rw [e] at hr; cases hr
      | inr k =>
        rw [e] at hr
        have b := ih 0 o i k hi e
        have b3 := b.2.2 (by decide)
        by_cases c : isMk T k 59
        · have hr : pR T f 4 o (k + 1) = .inr j := (if_pos c).symm.trans hr
          have l2 := TOKS_lt h (i := k) (by have := c.1; omega)
          have d := ih 4 o (k + 1) j (by omega) hr
          exact ⟨by omega, d.2.1, fun _ => by omega⟩
        · have hr : (if isMk T k 41 then Sum.inr (k + 1) else Sum.inl (tqP (T k))) = (Sum.inr j : Nat ⊕ Nat) := (if_neg c).symm.trans hr
          by_cases g : isMk T k 41
          · rw [if_pos g] at hr
            have l2 := TOKS_lt h (i := k) (by have := g.1; omega)
            have e := Sum.inr.inj hr
            exact ⟨by omega, by omega, fun _ => by omega⟩
          · rw [if_neg g] at hr; cases hr
/-! the class's Ops: what is read -/
/-- nothing, or a cell -/
def oV : Option Nat → Value
  | none => .null
  | some p => .ref p
theorem oV_fit (s : String) (b : Option Nat) : mj_fit (.object s) (oV b) = true := by cases b <;> rfl
abbrev opC (dd pl vb : Int) (nm : Int64) (av am pt : Int) (val nx ot : Value) : mj_E := cO 4 [ii dd, ii pl, ii vb, .long nm, ii av, ii am, ii pt, val, nx, ot]
/-- the bytes of n ADVERBS from i on, the first one lowest -/
def avI (T : Nat → Tok) (i n : Nat) : Int := if n = 0 then 0 else if n = 1 then 0 + tqD (T i) * 1 else if n = 2 then 0 + tqD (T i) * 1 + tqD (T (i + 1)) * 256 else if n = 3 then 0 + tqD (T i) * 1 + tqD (T (i + 1)) * 256 + tqD (T (i + 1 + 1)) * 65536 else 0 + tqD (T i) * 1 + tqD (T (i + 1)) * 256 + tqD (T (i + 1 + 1)) * 65536 + tqD (T (i + 1 + 1 + 1)) * 16777216
abbrev avM (T : Nat → Tok) (i : Nat) : Nat := soN T 6 4 (i + 1)
/-- the Op of the VERB or function at i -/
def doC (T : Nat → Tok) (i : Nat) (dd : Int) (nx : Value) : mj_E := opC dd (tqP (T i) : Int) (if tqS (T i) = 5 then tqD (T i) else 0) (if tqS (T i) = 5 then Int64.ofInt 0 else Int64.ofInt (tqD (T i))) (avI T (i + 1) (avM T i)) (avM T i : Int) 0 .null nx .null
/-- a row of numbers, a text -/
def nuV (T : Nat → Tok) (i n : Nat) : VV := if n = 1 then v1 0 (Int64.ofInt (tqD (T i))) else vrow (vform n (fun k => Int64.ofInt (tqD (T (i + k))))) n (fun k => Int64.ofInt (tqD (T (i + k))))
def txV (T : Nat → Tok) (i : Nat) : VV := if tqD (T i) = 1 then v1 1 (Int64.ofInt (tqX (T i) 0)) else vrow 3 (tqD (T i)).toNat (fun k => Int64.ofInt (tqX (T i) k))
/-- how many parts a list has -/
def plN (T : Nat → Tok) : Nat → Nat → Nat → Nat
  | 0, _, _ => 1
  | f + 1, o, i => match pR T f 0 o i with
    | .inl _ => 1
    | .inr j => if isMk T j 59 then plN T f o (j + 1) + 1 else 1
/-- a cell that never changes -/
def fzC (A : Nat → Prop) (h : mj_H) (p : Nat) (c : mj_E) : Prop := 2 ≤ p ∧ A p ∧ h[p]? = some c
/-- the Ops from op on do what stands at i, then go on at b; of what stands behind a noun: nop is where its base's Ops begin, hk the Op that gets its value -/
def cR (A : Nat → Prop) (h : mj_H) (T : Nat → Tok) : Nat → Nat → Nat → Nat → Nat → Option Nat → Nat → Nat → Prop
  | 0, _, _, _, _, _, _, _ => False
  | f + 1, 0, o, i, op, b, _, _ =>
    if isDs T i then ∃ a, fzC A h a (doC T i 3 (oV b)) ∧ cR A h T f 0 o (dsE T i) op (some a) 0 0 else
    match pR T f 1 o i with
    | .inl _ => False
    | .inr j => if isDs T j then ∃ t nop, fzC A h t (doC T j 4 (oV b)) ∧ cR A h T f 1 o i nop (some t) 0 0 ∧ cR A h T f 0 o (dsE T j) op (some nop) 0 0
      else ∃ t, fzC A h t (opC 0 0 0 (Int64.ofInt 0) 0 0 0 .null (oV b) .null) ∧ cR A h T f 1 o i op (some t) 0 0
  | f + 1, 1, o, i, op, b, _, _ =>
    match pR T f 3 o i with
    | .inl _ => False
    | .inr j => ∃ nop hk, cR A h T f 3 o i nop (some hk) 0 0 ∧ cR A h T f 2 o j op b nop hk
  | f + 1, 2, o, j, op, b, nop, hk =>
    if isIx T j then
      match pR T f 0 (o + 1) (j + 2) with
      | .inl _ => False
      | .inr k => ∃ hk2 nop2, fzC A h hk (opC 4 (tqP (T j) : Int) 64 (Int64.ofInt 0) 0 0 0 .null (.ref hk2) .null) ∧ cR A h T f 0 (o + 1) (j + 2) nop2 (some nop) 0 0 ∧ cR A h T f 2 o (k + 1) op b nop2 hk2
    else op = nop ∧ b = some hk
  | f + 1, 3, o, i, op, b, _, _ =>
    if tqS (T i) = 1 then ∃ p, fzC A h op (opC 1 (tqP (T i) : Int) 0 (Int64.ofInt 0) 0 0 0 (.ref p) (oV b) .null) ∧ cv A h 1 p (nuV T i (soN T 1 201 i)) else
    if tqS (T i) = 2 then ∃ p, fzC A h op (opC 1 (tqP (T i) : Int) 0 (Int64.ofInt 0) 0 0 0 (.ref p) (oV b) .null) ∧ cv A h 1 p (txV T i) else
    if tqS (T i) = 3 then fzC A h op (opC 2 (tqP (T i) : Int) 0 (Int64.ofInt (tqD (T i))) 0 0 0 .null (oV b) .null) else
    if isMk T i 40 then (if isMk T (i + 1) 41 then fzC A h op (opC 5 (tqP (T i) : Int) 0 (Int64.ofInt 0) 0 0 0 .null (oV b) .null)
      else ∃ g, fzC A h g (opC (if plN T f (o + 1) (i + 1) = 1 then 0 else 5) (tqP (T i) : Int) 0 (Int64.ofInt 0) 0 0 (plN T f (o + 1) (i + 1) : Int) .null (oV b) .null) ∧ cR A h T f 4 (o + 1) (i + 1) op (some g) 0 0) else
    match pR T f 0 (o + 1) (i + 1) with
    | .inl _ => False
    | .inr j => match pR T f 0 (o + 1) (j + 1) with
      | .inl _ => False
      | .inr k => ∃ c y z, fzC A h c (opC 6 (tqP (T i) : Int) 0 (Int64.ofInt 0) 0 0 0 .null (.ref y) (.ref z)) ∧ cR A h T f 0 (o + 1) (i + 1) op (some c) 0 0 ∧ cR A h T f 0 (o + 1) (j + 1) y b 0 0 ∧ cR A h T f 0 (o + 1) (k + 1) z b 0 0
  | f + 1, _ + 4, o, i, op, b, _, _ =>
    match pR T f 0 o i with
    | .inl _ => False
    | .inr j => ∃ op1, cR A h T f 0 o i op1 b 0 0 ∧ (if isMk T j 59 then cR A h T f 4 o (j + 1) op (some op1) 0 0 else op = op1)
theorem cR_m0 {A : Nat → Prop} {h : mj_H} {T : Nat → Tok} {f o i op nop hk : Nat} {b : Option Nat} : cR A h T (f + 1) 0 o i op b nop hk = (if isDs T i then ∃ a, fzC A h a (doC T i 3 (oV b)) ∧ cR A h T f 0 o (dsE T i) op (some a) 0 0 else
    match pR T f 1 o i with
    | .inl _ => False
    | .inr j => if isDs T j then ∃ t nop, fzC A h t (doC T j 4 (oV b)) ∧ cR A h T f 1 o i nop (some t) 0 0 ∧ cR A h T f 0 o (dsE T j) op (some nop) 0 0
      else ∃ t, fzC A h t (opC 0 0 0 (Int64.ofInt 0) 0 0 0 .null (oV b) .null) ∧ cR A h T f 1 o i op (some t) 0 0) := rfl
theorem cR_m1 {A : Nat → Prop} {h : mj_H} {T : Nat → Tok} {f o i op nop hk : Nat} {b : Option Nat} : cR A h T (f + 1) 1 o i op b nop hk = (match pR T f 3 o i with
    | .inl _ => False
    | .inr j => ∃ nop hk, cR A h T f 3 o i nop (some hk) 0 0 ∧ cR A h T f 2 o j op b nop hk) := rfl
theorem cR_m2 {A : Nat → Prop} {h : mj_H} {T : Nat → Tok} {f o j op nop hk : Nat} {b : Option Nat} : cR A h T (f + 1) 2 o j op b nop hk = (if isIx T j then
      match pR T f 0 (o + 1) (j + 2) with
      | .inl _ => False
      | .inr k => ∃ hk2 nop2, fzC A h hk (opC 4 (tqP (T j) : Int) 64 (Int64.ofInt 0) 0 0 0 .null (.ref hk2) .null) ∧ cR A h T f 0 (o + 1) (j + 2) nop2 (some nop) 0 0 ∧ cR A h T f 2 o (k + 1) op b nop2 hk2
    else op = nop ∧ b = some hk) := rfl
theorem cR_m3 {A : Nat → Prop} {h : mj_H} {T : Nat → Tok} {f o i op nop hk : Nat} {b : Option Nat} : cR A h T (f + 1) 3 o i op b nop hk = (if tqS (T i) = 1 then ∃ p, fzC A h op (opC 1 (tqP (T i) : Int) 0 (Int64.ofInt 0) 0 0 0 (.ref p) (oV b) .null) ∧ cv A h 1 p (nuV T i (soN T 1 201 i)) else
    if tqS (T i) = 2 then ∃ p, fzC A h op (opC 1 (tqP (T i) : Int) 0 (Int64.ofInt 0) 0 0 0 (.ref p) (oV b) .null) ∧ cv A h 1 p (txV T i) else
    if tqS (T i) = 3 then fzC A h op (opC 2 (tqP (T i) : Int) 0 (Int64.ofInt (tqD (T i))) 0 0 0 .null (oV b) .null) else
    if isMk T i 40 then (if isMk T (i + 1) 41 then fzC A h op (opC 5 (tqP (T i) : Int) 0 (Int64.ofInt 0) 0 0 0 .null (oV b) .null)
      else ∃ g, fzC A h g (opC (if plN T f (o + 1) (i + 1) = 1 then 0 else 5) (tqP (T i) : Int) 0 (Int64.ofInt 0) 0 0 (plN T f (o + 1) (i + 1) : Int) .null (oV b) .null) ∧ cR A h T f 4 (o + 1) (i + 1) op (some g) 0 0) else
    match pR T f 0 (o + 1) (i + 1) with
    | .inl _ => False
    | .inr j => match pR T f 0 (o + 1) (j + 1) with
      | .inl _ => False
      | .inr k => ∃ c y z, fzC A h c (opC 6 (tqP (T i) : Int) 0 (Int64.ofInt 0) 0 0 0 .null (.ref y) (.ref z)) ∧ cR A h T f 0 (o + 1) (i + 1) op (some c) 0 0 ∧ cR A h T f 0 (o + 1) (j + 1) y b 0 0 ∧ cR A h T f 0 (o + 1) (k + 1) z b 0 0) := rfl
theorem cR_m4 {A : Nat → Prop} {h : mj_H} {T : Nat → Tok} {f o i op nop hk : Nat} {b : Option Nat} : cR A h T (f + 1) 4 o i op b nop hk = (match pR T f 0 o i with
    | .inl _ => False
    | .inr j => ∃ op1, cR A h T f 0 o i op1 b 0 0 ∧ (if isMk T j 59 then cR A h T f 4 o (j + 1) op (some op1) 0 0 else op = op1)) := rfl
/-- what is read stays read -/
abbrev kpA (A : Nat → Prop) (h : mj_H) (A' : Nat → Prop) (h' : mj_H) : Prop := ∀ a e, A a → h[a]? = some e → A' a ∧ h'[a]? = some e
theorem kpA_rf (A : Nat → Prop) (h : mj_H) : kpA A h A h := fun _ _ a b => ⟨a, b⟩
theorem kpA_tr {A B C : Nat → Prop} {h h1 h2 : mj_H} (x : kpA A h B h1) (y : kpA B h1 C h2) : kpA A h C h2 := fun a e p q => y a e (x a e p q).1 (x a e p q).2
theorem fzC_k {A A' : Nat → Prop} {h h' : mj_H} {p : Nat} {c : mj_E} (hk : kpA A h A' h') (z : fzC A h p c) : fzC A' h' p c := ⟨z.1, (hk _ _ z.2.1 z.2.2).1, (hk _ _ z.2.1 z.2.2).2⟩
theorem cR_k {A A' : Nat → Prop} {h h' : mj_H} {T : Nat → Tok} (hk : kpA A h A' h') : ∀ f m o i op b nop hk', cR A h T f m o i op b nop hk' → cR A' h' T f m o i op b nop hk' := by
  intro f
  induction f with
  | zero => intro m o i op b nop hk' z; exact z.elim
  | succ f ih =>
    intro m o i op b nop hk' z
    rcases m with _ | _ | _ | _ | m
    · have z : cR A h T (f + 1) 0 o i op b nop hk' := z
      show cR A' h' T (f + 1) 0 o i op b nop hk'
      rw [cR_m0] at z ⊢
      by_cases a : isDs T i
      · rw [if_pos a] at z ⊢
        obtain ⟨x, z1, z2⟩ := z
        exact ⟨x, fzC_k hk z1, ih _ _ _ _ _ _ _ z2⟩
      · rw [if_neg a] at z ⊢
        cases e : pR T f 1 o i with
        | inl p => rw [e] at z; exact z.elim
        | inr j =>
          rw [e] at z
          simp only at z ⊢
          by_cases c : isDs T j
          · rw [if_pos c] at z ⊢
            obtain ⟨x, y, z1, z2, z3⟩ := z
            exact ⟨x, y, fzC_k hk z1, ih _ _ _ _ _ _ _ z2, ih _ _ _ _ _ _ _ z3⟩
          · rw [if_neg c] at z ⊢
            obtain ⟨x, z1, z2⟩ := z
            exact ⟨x, fzC_k hk z1, ih _ _ _ _ _ _ _ z2⟩
    · have z : cR A h T (f + 1) 1 o i op b nop hk' := z
      show cR A' h' T (f + 1) 1 o i op b nop hk'
      rw [cR_m1] at z ⊢
      cases e : pR T f 3 o i with
      | inl p => rw [e] at z; exact z.elim
      | inr j =>
        rw [e] at z
        obtain ⟨x, y, z1, z2⟩ := z
        exact ⟨x, y, ih _ _ _ _ _ _ _ z1, ih _ _ _ _ _ _ _ z2⟩
    · have z : cR A h T (f + 1) 2 o i op b nop hk' := z
      show cR A' h' T (f + 1) 2 o i op b nop hk'
      rw [cR_m2] at z ⊢
      by_cases a : isIx T i
      · rw [if_pos a] at z ⊢
        cases e : pR T f 0 (o + 1) (i + 2) with
        | inl p => rw [e] at z; exact z.elim
        | inr j =>
          rw [e] at z
          obtain ⟨x, y, z1, z2, z3⟩ := z
          exact ⟨x, y, fzC_k hk z1, ih _ _ _ _ _ _ _ z2, ih _ _ _ _ _ _ _ z3⟩
      · rw [if_neg a] at z ⊢
        exact z
    · have z : cR A h T (f + 1) 3 o i op b nop hk' := z
      show cR A' h' T (f + 1) 3 o i op b nop hk'
      rw [cR_m3] at z ⊢
      by_cases a1 : tqS (T i) = 1
      · rw [if_pos a1] at z ⊢
        obtain ⟨p, z1, z2⟩ := z
        exact ⟨p, fzC_k hk z1, cv_keep hk z2⟩
      · rw [if_neg a1] at z ⊢
        by_cases a2 : tqS (T i) = 2
        · rw [if_pos a2] at z ⊢
          obtain ⟨p, z1, z2⟩ := z
          exact ⟨p, fzC_k hk z1, cv_keep hk z2⟩
        · rw [if_neg a2] at z ⊢
          by_cases a3 : tqS (T i) = 3
          · rw [if_pos a3] at z ⊢
            exact fzC_k hk z
          · rw [if_neg a3] at z ⊢
            by_cases a4 : isMk T i 40
            · rw [if_pos a4] at z ⊢
              by_cases a5 : isMk T (i + 1) 41
              · rw [if_pos a5] at z ⊢
                exact fzC_k hk z
              · rw [if_neg a5] at z ⊢
                obtain ⟨g, z1, z2⟩ := z
                exact ⟨g, fzC_k hk z1, ih _ _ _ _ _ _ _ z2⟩
            · rw [if_neg a4] at z ⊢
              cases e1 : pR T f 0 (o + 1) (i + 1) with
              | inl p => rw [e1] at z; exact z.elim
              | inr j =>
                rw [e1] at z
                simp only at z ⊢
                cases e2 : pR T f 0 (o + 1) (j + 1) with
                | inl p => rw [e2] at z; exact z.elim
                | inr k =>
                  rw [e2] at z
                  obtain ⟨c, y, w, z1, z2, z3, z4⟩ := z
                  exact ⟨c, y, w, fzC_k hk z1, ih _ _ _ _ _ _ _ z2, ih _ _ _ _ _ _ _ z3, ih _ _ _ _ _ _ _ z4⟩
    · have z : cR A h T (f + 1) 4 o i op b nop hk' := z
      show cR A' h' T (f + 1) 4 o i op b nop hk'
      rw [cR_m4] at z ⊢
      cases e : pR T f 0 o i with
      | inl p => rw [e] at z; exact z.elim
      | inr j =>
        rw [e] at z
        obtain ⟨x, z1, z2⟩ := z
        refine ⟨x, ih _ _ _ _ _ _ _ z1, ?_⟩
        by_cases c : isMk T j 59
        · rw [if_pos c] at z2 ⊢
          exact ih _ _ _ _ _ _ _ z2
        · rw [if_neg c] at z2 ⊢
          exact z2
/-! the tokens, as the class has them -/
def cS (T : Nat → Tok) (i : Nat) : Nat := if tqS (T i) = 8 then 0 else tqS (T i)
def TT (h : mj_H) (T : Nat → Tok) (mk ln : Nat) : Prop := ∃ (le_ : Int) (gd : Bool) (sf pf bf : Nat → Int) (df : Nat → Int64), TK h (mk + 1) le_ ln gd sf pf bf df ∧ (∀ i, i ≤ mk → sf i = ((cS T i : Nat) : Int)) ∧ (∀ i, i ≤ mk → pf i = (tqP (T i) : Int)) ∧ (∀ i, i ≤ mk → df i = Int64.ofInt (tqD (T i))) ∧ gd = decide (tqS (T mk) = 0) ∧ (∀ j, 0 ≤ sf j ∧ sf j ≤ 7) ∧ (∀ i, i < mk → tqS (T i) = 2 → ∀ k : Nat, (k : Int) < tqD (T i) → tqP (T i) + 1 + k < ln ∧ bf (tqP (T i) + 1 + k) = tqX (T i) k)
theorem TT_fr {h h1 : mj_H} {T : Nat → Tok} {mk ln : Nat} (hf : ∀ x, x < 13 → h1[x]? = h[x]?) (hT : TT h T mk ln) : TT h1 T mk ln := by
  obtain ⟨a, b, c, d, e, g, k, r⟩ := hT
  obtain ⟨k1, k2, k3, k4, k5, k6⟩ := k
  exact ⟨a, b, c, d, e, g, ⟨by rw [hf 9 (by decide)]; exact k1, by rw [hf 10 (by decide)]; exact k2, by rw [hf 11 (by decide)]; exact k3, by rw [hf 12 (by decide)]; exact k4, by rw [hf 3 (by decide)]; exact k5, k6⟩, r⟩
theorem TT_set {h : mj_H} {T : Nat → Tok} {mk ln a : Nat} {c : mj_E} (ha : 13 ≤ a) (hT : TT h T mk ln) : TT (h.set a c) T mk ln := TT_fr (fun x hx => List.getElem?_set_ne (by omega)) hT
theorem TT_app {h X : mj_H} {T : Nat → Tok} {mk ln : Nat} (hl : 13 ≤ h.length) (hT : TT h T mk ln) : TT (h ++ X) T mk ln := TT_fr (fun x hx => List.getElem?_append_left (by omega)) hT
theorem cS_7 (T : Nat → Tok) (i : Nat) : (cS T i = 7 ↔ tqS (T i) = 7) ∧ (cS T i = 5 ↔ tqS (T i) = 5) ∧ (cS T i = 4 ↔ tqS (T i) = 4) ∧ (cS T i = 1 ↔ tqS (T i) = 1) ∧ (cS T i = 2 ↔ tqS (T i) = 2) ∧ (cS T i = 3 ↔ tqS (T i) = 3) ∧ (cS T i = 6 ↔ tqS (T i) = 6) ∧ (cS T i = 0 ↔ tqS (T i) = 0 ∨ tqS (T i) = 8) := by
  unfold cS
  split <;> omega
theorem cS_mk {T : Nat → Tok} {mk ln i : Nat} (h : TOKS T mk ln) (hi : mk ≤ i) : cS T i = 0 := by
  rw [(cS_7 T i).2.2.2.2.2.2.2, h.2.2.2.1 i hi]
  exact h.2.2.2.2.1
theorem cS_r {T : Nat → Tok} {mk ln : Nat} (h : TOKS T mk ln) (i : Nat) : cS T i ≤ 7 := by
  by_cases z : i < mk
  · have := h.2.2.1 i z
    unfold cS
    split <;> omega
  · rw [cS_mk h (by omega)]; omega
/-- the cell of the Reader -/
abbrev rdC (at_ wr ls : Int) (nm : Int64) (st tl : Value) : mj_E := cO 7 [.ref 9, ii at_, ii wr, ii ls, .long nm, st, tl]
/-- cells but the Reader's and p have not changed -/
def rdF (h h1 : mj_H) (p : Nat) : Prop := h.length ≤ h1.length ∧ ∀ x, x < h.length → x ≠ 13 → x ≠ p → h1[x]? = h[x]?
theorem rdF_rf (h : mj_H) (p : Nat) : rdF h h p := ⟨Nat.le_refl _, fun _ _ _ _ => rfl⟩
theorem rdF_tr {h h1 h2 : mj_H} {p : Nat} (a : rdF h h1 p) (b : rdF h1 h2 p) : rdF h h2 p := ⟨Nat.le_trans a.1 b.1, fun x c d e => (b.2 x (Nat.lt_of_lt_of_le c a.1) d e).trans (a.2 x c d e)⟩
theorem rdF_set {h h1 : mj_H} {p a : Nat} {c : mj_E} (ha : a = 13 ∨ a = p ∨ h.length ≤ a) (x : rdF h h1 p) : rdF h (h1.set a c) p := ⟨by rw [List.length_set]; exact x.1, fun y b1 b2 b3 => by rw [List.getElem?_set_ne (by omega)]; exact x.2 y b1 b2 b3⟩
theorem rdF_app {h h1 X : mj_H} {p : Nat} (x : rdF h h1 p) : rdF h (h1 ++ X) p := ⟨by rw [List.length_append]; have := x.1; omega, fun y b1 b2 b3 => by rw [List.getElem?_append_left (by have := x.1; omega)]; exact x.2 y b1 b2 b3⟩
/-- a call that leaves another cell alone, which is new -/
theorem rdF_nw {h h1 h2 : mj_H} {p q : Nat} (a : rdF h h1 p) (b : rdF h1 h2 q) (hq : q = 13 ∨ q = p ∨ h.length ≤ q) : rdF h h2 p := ⟨Nat.le_trans a.1 b.1, fun x c d e => (b.2 x (Nat.lt_of_lt_of_le c a.1) d (by omega)).trans (a.2 x c d e)⟩
theorem rdF_TT {h h1 : mj_H} {T : Nat → Tok} {mk ln p : Nat} (hf : rdF h h1 p) (hp : 13 ≤ p) (hl : 13 ≤ h.length) (hT : TT h T mk ln) : TT h1 T mk ln := TT_fr (fun x hx => hf.2 x (by omega) (by omega) (by omega)) hT
theorem rdF_kp {A : Nat → Prop} {h h1 : mj_H} {p : Nat} (hf : rdF h h1 p) (hA : okA A h) (h13 : ¬ A p) : kpA A h A h1 := fun a e x y => ⟨x, by
  have := hA a x
  rw [hf.2 a this.1 (by omega) (fun z => h13 (z ▸ x))]; exact y⟩
section cRs
variable {A : Nat → Prop} {h : mj_H} {T : Nat → Tok} {f o i op nop hk : Nat} {b : Option Nat}
theorem cR_d (hd : isDs T i) : cR A h T (f + 1) 0 o i op b nop hk ↔ ∃ a, fzC A h a (doC T i 3 (oV b)) ∧ cR A h T f 0 o (dsE T i) op (some a) 0 0 := by rw [cR_m0, if_pos hd]
theorem cR_a {j : Nat} (hd : ¬ isDs T i) (e : pR T f 1 o i = .inr j) (hj : isDs T j) : cR A h T (f + 1) 0 o i op b nop hk ↔ ∃ t nop, fzC A h t (doC T j 4 (oV b)) ∧ cR A h T f 1 o i nop (some t) 0 0 ∧ cR A h T f 0 o (dsE T j) op (some nop) 0 0 := by
  rw [cR_m0, if_neg hd, e]
  simp only
  rw [if_pos hj]
theorem cR_n {j : Nat} (hd : ¬ isDs T i) (e : pR T f 1 o i = .inr j) (hj : ¬ isDs T j) : cR A h T (f + 1) 0 o i op b nop hk ↔ ∃ t, fzC A h t (opC 0 0 0 (Int64.ofInt 0) 0 0 0 .null (oV b) .null) ∧ cR A h T f 1 o i op (some t) 0 0 := by
  rw [cR_m0, if_neg hd, e]
  simp only
  rw [if_neg hj]
theorem cR_1 {j : Nat} (e : pR T f 3 o i = .inr j) : cR A h T (f + 1) 1 o i op b nop hk ↔ ∃ nop hk, cR A h T f 3 o i nop (some hk) 0 0 ∧ cR A h T f 2 o j op b nop hk := by rw [cR_m1, e]
theorem cR_ix {k : Nat} (hx : isIx T i) (e : pR T f 0 (o + 1) (i + 2) = .inr k) : cR A h T (f + 1) 2 o i op b nop hk ↔ ∃ hk2 nop2, fzC A h hk (opC 4 (tqP (T i) : Int) 64 (Int64.ofInt 0) 0 0 0 .null (.ref hk2) .null) ∧ cR A h T f 0 (o + 1) (i + 2) nop2 (some nop) 0 0 ∧ cR A h T f 2 o (k + 1) op b nop2 hk2 := by rw [cR_m2, if_pos hx, e]
theorem cR_ixn (hx : ¬ isIx T i) : cR A h T (f + 1) 2 o i op b nop hk ↔ op = nop ∧ b = some hk := by rw [cR_m2, if_neg hx]
theorem cR_nu (h1 : tqS (T i) = 1) : cR A h T (f + 1) 3 o i op b nop hk ↔ ∃ p, fzC A h op (opC 1 (tqP (T i) : Int) 0 (Int64.ofInt 0) 0 0 0 (.ref p) (oV b) .null) ∧ cv A h 1 p (nuV T i (soN T 1 201 i)) := by rw [cR_m3, if_pos h1]
theorem cR_tx (h1 : tqS (T i) = 2) : cR A h T (f + 1) 3 o i op b nop hk ↔ ∃ p, fzC A h op (opC 1 (tqP (T i) : Int) 0 (Int64.ofInt 0) 0 0 0 (.ref p) (oV b) .null) ∧ cv A h 1 p (txV T i) := by rw [cR_m3, if_neg (by omega), if_pos h1]
theorem cR_nm (h1 : tqS (T i) = 3) : cR A h T (f + 1) 3 o i op b nop hk ↔ fzC A h op (opC 2 (tqP (T i) : Int) 0 (Int64.ofInt (tqD (T i))) 0 0 0 .null (oV b) .null) := by rw [cR_m3, if_neg (by omega), if_neg (by omega), if_pos h1]
theorem cR_g0 (h1 : isMk T i 40) (h2 : isMk T (i + 1) 41) : cR A h T (f + 1) 3 o i op b nop hk ↔ fzC A h op (opC 5 (tqP (T i) : Int) 0 (Int64.ofInt 0) 0 0 0 .null (oV b) .null) := by
  have := h1.1
  rw [cR_m3, if_neg (by omega), if_neg (by omega), if_neg (by omega), if_pos h1, if_pos h2]
theorem cR_g (h1 : isMk T i 40) (h2 : ¬ isMk T (i + 1) 41) : cR A h T (f + 1) 3 o i op b nop hk ↔ ∃ g, fzC A h g (opC (if plN T f (o + 1) (i + 1) = 1 then 0 else 5) (tqP (T i) : Int) 0 (Int64.ofInt 0) 0 0 (plN T f (o + 1) (i + 1) : Int) .null (oV b) .null) ∧ cR A h T f 4 (o + 1) (i + 1) op (some g) 0 0 := by
  have := h1.1
  rw [cR_m3, if_neg (by omega), if_neg (by omega), if_neg (by omega), if_pos h1, if_neg h2]
theorem cR_c {j k : Nat} (h1 : isMk T i 91) (e1 : pR T f 0 (o + 1) (i + 1) = .inr j) (e2 : pR T f 0 (o + 1) (j + 1) = .inr k) : cR A h T (f + 1) 3 o i op b nop hk ↔ ∃ c y z, fzC A h c (opC 6 (tqP (T i) : Int) 0 (Int64.ofInt 0) 0 0 0 .null (.ref y) (.ref z)) ∧ cR A h T f 0 (o + 1) (i + 1) op (some c) 0 0 ∧ cR A h T f 0 (o + 1) (j + 1) y b 0 0 ∧ cR A h T f 0 (o + 1) (k + 1) z b 0 0 := by
  have := h1.1
  have n : ¬ isMk T i 40 := fun z => by have := z.2; have := h1.2; omega
  rw [cR_m3, if_neg (by omega), if_neg (by omega), if_neg (by omega), if_neg n, e1]
  simp only
  rw [e2]
theorem cR_l {j : Nat} (e : pR T f 0 o i = .inr j) (h1 : isMk T j 59) : cR A h T (f + 1) 4 o i op b nop hk ↔ ∃ op1, cR A h T f 0 o i op1 b 0 0 ∧ cR A h T f 4 o (j + 1) op (some op1) 0 0 := by
  rw [cR_m4, e]
  simp only [if_pos h1]
theorem cR_ln {j : Nat} (e : pR T f 0 o i = .inr j) (h1 : ¬ isMk T j 59) : cR A h T (f + 1) 4 o i op b nop hk ↔ cR A h T f 0 o i op b 0 0 := by
  rw [cR_m4, e]
  simp only [if_neg h1]
  exact ⟨fun ⟨x, a, c⟩ => by rw [c]; exact a, fun a => ⟨op, a, rfl⟩⟩
theorem plN_s {j : Nat} (e : pR T f 0 o i = .inr j) (h1 : isMk T j 59) : plN T (f + 1) o i = plN T f o (j + 1) + 1 := by
  show (match pR T f 0 o i with | .inl _ => 1 | .inr j => if isMk T j 59 then plN T f o (j + 1) + 1 else 1) = _
  rw [e]
  exact if_pos h1
theorem plN_e {j : Nat} (e : pR T f 0 o i = .inr j) (h1 : ¬ isMk T j 59) : plN T (f + 1) o i = 1 := by
  show (match pR T f 0 o i with | .inl _ => 1 | .inr j => if isMk T j 59 then plN T f o (j + 1) + 1 else 1) = _
  rw [e]
  exact if_neg h1
end cRs
theorem tt_sort {xt : mj_X} {d mk ln i : Nat} {T : Nat → Tok} {h : mj_H} (hd : 1 ≤ d) (hK : TOKS T mk ln) (hT : TT h T mk ln) (hi : i ≤ mk + 1) : pgP xt d 20 [.ref 9, ii (i : Int)] h (ii ((cS T i : Nat) : Int)) := by
  obtain ⟨le_, gd, sf, pf, bf, df, k, a1, a2, a3, a4, a5, a6⟩ := hT
  have hm := hK.1
  have e : tokS (mk + 1) sf (i : Int) = ((cS T i : Nat) : Int) := by
    unfold tokS
    by_cases z : i ≤ mk
    · rw [if_pos (by omega)]; exact a1 i z
    · rw [if_neg (by omega), cS_mk hK (by omega)]; rfl
  rw [← e]
  exact x_sortAtT hd k (by omega)
theorem tt_place {xt : mj_X} {d mk ln i : Nat} {T : Nat → Tok} {h : mj_H} (hd : 1 ≤ d) (hK : TOKS T mk ln) (hT : TT h T mk ln) (hi : i ≤ mk) : pgP xt d 39 [.ref 9, ii (i : Int)] h (ii (tqP (T i) : Int)) := by
  obtain ⟨le_, gd, sf, pf, bf, df, k, a1, a2, a3, a4, a5, a6⟩ := hT
  have hm := hK.1
  have e : (if 0 ≤ (i : Int) ∧ (i : Int) < ((mk + 1 : Nat) : Int) then pf (i : Int).toNat else (ln : Int)) = (tqP (T i) : Int) := by
    rw [if_pos (by omega)]; exact a2 i hi
  rw [← e]
  exact x_placeAtT hd k (by omega)
theorem tt_data {xt : mj_X} {d mk ln i : Nat} {T : Nat → Tok} {h : mj_H} (hd : 1 ≤ d) (hK : TOKS T mk ln) (hT : TT h T mk ln) (hi : i ≤ mk) : pgP xt d 30 [.ref 9, ii (i : Int)] h (.long (Int64.ofInt (tqD (T i)))) := by
  obtain ⟨le_, gd, sf, pf, bf, df, k, a1, a2, a3, a4, a5, a6⟩ := hT
  have hm := hK.1
  have e : (if 0 ≤ (i : Int) ∧ (i : Int) < ((mk + 1 : Nat) : Int) then df (i : Int).toNat else Int64.ofInt 0) = Int64.ofInt (tqD (T i)) := by
    rw [if_pos (by omega)]; exact a3 i hi
  rw [← e]
  exact x_dataAtT hd k (by omega)
theorem tt_mark {c : Int} {xt : mj_X} {d mk ln i : Nat} {T : Nat → Tok} {h : mj_H} (hd : 1 ≤ d) (hK : TOKS T mk ln) (hT : TT h T mk ln) (hi : i ≤ mk + 1) (hc : -2147483648 ≤ c ∧ c ≤ 2147483647) : pgP xt d 31 [.ref 9, ii (i : Int), ii c] h (zz (decide (isMk T i c))) := by
  obtain ⟨le_, gd, sf, pf, bf, df, k, a1, a2, a3, a4, a5, a6⟩ := hT
  have hm := hK.1
  have hD := hK.2.2.2.2.2.1 i
  have e : (0 ≤ (i : Int) ∧ (i : Int) < ((mk + 1 : Nat) : Int) ∧ sf (i : Int).toNat = 7 ∧ (df (i : Int).toNat).toInt = c) ↔ isMk T i c := by
    constructor
    · rintro ⟨-, b, c1, c2⟩
      have hi2 : i ≤ mk := by omega
      have c1 : sf i = 7 := c1
      have c2 : (df i).toInt = c := c2
      rw [a1 i hi2] at c1
      rw [a3 i hi2, n_toL (by omega) (by omega)] at c2
      exact ⟨(cS_7 T i).1.mp (by omega), c2⟩
    · rintro ⟨b, c1⟩
      have hi2 := TOKS_lt hK (i := i) (by omega)
      refine ⟨by omega, by omega, ?_, ?_⟩
      · show sf i = 7
        have := (cS_7 T i).1.mpr b
        rw [a1 i (by omega)]; omega
      · show (df i).toInt = c
        rw [a3 i (by omega), n_toL (by omega) (by omega)]; exact c1
  rw [← show zz (decide (0 ≤ (i : Int) ∧ (i : Int) < ((mk + 1 : Nat) : Int) ∧ sf (i : Int).toNat = 7 ∧ (df (i : Int).toNat).toInt = c)) = zz (decide (isMk T i c)) from congrArg zz (decide_eq_decide.mpr e)]
  exact x_isMarkT hd k (by omega) hc (fun j => by have := a5 j; omega)
set_option maxRecDepth 20000 in
theorem pm_X4_init : mj_mmof pg_ms 4 = some ((⟨"ArrayCalculator$Op", "<init>", "(IILArrayCalculator$Op;)V"⟩, prog_6_method_1_code, 4, (Option.none : Option Jvm.ClassFile.FieldType)), 4, true, mj_dec prog_6_method_1_code) := rfl
theorem dm_X4_init_0 : mj_dec prog_6_method_1_code 0 = some (.aload_n 0, 1) := by decide +kernel
theorem dm_X4_init_1 : mj_dec prog_6_method_1_code 1 = some (.invokespecial 1, 3) := by decide +kernel
theorem dm_X4_init_4 : mj_dec prog_6_method_1_code 4 = some (.aload_n 0, 1) := by decide +kernel
theorem dm_X4_init_5 : mj_dec prog_6_method_1_code 5 = some (.iload_n 1, 1) := by decide +kernel
theorem dm_X4_init_6 : mj_dec prog_6_method_1_code 6 = some (.putfield 7, 3) := by decide +kernel
theorem dm_X4_init_9 : mj_dec prog_6_method_1_code 9 = some (.aload_n 0, 1) := by decide +kernel
theorem dm_X4_init_10 : mj_dec prog_6_method_1_code 10 = some (.iload_n 2, 1) := by decide +kernel
theorem dm_X4_init_11 : mj_dec prog_6_method_1_code 11 = some (.putfield 13, 3) := by decide +kernel
theorem dm_X4_init_14 : mj_dec prog_6_method_1_code 14 = some (.aload_n 0, 1) := by decide +kernel
theorem dm_X4_init_15 : mj_dec prog_6_method_1_code 15 = some (.aload_n 3, 1) := by decide +kernel
theorem dm_X4_init_16 : mj_dec prog_6_method_1_code 16 = some (.putfield 16, 3) := by decide +kernel
theorem dm_X4_init_19 : mj_dec prog_6_method_1_code 19 = some (.return_, 1) := by decide +kernel
theorem o_init {xt : mj_X} {d p : Nat} {h H : mj_H} {dd pl : Int} {b : Option Nat} (hd : 2 ≤ d) (hp2 : 2 ≤ p) (hp : h[p]? = some (opC 0 0 0 (Int64.ofInt 0) 0 0 0 .null .null .null)) (hH : h.set p (opC dd pl 0 (Int64.ofInt 0) 0 0 0 .null (oV b) .null) = H) : pgN xt d 4 [.ref p, ii dd, ii pl, oV b] h (fun h' => h' = H) := by
  refine x_enter pm_X4_init (L0 := [(0, .ref p), (1, ii dd), (2, ii pl), (3, oV b)]) (by cases b <;> rfl) (by cases b <;> exact Nat.le_of_ble_eq_true rfl) (by omega) ?_
  refine me1 (pc' := 1) (L' := [(0, .ref p), (1, ii dd), (2, ii pl), (3, oV b)]) (S' := [.ref p]) dm_X4_init_0 rfl rfl rfl rfl ?_
  refine me4o (pc' := 4) (rest := []) dm_X4_init_1 rfl rfl (by omega) rfl rfl rfl ?_
  refine me1 (pc' := 5) (L' := [(0, .ref p), (1, ii dd), (2, ii pl), (3, oV b)]) (S' := [.ref p]) dm_X4_init_4 rfl rfl rfl rfl ?_
  refine me1 (pc' := 6) (L' := [(0, .ref p), (1, ii dd), (2, ii pl), (3, oV b)]) (S' := [ii dd, .ref p]) dm_X4_init_5 rfl rfl rfl rfl ?_
  refine me3 (pc' := 9) (S' := []) (h1 := (h).set p (cO 4 [ii dd, ii 0, ii 0, .long (Int64.ofInt 0), ii 0, ii 0, ii 0, .null, .null, .null])) dm_X4_init_6 (g_put (fs' := [ii dd, ii 0, ii 0, .long (Int64.ofInt 0), ii 0, ii 0, ii 0, .null, .null, .null]) hp rfl rfl rfl (by simp) rfl (by decide) (fun _ => rfl) (by omega)) rfl rfl rfl ?_
  refine me1 (pc' := 10) (L' := [(0, .ref p), (1, ii dd), (2, ii pl), (3, oV b)]) (S' := [.ref p]) dm_X4_init_9 rfl rfl rfl rfl ?_
  refine me1 (pc' := 11) (L' := [(0, .ref p), (1, ii dd), (2, ii pl), (3, oV b)]) (S' := [ii pl, .ref p]) dm_X4_init_10 rfl rfl rfl rfl ?_
  refine me3 (pc' := 14) (S' := []) (h1 := (h).set p (cO 4 [ii dd, ii pl, ii 0, .long (Int64.ofInt 0), ii 0, ii 0, ii 0, .null, .null, .null])) dm_X4_init_11 (g_put (fs' := [ii dd, ii pl, ii 0, .long (Int64.ofInt 0), ii 0, ii 0, ii 0, .null, .null, .null]) (hl_set (hl_lt hp)) rfl (by rw [List.set_set]) rfl (by simp) rfl (by decide) (fun _ => rfl) (by omega)) rfl rfl rfl ?_
  refine me1 (pc' := 15) (L' := [(0, .ref p), (1, ii dd), (2, ii pl), (3, oV b)]) (S' := [.ref p]) dm_X4_init_14 rfl rfl rfl rfl ?_
  refine me1 (pc' := 16) (L' := [(0, .ref p), (1, ii dd), (2, ii pl), (3, oV b)]) (S' := [oV b, .ref p]) dm_X4_init_15 (by cases b <;> rfl) rfl rfl rfl ?_
  refine me3 (pc' := 19) (S' := []) (h1 := (h).set p (cO 4 [ii dd, ii pl, ii 0, .long (Int64.ofInt 0), ii 0, ii 0, ii 0, .null, oV b, .null])) dm_X4_init_16 (g_put (fs' := [ii dd, ii pl, ii 0, .long (Int64.ofInt 0), ii 0, ii 0, ii 0, .null, oV b, .null]) (hl_set (hl_lt hp)) rfl (by rw [List.set_set]) rfl (by simp) (oV_fit _ _) (by decide) (fun _ => rfl) (by omega)) rfl rfl rfl ?_
  refine y_ret (r := none) dm_X4_init_19 rfl rfl rfl ?_
  exact ⟨rfl, hH⟩
set_option maxRecDepth 20000 in
theorem pm_X7_fail : mj_mmof pg_ms 38 = some ((⟨"ArrayCalculator$Reader", "fail", "()LArrayCalculator$Op;"⟩, prog_9_method_7_code, 1, (Option.some (Jvm.ClassFile.FieldType.object "ArrayCalculator$Op"))), 7, false, mj_dec prog_9_method_7_code) := rfl
theorem dm_X7_fail_0 : mj_dec prog_9_method_7_code 0 = some (.aload_n 0, 1) := by decide +kernel
theorem dm_X7_fail_1 : mj_dec prog_9_method_7_code 1 = some (.aload_n 0, 1) := by decide +kernel
theorem dm_X7_fail_2 : mj_dec prog_9_method_7_code 2 = some (.getfield 9, 3) := by decide +kernel
theorem dm_X7_fail_5 : mj_dec prog_9_method_7_code 5 = some (.aload_n 0, 1) := by decide +kernel
theorem dm_X7_fail_6 : mj_dec prog_9_method_7_code 6 = some (.getfield 38, 3) := by decide +kernel
theorem dm_X7_fail_9 : mj_dec prog_9_method_7_code 9 = some (.invokevirtual 81, 3) := by decide +kernel
theorem dm_X7_fail_12 : mj_dec prog_9_method_7_code 12 = some (.putfield 24, 3) := by decide +kernel
theorem dm_X7_fail_15 : mj_dec prog_9_method_7_code 15 = some (.aconst_null, 1) := by decide +kernel
theorem dm_X7_fail_16 : mj_dec prog_9_method_7_code 16 = some (.areturn, 1) := by decide +kernel
theorem d_fail {xt : mj_X} {d mk ln i : Nat} {T : Nat → Tok} {wr ls : Int} {nm : Int64} {st tl : Value} {h : mj_H} (hd : 2 ≤ d) (hK : TOKS T mk ln) (hT : TT h T mk ln) (h13 : h[13]? = some (rdC (i : Int) wr ls nm st tl)) {H : mj_H} (hi : i ≤ mk) (hH : h.set 13 (rdC (i : Int) (tqP (T i) : Int) ls nm st tl) = H) : pgV xt d 38 [.ref 13] h (fun x h' => x = .null ∧ h' = H) := by
  obtain ⟨le_, gd, sf, pf, bf, df, hk9, -, -, -, -, -, -⟩ := id hT
  have h9 := hk9.1
  have hmk200 := hK.1
  refine x_enter pm_X7_fail (L0 := [(0, .ref 13)]) rfl (Nat.le_of_ble_eq_true rfl) (by omega) ?_
  refine me1 (pc' := 1) (L' := [(0, .ref 13)]) (S' := [.ref 13]) dm_X7_fail_0 rfl rfl rfl rfl ?_
  refine me1 (pc' := 2) (L' := [(0, .ref 13)]) (S' := [.ref 13, .ref 13]) dm_X7_fail_1 rfl rfl rfl rfl ?_
  refine me3 (pc' := 5) (S' := [.ref 9, .ref 13]) dm_X7_fail_2 (g_get (v := .ref 9) h13 rfl rfl (by decide)) rfl rfl rfl ?_
  refine me1 (pc' := 6) (L' := [(0, .ref 13)]) (S' := [.ref 13, .ref 9, .ref 13]) dm_X7_fail_5 rfl rfl rfl rfl ?_
  refine me3 (pc' := 9) (S' := [ii (i : Int), .ref 9, .ref 13]) dm_X7_fail_6 (g_get (v := ii (i : Int)) h13 rfl rfl (by decide)) rfl rfl rfl ?_
  refine x_cp (pc' := 12) (v := ii (tqP (T i) : Int)) (rest := [.ref 13]) dm_X7_fail_9 rfl (g_inv (As := [ii (i : Int)]) (S := [.ref 13]) h9 rfl rfl rfl (by decide)) rfl rfl rfl (tt_place (i := i) (by omega) hK hT (by omega)) ?_
  refine me3 (pc' := 15) (S' := []) (h1 := (h).set 13 (cO 7 [.ref 9, ii (i : Int), ii (tqP (T i) : Int), ii ls, .long nm, st, tl])) dm_X7_fail_12 (g_put (fs' := [.ref 9, ii (i : Int), ii (tqP (T i) : Int), ii ls, .long nm, st, tl]) h13 rfl rfl rfl (by simp) rfl (by decide) (fun z => by cases z) (by decide)) rfl rfl rfl ?_
  refine me0 (pc' := 16) (S' := [.null]) dm_X7_fail_15 rfl rfl rfl rfl ?_
  refine y_ret (r := some (.null)) dm_X7_fail_16 rfl rfl rfl ?_
  exact ⟨_, rfl, rfl, hH⟩
set_option maxRecDepth 20000 in
theorem pm_X7_skip : mj_mmof pg_ms 53 = some ((⟨"ArrayCalculator$Reader", "skip", "(I)Z"⟩, prog_9_method_8_code, 2, (Option.some Jvm.ClassFile.FieldType.boolean)), 7, false, mj_dec prog_9_method_8_code) := rfl
theorem dm_X7_skip_0 : mj_dec prog_9_method_8_code 0 = some (.aload_n 0, 1) := by decide +kernel
theorem dm_X7_skip_1 : mj_dec prog_9_method_8_code 1 = some (.getfield 9, 3) := by decide +kernel
theorem dm_X7_skip_4 : mj_dec prog_9_method_8_code 4 = some (.aload_n 0, 1) := by decide +kernel
theorem dm_X7_skip_5 : mj_dec prog_9_method_8_code 5 = some (.getfield 38, 3) := by decide +kernel
theorem dm_X7_skip_8 : mj_dec prog_9_method_8_code 8 = some (.iload_n 1, 1) := by decide +kernel
theorem dm_X7_skip_9 : mj_dec prog_9_method_8_code 9 = some (.invokevirtual 84, 3) := by decide +kernel
theorem dm_X7_skip_12 : mj_dec prog_9_method_8_code 12 = some (.ifCond .eq 15, 3) := by decide +kernel
theorem dm_X7_skip_15 : mj_dec prog_9_method_8_code 15 = some (.aload_n 0, 1) := by decide +kernel
theorem dm_X7_skip_16 : mj_dec prog_9_method_8_code 16 = some (.dup, 1) := by decide +kernel
theorem dm_X7_skip_17 : mj_dec prog_9_method_8_code 17 = some (.getfield 38, 3) := by decide +kernel
theorem dm_X7_skip_20 : mj_dec prog_9_method_8_code 20 = some (.iconst 1, 1) := by decide +kernel
theorem dm_X7_skip_21 : mj_dec prog_9_method_8_code 21 = some (.iadd, 1) := by decide +kernel
theorem dm_X7_skip_22 : mj_dec prog_9_method_8_code 22 = some (.putfield 38, 3) := by decide +kernel
theorem dm_X7_skip_25 : mj_dec prog_9_method_8_code 25 = some (.iconst 1, 1) := by decide +kernel
theorem dm_X7_skip_26 : mj_dec prog_9_method_8_code 26 = some (.ireturn, 1) := by decide +kernel
theorem d_skipT {xt : mj_X} {d mk ln i : Nat} {T : Nat → Tok} {wr ls : Int} {nm : Int64} {st tl : Value} {h : mj_H} (hd : 2 ≤ d) (hK : TOKS T mk ln) (hT : TT h T mk ln) (h13 : h[13]? = some (rdC (i : Int) wr ls nm st tl)) {H : mj_H} {c : Int} (hi : i ≤ mk) (hc : -2147483648 ≤ c ∧ c ≤ 2147483647) (hmk : isMk T i c) (hH : h.set 13 (rdC ((i + 1 : Nat) : Int) wr ls nm st tl) = H) : pgV xt d 53 [.ref 13, ii c] h (fun x h' => x = ii 1 ∧ h' = H) := by
  obtain ⟨le_, gd, sf, pf, bf, df, hk9, -, -, -, -, -, -⟩ := id hT
  have h9 := hk9.1
  have hmk200 := hK.1
  refine x_enter pm_X7_skip (L0 := [(0, .ref 13), (1, ii c)]) rfl (Nat.le_of_ble_eq_true rfl) (by omega) ?_
  refine me1 (pc' := 1) (L' := [(0, .ref 13), (1, ii c)]) (S' := [.ref 13]) dm_X7_skip_0 rfl rfl rfl rfl ?_
  refine me3 (pc' := 4) (S' := [.ref 9]) dm_X7_skip_1 (g_get (v := .ref 9) h13 rfl rfl (by decide)) rfl rfl rfl ?_
  refine me1 (pc' := 5) (L' := [(0, .ref 13), (1, ii c)]) (S' := [.ref 13, .ref 9]) dm_X7_skip_4 rfl rfl rfl rfl ?_
  refine me3 (pc' := 8) (S' := [ii (i : Int), .ref 9]) dm_X7_skip_5 (g_get (v := ii (i : Int)) h13 rfl rfl (by decide)) rfl rfl rfl ?_
  refine me1 (pc' := 9) (L' := [(0, .ref 13), (1, ii c)]) (S' := [ii c, ii (i : Int), .ref 9]) dm_X7_skip_8 rfl rfl rfl rfl ?_
  refine x_cp (pc' := 12) (v := zz (decide (isMk T i c))) (rest := []) dm_X7_skip_9 rfl (g_inv (As := [ii (i : Int), ii c]) (S := []) h9 rfl rfl rfl (by decide)) rfl rfl rfl (tt_mark (i := i) (by omega) hK hT (by omega) (by omega)) ?_
  refine y_zeq (c := decide (isMk T i c)) (t := 27) (pc' := 15) dm_X7_skip_12 rfl rfl (fun hb1 => ?_) (fun hb1 => ?_)
  · replace hb1 := dF hb1; exact absurd hb1 (by exact not_not_intro hmk)
  · replace hb1 := dT hb1
    refine me1 (pc' := 16) (L' := [(0, .ref 13), (1, ii c)]) (S' := [.ref 13]) dm_X7_skip_15 rfl rfl rfl rfl ?_
    refine me0 (pc' := 17) (S' := [.ref 13, .ref 13]) dm_X7_skip_16 rfl rfl rfl rfl ?_
    refine me3 (pc' := 20) (S' := [ii (i : Int), .ref 13]) dm_X7_skip_17 (g_get (v := ii (i : Int)) h13 rfl rfl (by decide)) rfl rfl rfl ?_
    refine me0 (pc' := 21) (S' := [ii 1, ii (i : Int), .ref 13]) dm_X7_skip_20 rfl rfl rfl rfl ?_
    refine y_iadd (a := (i : Int)) (b := 1) dm_X7_skip_21 (pc' := 22) rfl ?_
    refine pg_st (S' := [ii ((i + 1 : Nat) : Int), .ref 13]) (congrArg (fun z => ii z :: [.ref 13]) (by push_cast; rfl)) ?_
    refine me3 (pc' := 25) (S' := []) (h1 := (h).set 13 (cO 7 [.ref 9, ii ((i + 1 : Nat) : Int), ii wr, ii ls, .long nm, st, tl])) dm_X7_skip_22 (g_put (fs' := [.ref 9, ii ((i + 1 : Nat) : Int), ii wr, ii ls, .long nm, st, tl]) h13 rfl rfl rfl (by simp) rfl (by decide) (fun z => by cases z) (by decide)) rfl rfl rfl ?_
    refine me0 (pc' := 26) (S' := [ii 1]) dm_X7_skip_25 rfl rfl rfl rfl ?_
    refine y_ret (r := some (ii 1)) dm_X7_skip_26 rfl rfl rfl ?_
    exact ⟨_, rfl, rfl, hH⟩
theorem dm_X7_skip_27 : mj_dec prog_9_method_8_code 27 = some (.aload_n 0, 1) := by decide +kernel
theorem dm_X7_skip_28 : mj_dec prog_9_method_8_code 28 = some (.aload_n 0, 1) := by decide +kernel
theorem dm_X7_skip_29 : mj_dec prog_9_method_8_code 29 = some (.getfield 9, 3) := by decide +kernel
theorem dm_X7_skip_32 : mj_dec prog_9_method_8_code 32 = some (.aload_n 0, 1) := by decide +kernel
theorem dm_X7_skip_33 : mj_dec prog_9_method_8_code 33 = some (.getfield 38, 3) := by decide +kernel
theorem dm_X7_skip_36 : mj_dec prog_9_method_8_code 36 = some (.invokevirtual 81, 3) := by decide +kernel
theorem dm_X7_skip_39 : mj_dec prog_9_method_8_code 39 = some (.putfield 24, 3) := by decide +kernel
theorem dm_X7_skip_42 : mj_dec prog_9_method_8_code 42 = some (.iconst 0, 1) := by decide +kernel
theorem dm_X7_skip_43 : mj_dec prog_9_method_8_code 43 = some (.ireturn, 1) := by decide +kernel
theorem d_skipF {xt : mj_X} {d mk ln i : Nat} {T : Nat → Tok} {wr ls : Int} {nm : Int64} {st tl : Value} {h : mj_H} (hd : 2 ≤ d) (hK : TOKS T mk ln) (hT : TT h T mk ln) (h13 : h[13]? = some (rdC (i : Int) wr ls nm st tl)) {H : mj_H} {c : Int} (hi : i ≤ mk) (hc : -2147483648 ≤ c ∧ c ≤ 2147483647) (hmk : ¬ isMk T i c) (hH : h.set 13 (rdC (i : Int) (tqP (T i) : Int) ls nm st tl) = H) : pgV xt d 53 [.ref 13, ii c] h (fun x h' => x = ii 0 ∧ h' = H) := by
  obtain ⟨le_, gd, sf, pf, bf, df, hk9, -, -, -, -, -, -⟩ := id hT
  have h9 := hk9.1
  have hmk200 := hK.1
  refine x_enter pm_X7_skip (L0 := [(0, .ref 13), (1, ii c)]) rfl (Nat.le_of_ble_eq_true rfl) (by omega) ?_
  refine me1 (pc' := 1) (L' := [(0, .ref 13), (1, ii c)]) (S' := [.ref 13]) dm_X7_skip_0 rfl rfl rfl rfl ?_
  refine me3 (pc' := 4) (S' := [.ref 9]) dm_X7_skip_1 (g_get (v := .ref 9) h13 rfl rfl (by decide)) rfl rfl rfl ?_
  refine me1 (pc' := 5) (L' := [(0, .ref 13), (1, ii c)]) (S' := [.ref 13, .ref 9]) dm_X7_skip_4 rfl rfl rfl rfl ?_
  refine me3 (pc' := 8) (S' := [ii (i : Int), .ref 9]) dm_X7_skip_5 (g_get (v := ii (i : Int)) h13 rfl rfl (by decide)) rfl rfl rfl ?_
  refine me1 (pc' := 9) (L' := [(0, .ref 13), (1, ii c)]) (S' := [ii c, ii (i : Int), .ref 9]) dm_X7_skip_8 rfl rfl rfl rfl ?_
  refine x_cp (pc' := 12) (v := zz (decide (isMk T i c))) (rest := []) dm_X7_skip_9 rfl (g_inv (As := [ii (i : Int), ii c]) (S := []) h9 rfl rfl rfl (by decide)) rfl rfl rfl (tt_mark (i := i) (by omega) hK hT (by omega) (by omega)) ?_
  refine y_zeq (c := decide (isMk T i c)) (t := 27) (pc' := 15) dm_X7_skip_12 rfl rfl (fun hb1 => ?_) (fun hb1 => ?_)
  · replace hb1 := dF hb1
    refine me1 (pc' := 28) (L' := [(0, .ref 13), (1, ii c)]) (S' := [.ref 13]) dm_X7_skip_27 rfl rfl rfl rfl ?_
    refine me1 (pc' := 29) (L' := [(0, .ref 13), (1, ii c)]) (S' := [.ref 13, .ref 13]) dm_X7_skip_28 rfl rfl rfl rfl ?_
    refine me3 (pc' := 32) (S' := [.ref 9, .ref 13]) dm_X7_skip_29 (g_get (v := .ref 9) h13 rfl rfl (by decide)) rfl rfl rfl ?_
    refine me1 (pc' := 33) (L' := [(0, .ref 13), (1, ii c)]) (S' := [.ref 13, .ref 9, .ref 13]) dm_X7_skip_32 rfl rfl rfl rfl ?_
    refine me3 (pc' := 36) (S' := [ii (i : Int), .ref 9, .ref 13]) dm_X7_skip_33 (g_get (v := ii (i : Int)) h13 rfl rfl (by decide)) rfl rfl rfl ?_
    refine x_cp (pc' := 39) (v := ii (tqP (T i) : Int)) (rest := [.ref 13]) dm_X7_skip_36 rfl (g_inv (As := [ii (i : Int)]) (S := [.ref 13]) h9 rfl rfl rfl (by decide)) rfl rfl rfl (tt_place (i := i) (by omega) hK hT (by omega)) ?_
    refine me3 (pc' := 42) (S' := []) (h1 := (h).set 13 (cO 7 [.ref 9, ii (i : Int), ii (tqP (T i) : Int), ii ls, .long nm, st, tl])) dm_X7_skip_39 (g_put (fs' := [.ref 9, ii (i : Int), ii (tqP (T i) : Int), ii ls, .long nm, st, tl]) h13 rfl rfl rfl (by simp) rfl (by decide) (fun z => by cases z) (by decide)) rfl rfl rfl ?_
    refine me0 (pc' := 43) (S' := [ii 0]) dm_X7_skip_42 rfl rfl rfl rfl ?_
    refine y_ret (r := some (ii 0)) dm_X7_skip_43 rfl rfl rfl ?_
    exact ⟨_, rfl, rfl, hH⟩
  · replace hb1 := dT hb1; exact absurd hb1 (by exact hmk)
set_option maxRecDepth 20000 in
theorem pm_X7_isDoes : mj_mmof pg_ms 42 = some ((⟨"ArrayCalculator$Reader", "isDoes", "()Z"⟩, prog_9_method_13_code, 1, (Option.some Jvm.ClassFile.FieldType.boolean)), 7, false, mj_dec prog_9_method_13_code) := rfl
theorem dm_X7_isDoes_0 : mj_dec prog_9_method_13_code 0 = some (.aload_n 0, 1) := by decide +kernel
theorem dm_X7_isDoes_1 : mj_dec prog_9_method_13_code 1 = some (.getfield 9, 3) := by decide +kernel
theorem dm_X7_isDoes_4 : mj_dec prog_9_method_13_code 4 = some (.aload_n 0, 1) := by decide +kernel
theorem dm_X7_isDoes_5 : mj_dec prog_9_method_13_code 5 = some (.getfield 38, 3) := by decide +kernel
theorem dm_X7_isDoes_8 : mj_dec prog_9_method_13_code 8 = some (.invokevirtual 59, 3) := by decide +kernel
theorem dm_X7_isDoes_11 : mj_dec prog_9_method_13_code 11 = some (.iconst 5, 1) := by decide +kernel
theorem dm_X7_isDoes_12 : mj_dec prog_9_method_13_code 12 = some (.if_icmp .eq 18, 3) := by decide +kernel
theorem dm_X7_isDoes_15 : mj_dec prog_9_method_13_code 15 = some (.aload_n 0, 1) := by decide +kernel
theorem dm_X7_isDoes_16 : mj_dec prog_9_method_13_code 16 = some (.getfield 9, 3) := by decide +kernel
theorem dm_X7_isDoes_19 : mj_dec prog_9_method_13_code 19 = some (.aload_n 0, 1) := by decide +kernel
theorem dm_X7_isDoes_20 : mj_dec prog_9_method_13_code 20 = some (.getfield 38, 3) := by decide +kernel
theorem dm_X7_isDoes_23 : mj_dec prog_9_method_13_code 23 = some (.invokevirtual 59, 3) := by decide +kernel
theorem dm_X7_isDoes_26 : mj_dec prog_9_method_13_code 26 = some (.iconst 4, 1) := by decide +kernel
theorem dm_X7_isDoes_27 : mj_dec prog_9_method_13_code 27 = some (.if_icmp .ne 7, 3) := by decide +kernel
theorem dm_X7_isDoes_30 : mj_dec prog_9_method_13_code 30 = some (.iconst 1, 1) := by decide +kernel
theorem dm_X7_isDoes_31 : mj_dec prog_9_method_13_code 31 = some (.goto 4, 3) := by decide +kernel
theorem dm_X7_isDoes_34 : mj_dec prog_9_method_13_code 34 = some (.iconst 0, 1) := by decide +kernel
theorem dm_X7_isDoes_35 : mj_dec prog_9_method_13_code 35 = some (.ireturn, 1) := by decide +kernel
theorem d_isDoes {xt : mj_X} {d mk ln i : Nat} {T : Nat → Tok} {wr ls : Int} {nm : Int64} {st tl : Value} {h : mj_H} (hd : 2 ≤ d) (hK : TOKS T mk ln) (hT : TT h T mk ln) (h13 : h[13]? = some (rdC (i : Int) wr ls nm st tl)) (hi : i ≤ mk) : pgP xt d 42 [.ref 13] h (zz (decide (isDs T i))) := by
  obtain ⟨le_, gd, sf, pf, bf, df, hk9, -, -, -, -, -, -⟩ := id hT
  have h9 := hk9.1
  have hmk200 := hK.1
  have c7 := cS_7 T i
  have c8 := cS_r hK i
  refine x_enter pm_X7_isDoes (L0 := [(0, .ref 13)]) rfl (Nat.le_of_ble_eq_true rfl) (by omega) ?_
  refine me1 (pc' := 1) (L' := [(0, .ref 13)]) (S' := [.ref 13]) dm_X7_isDoes_0 rfl rfl rfl rfl ?_
  refine me3 (pc' := 4) (S' := [.ref 9]) dm_X7_isDoes_1 (g_get (v := .ref 9) h13 rfl rfl (by decide)) rfl rfl rfl ?_
  refine me1 (pc' := 5) (L' := [(0, .ref 13)]) (S' := [.ref 13, .ref 9]) dm_X7_isDoes_4 rfl rfl rfl rfl ?_
  refine me3 (pc' := 8) (S' := [ii (i : Int), .ref 9]) dm_X7_isDoes_5 (g_get (v := ii (i : Int)) h13 rfl rfl (by decide)) rfl rfl rfl ?_
  refine x_cp (pc' := 11) (v := ii ((cS T i : Nat) : Int)) (rest := []) dm_X7_isDoes_8 rfl (g_inv (As := [ii (i : Int)]) (S := []) h9 rfl rfl rfl (by decide)) rfl rfl rfl (tt_sort (i := i) (by omega) hK hT (by omega)) ?_
  refine me0 (pc' := 12) (S' := [ii 5, ii ((cS T i : Nat) : Int)]) dm_X7_isDoes_11 rfl rfl rfl rfl ?_
  refine y_2eq (a := ((cS T i : Nat) : Int)) (b := 5) (t := 30) (pc' := 15) dm_X7_isDoes_12 rfl rfl (by omega) (fun hb1 => ?_) (fun hb1 => ?_)
  · refine me0 (pc' := 31) (S' := [ii 1]) dm_X7_isDoes_30 rfl rfl rfl rfl ?_
    refine me2 (pc' := 35) (S' := [ii 1]) dm_X7_isDoes_31 rfl rfl rfl ?_
    refine y_ret (r := some (ii 1)) dm_X7_isDoes_35 rfl rfl rfl ?_
    exact ⟨congrArg some (zt (by omega)), rfl⟩
  · refine me1 (pc' := 16) (L' := [(0, .ref 13)]) (S' := [.ref 13]) dm_X7_isDoes_15 rfl rfl rfl rfl ?_
    refine me3 (pc' := 19) (S' := [.ref 9]) dm_X7_isDoes_16 (g_get (v := .ref 9) h13 rfl rfl (by decide)) rfl rfl rfl ?_
    refine me1 (pc' := 20) (L' := [(0, .ref 13)]) (S' := [.ref 13, .ref 9]) dm_X7_isDoes_19 rfl rfl rfl rfl ?_
    refine me3 (pc' := 23) (S' := [ii (i : Int), .ref 9]) dm_X7_isDoes_20 (g_get (v := ii (i : Int)) h13 rfl rfl (by decide)) rfl rfl rfl ?_
    refine x_cp (pc' := 26) (v := ii ((cS T i : Nat) : Int)) (rest := []) dm_X7_isDoes_23 rfl (g_inv (As := [ii (i : Int)]) (S := []) h9 rfl rfl rfl (by decide)) rfl rfl rfl (tt_sort (i := i) (by omega) hK hT (by omega)) ?_
    refine me0 (pc' := 27) (S' := [ii 4, ii ((cS T i : Nat) : Int)]) dm_X7_isDoes_26 rfl rfl rfl rfl ?_
    refine y_2ne (a := ((cS T i : Nat) : Int)) (b := 4) (t := 34) (pc' := 30) dm_X7_isDoes_27 rfl rfl (by omega) (fun hb2 => ?_) (fun hb2 => ?_)
    · refine me0 (pc' := 35) (S' := [ii 0]) dm_X7_isDoes_34 rfl rfl rfl rfl ?_
      refine y_ret (r := some (ii 0)) dm_X7_isDoes_35 rfl rfl rfl ?_
      exact ⟨congrArg some (zf (by omega)), rfl⟩
    · refine me0 (pc' := 31) (S' := [ii 1]) dm_X7_isDoes_30 rfl rfl rfl rfl ?_
      refine me2 (pc' := 35) (S' := [ii 1]) dm_X7_isDoes_31 rfl rfl rfl ?_
      refine y_ret (r := some (ii 1)) dm_X7_isDoes_35 rfl rfl rfl ?_
      exact ⟨congrArg some (zt (by omega)), rfl⟩
set_option maxRecDepth 20000 in
theorem pm_X7_isIndexed : mj_mmof pg_ms 55 = some ((⟨"ArrayCalculator$Reader", "isIndexed", "()Z"⟩, prog_9_method_16_code, 1, (Option.some Jvm.ClassFile.FieldType.boolean)), 7, false, mj_dec prog_9_method_16_code) := rfl
theorem dm_X7_isIndexed_0 : mj_dec prog_9_method_16_code 0 = some (.aload_n 0, 1) := by decide +kernel
theorem dm_X7_isIndexed_1 : mj_dec prog_9_method_16_code 1 = some (.getfield 9, 3) := by decide +kernel
theorem dm_X7_isIndexed_4 : mj_dec prog_9_method_16_code 4 = some (.aload_n 0, 1) := by decide +kernel
theorem dm_X7_isIndexed_5 : mj_dec prog_9_method_16_code 5 = some (.getfield 38, 3) := by decide +kernel
theorem dm_X7_isIndexed_8 : mj_dec prog_9_method_16_code 8 = some (.invokevirtual 59, 3) := by decide +kernel
theorem dm_X7_isIndexed_11 : mj_dec prog_9_method_16_code 11 = some (.iconst 5, 1) := by decide +kernel
theorem dm_X7_isIndexed_12 : mj_dec prog_9_method_16_code 12 = some (.if_icmp .ne 43, 3) := by decide +kernel
theorem dm_X7_isIndexed_15 : mj_dec prog_9_method_16_code 15 = some (.aload_n 0, 1) := by decide +kernel
theorem dm_X7_isIndexed_16 : mj_dec prog_9_method_16_code 16 = some (.getfield 9, 3) := by decide +kernel
theorem dm_X7_isIndexed_19 : mj_dec prog_9_method_16_code 19 = some (.aload_n 0, 1) := by decide +kernel
theorem dm_X7_isIndexed_20 : mj_dec prog_9_method_16_code 20 = some (.getfield 38, 3) := by decide +kernel
theorem dm_X7_isIndexed_23 : mj_dec prog_9_method_16_code 23 = some (.invokevirtual 41, 3) := by decide +kernel
theorem dm_X7_isIndexed_26 : mj_dec prog_9_method_16_code 26 = some (.ldc2_w 94, 3) := by decide +kernel
theorem dm_X7_isIndexed_29 : mj_dec prog_9_method_16_code 29 = some (.lcmp, 1) := by decide +kernel
theorem dm_X7_isIndexed_30 : mj_dec prog_9_method_16_code 30 = some (.ifCond .ne 25, 3) := by decide +kernel
theorem dm_X7_isIndexed_33 : mj_dec prog_9_method_16_code 33 = some (.aload_n 0, 1) := by decide +kernel
theorem dm_X7_isIndexed_34 : mj_dec prog_9_method_16_code 34 = some (.getfield 9, 3) := by decide +kernel
theorem dm_X7_isIndexed_37 : mj_dec prog_9_method_16_code 37 = some (.aload_n 0, 1) := by decide +kernel
theorem dm_X7_isIndexed_38 : mj_dec prog_9_method_16_code 38 = some (.getfield 38, 3) := by decide +kernel
theorem dm_X7_isIndexed_41 : mj_dec prog_9_method_16_code 41 = some (.iconst 1, 1) := by decide +kernel
theorem dm_X7_isIndexed_42 : mj_dec prog_9_method_16_code 42 = some (.iadd, 1) := by decide +kernel
theorem dm_X7_isIndexed_43 : mj_dec prog_9_method_16_code 43 = some (.bipush 40, 2) := by decide +kernel
theorem dm_X7_isIndexed_45 : mj_dec prog_9_method_16_code 45 = some (.invokevirtual 84, 3) := by decide +kernel
theorem dm_X7_isIndexed_48 : mj_dec prog_9_method_16_code 48 = some (.ifCond .eq 7, 3) := by decide +kernel
theorem dm_X7_isIndexed_51 : mj_dec prog_9_method_16_code 51 = some (.iconst 1, 1) := by decide +kernel
theorem dm_X7_isIndexed_52 : mj_dec prog_9_method_16_code 52 = some (.goto 4, 3) := by decide +kernel
theorem dm_X7_isIndexed_55 : mj_dec prog_9_method_16_code 55 = some (.iconst 0, 1) := by decide +kernel
theorem dm_X7_isIndexed_56 : mj_dec prog_9_method_16_code 56 = some (.ireturn, 1) := by decide +kernel
theorem d_isIndexed {xt : mj_X} {d mk ln i : Nat} {T : Nat → Tok} {wr ls : Int} {nm : Int64} {st tl : Value} {h : mj_H} (hd : 2 ≤ d) (hK : TOKS T mk ln) (hT : TT h T mk ln) (h13 : h[13]? = some (rdC (i : Int) wr ls nm st tl)) (hi : i ≤ mk) : pgP xt d 55 [.ref 13] h (zz (decide (isIx T i))) := by
  obtain ⟨le_, gd, sf, pf, bf, df, hk9, -, -, -, -, -, -⟩ := id hT
  have h9 := hk9.1
  have hmk200 := hK.1
  have c7 := cS_7 T i
  have c8 := cS_r hK i
  have hD := hK.2.2.2.2.2.1 i
  have e64 : (Int64.ofInt (tqD (T i))).toInt = tqD (T i) := n_toL (by omega) (by omega)
  have e65 : (Int64.ofInt 64).toInt = 64 := by decide
  refine x_enter pm_X7_isIndexed (L0 := [(0, .ref 13)]) rfl (Nat.le_of_ble_eq_true rfl) (by omega) ?_
  refine me1 (pc' := 1) (L' := [(0, .ref 13)]) (S' := [.ref 13]) dm_X7_isIndexed_0 rfl rfl rfl rfl ?_
  refine me3 (pc' := 4) (S' := [.ref 9]) dm_X7_isIndexed_1 (g_get (v := .ref 9) h13 rfl rfl (by decide)) rfl rfl rfl ?_
  refine me1 (pc' := 5) (L' := [(0, .ref 13)]) (S' := [.ref 13, .ref 9]) dm_X7_isIndexed_4 rfl rfl rfl rfl ?_
  refine me3 (pc' := 8) (S' := [ii (i : Int), .ref 9]) dm_X7_isIndexed_5 (g_get (v := ii (i : Int)) h13 rfl rfl (by decide)) rfl rfl rfl ?_
  refine x_cp (pc' := 11) (v := ii ((cS T i : Nat) : Int)) (rest := []) dm_X7_isIndexed_8 rfl (g_inv (As := [ii (i : Int)]) (S := []) h9 rfl rfl rfl (by decide)) rfl rfl rfl (tt_sort (i := i) (by omega) hK hT (by omega)) ?_
  refine me0 (pc' := 12) (S' := [ii 5, ii ((cS T i : Nat) : Int)]) dm_X7_isIndexed_11 rfl rfl rfl rfl ?_
  refine y_2ne (a := ((cS T i : Nat) : Int)) (b := 5) (t := 55) (pc' := 15) dm_X7_isIndexed_12 rfl rfl (by omega) (fun hb1 => ?_) (fun hb1 => ?_)
  · refine me0 (pc' := 56) (S' := [ii 0]) dm_X7_isIndexed_55 rfl rfl rfl rfl ?_
    refine y_ret (r := some (ii 0)) dm_X7_isIndexed_56 rfl rfl rfl ?_
    exact ⟨congrArg some (zf (by omega)), rfl⟩
  · refine me1 (pc' := 16) (L' := [(0, .ref 13)]) (S' := [.ref 13]) dm_X7_isIndexed_15 rfl rfl rfl rfl ?_
    refine me3 (pc' := 19) (S' := [.ref 9]) dm_X7_isIndexed_16 (g_get (v := .ref 9) h13 rfl rfl (by decide)) rfl rfl rfl ?_
    refine me1 (pc' := 20) (L' := [(0, .ref 13)]) (S' := [.ref 13, .ref 9]) dm_X7_isIndexed_19 rfl rfl rfl rfl ?_
    refine me3 (pc' := 23) (S' := [ii (i : Int), .ref 9]) dm_X7_isIndexed_20 (g_get (v := ii (i : Int)) h13 rfl rfl (by decide)) rfl rfl rfl ?_
    refine x_cp (pc' := 26) (v := .long (Int64.ofInt (tqD (T i)))) (rest := []) dm_X7_isIndexed_23 rfl (g_inv (As := [ii (i : Int)]) (S := []) h9 rfl rfl rfl (by decide)) rfl rfl rfl (tt_data (i := i) (by omega) hK hT (by omega)) ?_
    refine me3 (pc' := 29) (S' := [.long (Int64.ofInt 64), .long (Int64.ofInt (tqD (T i)))]) dm_X7_isIndexed_26 rfl rfl rfl rfl ?_
    refine y_lne (x := Int64.ofInt (tqD (T i))) (y := Int64.ofInt 64) (t := 55) (pc1 := 30) (pc' := 33) dm_X7_isIndexed_29 rfl dm_X7_isIndexed_30 rfl rfl (fun hb2 => ?_) (fun hb2 => ?_)
    · have hb2i : ¬ (Int64.ofInt (tqD (T i))).toInt = (Int64.ofInt 64).toInt := fun z => hb2 (Int64.toInt_inj.mp z)
      rw [e64, e65] at hb2i
      refine me0 (pc' := 56) (S' := [ii 0]) dm_X7_isIndexed_55 rfl rfl rfl rfl ?_
      refine y_ret (r := some (ii 0)) dm_X7_isIndexed_56 rfl rfl rfl ?_
      exact ⟨congrArg some (zf (by omega)), rfl⟩
    · have hb2i := congrArg Int64.toInt hb2
      rw [e64, e65] at hb2i
      refine me1 (pc' := 34) (L' := [(0, .ref 13)]) (S' := [.ref 13]) dm_X7_isIndexed_33 rfl rfl rfl rfl ?_
      refine me3 (pc' := 37) (S' := [.ref 9]) dm_X7_isIndexed_34 (g_get (v := .ref 9) h13 rfl rfl (by decide)) rfl rfl rfl ?_
      refine me1 (pc' := 38) (L' := [(0, .ref 13)]) (S' := [.ref 13, .ref 9]) dm_X7_isIndexed_37 rfl rfl rfl rfl ?_
      refine me3 (pc' := 41) (S' := [ii (i : Int), .ref 9]) dm_X7_isIndexed_38 (g_get (v := ii (i : Int)) h13 rfl rfl (by decide)) rfl rfl rfl ?_
      refine me0 (pc' := 42) (S' := [ii 1, ii (i : Int), .ref 9]) dm_X7_isIndexed_41 rfl rfl rfl rfl ?_
      refine y_iadd (a := (i : Int)) (b := 1) dm_X7_isIndexed_42 (pc' := 43) rfl ?_
      refine pg_st (S' := [ii ((i + 1 : Nat) : Int), .ref 9]) (congrArg (fun z => ii z :: [.ref 9]) (by push_cast; rfl)) ?_
      refine me0 (pc' := 45) (S' := [ii 40, ii ((i + 1 : Nat) : Int), .ref 9]) dm_X7_isIndexed_43 rfl rfl rfl rfl ?_
      refine x_cp (pc' := 48) (v := zz (decide (isMk T (i + 1) 40))) (rest := []) dm_X7_isIndexed_45 rfl (g_inv (As := [ii ((i + 1 : Nat) : Int), ii 40]) (S := []) h9 rfl rfl rfl (by decide)) rfl rfl rfl (tt_mark (i := i + 1) (by omega) hK hT (by omega) (by omega)) ?_
      refine y_zeq (c := decide (isMk T (i + 1) 40)) (t := 55) (pc' := 51) dm_X7_isIndexed_48 rfl rfl (fun hb3 => ?_) (fun hb3 => ?_)
      · replace hb3 := dF hb3
        refine me0 (pc' := 56) (S' := [ii 0]) dm_X7_isIndexed_55 rfl rfl rfl rfl ?_
        refine y_ret (r := some (ii 0)) dm_X7_isIndexed_56 rfl rfl rfl ?_
        exact ⟨congrArg some (zf (by omega)), rfl⟩
      · replace hb3 := dT hb3
        refine me0 (pc' := 52) (S' := [ii 1]) dm_X7_isIndexed_51 rfl rfl rfl rfl ?_
        refine me2 (pc' := 56) (S' := [ii 1]) dm_X7_isIndexed_52 rfl rfl rfl ?_
        refine y_ret (r := some (ii 1)) dm_X7_isIndexed_56 rfl rfl rfl ?_
        exact ⟨congrArg some (zt (by omega)), rfl⟩
