/-! the tokens of a line are such as reading wants -/
theorem sobI_b {c : Int} (h0 : 0 ≤ c) (h1 : c ≤ 255) (h : sobI c ≠ 0) : 1 ≤ c ∧ c ≤ 126 := by
  have a : ∀ n : Nat, n < 256 → sobI (n : Int) ≠ 0 → 1 ≤ n ∧ n ≤ 126 := by decide +kernel
  have b := a c.toNat (by omega) (by rw [show ((c.toNat : Nat) : Int) = c by omega]; exact h)
  omega
section tkBr
variable {bf : Nat → Int} {ln : Nat} {fn gn : Int → Bool} {p bh : Nat}
theorem tkB_8 (h : tqS (tkB bf ln fn p bh) = 8) : tkB bf ln gn p bh = tkB bf ln fn p bh := by
  by_cases z : (isDgI (bf p) ∨ isLtI (bf p)) ∧ (bh = 1 ∨ bh = 3 ∨ bh = 4)
  · rw [tkB_bad z.1 z.2, tkB_bad z.1 z.2]
  · refine tkB_fn (fun x => ?_)
    rw [tkB_lt x (fun y => z ⟨Or.inr x, y⟩)] at h
    have h : (if fn (ckI bf p (rnL ltB bf ln 8 p)) = true then 4 else 3) = 8 := h
    split at h <;> omega
theorem tkB_d8 (h : tqS (tkB bf ln fn p bh) = 8) : tqD (tkB bf ln fn p bh) = 0 := by
  by_cases z : isDgI (bf p) ∨ isLtI (bf p)
  · by_cases y : bh = 1 ∨ bh = 3 ∨ bh = 4
    · rw [tkB_bad z y]
    · by_cases x : isDgI (bf p)
      · rw [tkB_dg x y] at h; exact absurd (show (1 : Nat) = 8 from h) (by decide)
      · rw [tkB_lt (by omega) y] at h
        have h : (if fn (ckI bf p (rnL ltB bf ln 8 p)) = true then 4 else 3) = 8 := h
        exfalso
        split at h <;> omega
  · by_cases y : bf p = 95 ∧ isDgI (byA bf ln ((p + 1 : Nat) : Int))
    · rw [tkB_ng y.1 y.2] at h; exact absurd (show (1 : Nat) = 8 from h) (by decide)
    · by_cases x : bf p = 39 ∧ ¬ (bh = 4 ∨ bh = 5 ∨ bh = 6)
      · by_cases w : 0 < rnL txB bf ln 60 (p + 1) ∧ byA bf ln ((p + 1 + rnL txB bf ln 60 (p + 1) : Nat) : Int) = 39
        · rw [tkB_tx x.1 x.2 w] at h; exact absurd (show (2 : Nat) = 8 from h) (by decide)
        · rw [tkB_tn x.1 x.2 w]
      · by_cases w : sobI (bf p) = 0
        · rw [tkB_no z y x w]
        · rw [tkB_sg z y x w] at h
          have s := sobI_r (bf p)
          exact absurd (show (sobI (bf p)).toNat = 8 from h) (by omega)
/-- the cases of a token -/
theorem tkB_c (hbf : ∀ j, 0 ≤ bf j ∧ bf j ≤ 255) (hp : p < ln) : (tqS (tkB bf ln fn p bh) = 2 → 1 ≤ tqD (tkB bf ln fn p bh) ∧ tqD (tkB bf ln fn p bh) ≤ 60 ∧ (p : Int) + tqD (tkB bf ln fn p bh) + 2 ≤ tqE (tkB bf ln fn p bh) ∧ ∀ k : Nat, ((32 ≤ tqX (tkB bf ln fn p bh) k ∧ tqX (tkB bf ln fn p bh) k ≤ 126) ∨ tqD (tkB bf ln fn p bh) ≤ (k : Int)) ∧ ((k : Int) < tqD (tkB bf ln fn p bh) → p + 1 + k < ln ∧ bf (p + 1 + k) = tqX (tkB bf ln fn p bh) k)) ∧ (tqS (tkB bf ln fn p bh) = 5 ∨ tqS (tkB bf ln fn p bh) = 6 ∨ tqS (tkB bf ln fn p bh) = 7 → 1 ≤ tqD (tkB bf ln fn p bh) ∧ tqD (tkB bf ln fn p bh) ≤ 126) ∧ (tqS (tkB bf ln fn p bh) = 1 → (¬ (bh = 1 ∨ bh = 3 ∨ bh = 4) ∧ p + 1 ≤ tqE (tkB bf ln fn p bh)) ∨ p + 2 ≤ tqE (tkB bf ln fn p bh)) := by
  have no : ∀ {n : Nat} {P : Prop}, n = 8 → (n = 2 → P) := fun a b => by omega
  by_cases z : isDgI (bf p) ∨ isLtI (bf p)
  · by_cases y : bh = 1 ∨ bh = 3 ∨ bh = 4
    · rw [tkB_bad z y]
      exact ⟨fun h => absurd (show (8 : Nat) = 2 from h) (by decide), fun h => absurd (show (8 : Nat) = 5 ∨ (8 : Nat) = 6 ∨ (8 : Nat) = 7 from h) (by decide), fun h => absurd (show (8 : Nat) = 1 from h) (by decide)⟩
    · by_cases x : isDgI (bf p)
      · rw [tkB_dg x y]
        refine ⟨fun h => absurd (show (1 : Nat) = 2 from h) (by decide), fun h => absurd (show (1 : Nat) = 5 ∨ (1 : Nat) = 6 ∨ (1 : Nat) = 7 from h) (by decide), fun _ => Or.inl ⟨y, ?_⟩⟩
        have b : 0 < rnL dgB bf ln 18 p := by
          show 0 < (if p < ln ∧ dgB (bf p) = true then rnL dgB bf ln 17 (p + 1) + 1 else 0)
          rw [if_pos ⟨hp, decide_eq_true x⟩]; omega
        show p + 1 ≤ p + rnL dgB bf ln 18 p
        omega
      · have x2 : isLtI (bf p) := by omega
        rw [tkB_lt x2 y]
        have e : ∀ c : Nat, c = 2 ∨ c = 5 ∨ c = 6 ∨ c = 7 ∨ c = 1 → (if fn (ckI bf p (rnL ltB bf ln 8 p)) = true then 4 else 3) ≠ c := fun c hc => by split <;> omega
        exact ⟨fun h => absurd h (e 2 (by decide)), fun h => h.elim (fun h => absurd h (e 5 (by decide))) (fun h => h.elim (fun h => absurd h (e 6 (by decide))) (fun h => absurd h (e 7 (by decide)))), fun h => absurd h (e 1 (by decide))⟩
  · by_cases y : bf p = 95 ∧ isDgI (byA bf ln ((p + 1 : Nat) : Int))
    · rw [tkB_ng y.1 y.2]
      refine ⟨fun h => absurd (show (1 : Nat) = 2 from h) (by decide), fun h => absurd (show (1 : Nat) = 5 ∨ (1 : Nat) = 6 ∨ (1 : Nat) = 7 from h) (by decide), fun _ => Or.inr ?_⟩
      have hi : p + 1 < ln := Classical.byContradiction fun w => by have := byA_out (bf := bf) (Nat.le_of_not_lt w); omega
      have hd := y.2
      rw [byA_in hi] at hd
      have b : 0 < rnL dgB bf ln 18 (p + 1) := by
        show 0 < (if p + 1 < ln ∧ dgB (bf (p + 1)) = true then rnL dgB bf ln 17 (p + 1 + 1) + 1 else 0)
        rw [if_pos ⟨hi, decide_eq_true hd⟩]; omega
      show p + 2 ≤ p + 1 + rnL dgB bf ln 18 (p + 1)
      omega
    · by_cases x : bf p = 39 ∧ ¬ (bh = 4 ∨ bh = 5 ∨ bh = 6)
      · by_cases w : 0 < rnL txB bf ln 60 (p + 1) ∧ byA bf ln ((p + 1 + rnL txB bf ln 60 (p + 1) : Nat) : Int) = 39
        · rw [tkB_tx x.1 x.2 w]
          refine ⟨fun _ => ⟨?_, ?_, ?_, fun k => ⟨?_, fun hk => ?_⟩⟩, fun h => absurd (show (2 : Nat) = 5 ∨ (2 : Nat) = 6 ∨ (2 : Nat) = 7 from h) (by decide), fun h => absurd (show (2 : Nat) = 1 from h) (by decide)⟩
          · show (1 : Int) ≤ ((rnL txB bf ln 60 (p + 1) : Nat) : Int); omega
          · show ((rnL txB bf ln 60 (p + 1) : Nat) : Int) ≤ 60; have := (rnL_le (P := txB) (f := bf) (ln := ln) 60 (p + 1)).1; omega
          · show (p : Int) + ((rnL txB bf ln 60 (p + 1) : Nat) : Int) + 2 ≤ ((p + 1 + rnL txB bf ln 60 (p + 1) + 1 : Nat) : Int); omega
          · show (32 ≤ bf (p + 1 + k) ∧ bf (p + 1 + k) ≤ 126) ∨ ((rnL txB bf ln 60 (p + 1) : Nat) : Int) ≤ (k : Int)
            by_cases u : k < rnL txB bf ln 60 (p + 1)
            · have w9 := of_decide_eq_true (rnL_run (P := txB) (f := bf) (ln := ln) 60 (p + 1) (p + 1 + k) (by omega) (by omega)).2
              exact Or.inl ⟨w9.1, w9.2.1⟩
            · exact Or.inr (by omega)
          · have hk : (k : Int) < ((rnL txB bf ln 60 (p + 1) : Nat) : Int) := hk
            exact ⟨(rnL_run (P := txB) (f := bf) (ln := ln) 60 (p + 1) (p + 1 + k) (by omega) (by omega)).1, rfl⟩
        · rw [tkB_tn x.1 x.2 w]
          exact ⟨fun h => absurd (show (8 : Nat) = 2 from h) (by decide), fun h => absurd (show (8 : Nat) = 5 ∨ (8 : Nat) = 6 ∨ (8 : Nat) = 7 from h) (by decide), fun h => absurd (show (8 : Nat) = 1 from h) (by decide)⟩
      · by_cases w : sobI (bf p) = 0
        · rw [tkB_no z y x w]
          exact ⟨fun h => absurd (show (8 : Nat) = 2 from h) (by decide), fun h => absurd (show (8 : Nat) = 5 ∨ (8 : Nat) = 6 ∨ (8 : Nat) = 7 from h) (by decide), fun h => absurd (show (8 : Nat) = 1 from h) (by decide)⟩
        · rw [tkB_sg z y x w]
          have s := sobI_r (bf p)
          have b := sobI_b (hbf p).1 (hbf p).2 w
          exact ⟨fun h => absurd (show (sobI (bf p)).toNat = 2 from h) (by omega), fun _ => b, fun h => absurd (show (sobI (bf p)).toNat = 1 from h) (by omega)⟩
end tkBr
section tkIr
variable {bf : Nat → Int} {ln : Nat} {F : Nat → Int → Bool}
theorem skB_r {a : Nat} (h : a ≤ ln) : a ≤ skB bf ln a ∧ skB bf ln a ≤ ln := by
  unfold skB
  have := (rnL_le (P := blB) (f := bf) (ln := ln) ln a).2 h
  omega
theorem tkI_p (i : Nat) : tqP (tkI bf ln F i) = skB bf ln (tkQ bf ln F i).1 := by
  unfold tkI tkA
  split
  · exact tkB_p
  · rfl
theorem tkI_in {i : Nat} (h : skB bf ln (tkQ bf ln F i).1 < ln) : tkI bf ln F i = tkB bf ln (F i) (skB bf ln (tkQ bf ln F i).1) (if skB bf ln (tkQ bf ln F i).1 = (tkQ bf ln F i).1 then (tkQ bf ln F i).2 else 0) := by
  unfold tkI tkA; rw [if_pos h]
theorem tkI_out {i : Nat} (h : ¬ skB bf ln (tkQ bf ln F i).1 < ln) : tkI bf ln F i = (0, skB bf ln (tkQ bf ln F i).1, 0, 0, bf, skB bf ln (tkQ bf ln F i).1) := by
  unfold tkI tkA; rw [if_neg h]
/-- a token that is one: its end, and where the next one is read from -/
theorem tkI_e {i : Nat} (h : tqS (tkI bf ln F i) ≠ 0 ∧ tqS (tkI bf ln F i) ≠ 8) : skB bf ln (tkQ bf ln F i).1 < ln ∧ tqP (tkI bf ln F i) < tqE (tkI bf ln F i) ∧ tqE (tkI bf ln F i) ≤ ln ∧ 1 ≤ tqS (tkI bf ln F i) ∧ tqS (tkI bf ln F i) ≤ 7 ∧ tkQ bf ln F (i + 1) = (tqE (tkI bf ln F i), tqS (tkI bf ln F i)) := by
  by_cases z : skB bf ln (tkQ bf ln F i).1 < ln
  · have e := tkI_in z
    have b := tkB_e (fn := F i) (bh := if skB bf ln (tkQ bf ln F i).1 = (tkQ bf ln F i).1 then (tkQ bf ln F i).2 else 0) z (by rw [← e]; exact h.2)
    rw [← e] at b
    refine ⟨z, by rw [b.1]; exact b.2.1, b.2.2.1, b.2.2.2.1, b.2.2.2.2, ?_⟩
    rw [tkQ_s]
    unfold tkN
    rw [if_neg (by omega)]
  · rw [tkI_out z] at h; exact absurd rfl h.1
theorem tkQ_ln (i : Nat) : (tkQ bf ln F i).1 ≤ ln := by
  induction i with
  | zero => exact Nat.zero_le _
  | succ i ih =>
    by_cases z : tqS (tkI bf ln F i) = 0 ∨ tqS (tkI bf ln F i) = 8
    · rw [tkQ_s]; unfold tkN; rw [if_pos z]; exact ih
    · rw [(tkI_e (by omega)).2.2.2.2.2]; exact (tkI_e (by omega)).2.2.1
theorem tkI_stop {i : Nat} (h : tqS (tkI bf ln F i) = 0 ∨ tqS (tkI bf ln F i) = 8) : tkI bf ln F (i + 1) = tkI bf ln F i := by
  have q : tkQ bf ln F (i + 1) = tkQ bf ln F i := by rw [tkQ_s]; unfold tkN; rw [if_pos h]
  by_cases z : skB bf ln (tkQ bf ln F i).1 < ln
  · have e := tkI_in z
    rw [tkI_in (by rw [q]; exact z), q, e]
    refine tkB_8 ?_
    rw [← e]
    rcases h with h | h
    · exfalso
      by_cases y : tqS (tkB bf ln (F i) (skB bf ln (tkQ bf ln F i).1) (if skB bf ln (tkQ bf ln F i).1 = (tkQ bf ln F i).1 then (tkQ bf ln F i).2 else 0)) = 8
      · rw [← e, h] at y; omega
      · have := (tkB_e z y).2.2.2.1; rw [← e, h] at this; omega
    · exact h
  · rw [tkI_out (by rw [q]; exact z), tkI_out z, q]
theorem tkI_TOKS {mk : Nat} (hbf : ∀ j, 0 ≤ bf j ∧ bf j ≤ 255) (hmk : mk ≤ 200) (hln : ln ≤ 200) (hr : ∀ i, i < mk → tqS (tkI bf ln F i) ≠ 0 ∧ tqS (tkI bf ln F i) ≠ 8) (he : tqS (tkI bf ln F mk) = 0 ∨ tqS (tkI bf ln F mk) = 8) : TOKS (tkI bf ln F) mk ln ∧ ∀ i, i < mk → tqS (tkI bf ln F i) = 2 → ∀ k : Nat, (k : Int) < tqD (tkI bf ln F i) → tqP (tkI bf ln F i) + 1 + k < ln ∧ bf (tqP (tkI bf ln F i) + 1 + k) = tqX (tkI bf ln F i) k := by
  have st : ∀ i, mk ≤ i → tkI bf ln F i = tkI bf ln F mk := by
    intro i hi
    induction i with
    | zero => rw [show mk = 0 by omega]
    | succ i ih =>
      by_cases z : mk = i + 1
      · rw [z]
      · have := ih (by omega)
        rw [tkI_stop (by rw [this]; exact he), this]
  have lt : ∀ i, tqS (tkI bf ln F i) ≠ 0 ∧ tqS (tkI bf ln F i) ≠ 8 → i < mk := fun i h => Classical.byContradiction fun z => by rw [st i (by omega)] at h; omega
  have pn : ∀ i, i < mk → tqE (tkI bf ln F i) ≤ tqP (tkI bf ln F (i + 1)) := fun i hi => by
    have e := tkI_e (hr i hi)
    rw [tkI_p (i + 1), e.2.2.2.2.2]
    exact (skB_r e.2.2.1).1
  have cs : ∀ i, i < mk → _ := fun i hi => by
    have e := tkI_e (hr i hi)
    have b := tkB_c (fn := F i) (bh := if skB bf ln (tkQ bf ln F i).1 = (tkQ bf ln F i).1 then (tkQ bf ln F i).2 else 0) hbf e.1
    rw [← tkI_in e.1] at b
    exact b
  refine ⟨⟨hmk, hln, fun i hi => ⟨(tkI_e (hr i hi)).2.2.2.1, (tkI_e (hr i hi)).2.2.2.2.1⟩, st, he, fun i => tkI_d hbf, fun i hi => ?_, fun i hi h2 => ?_, fun i => ?_, fun i h => ?_, fun i h1 h2 => ?_, fun i h1 => ?_⟩, fun i hi h2 k hk => ?_⟩
  · have := (tkI_e (hr i hi)).2.1; have := pn i hi; omega
  · have b := (cs i hi).1 h2
    rw [← tkI_p] at b
    have := pn i hi
    exact ⟨b.1, b.2.1, by omega, fun k => (b.2.2.2 k).1⟩
  · rw [tkI_p]; exact (skB_r (tkQ_ln i)).2
  · exact (cs i (lt i (by omega))).2.1 h
  · have l1 := lt i (by omega)
    have l2 := lt (i + 1) (by omega)
    have e1 := tkI_e (hr i l1)
    have b := (cs (i + 1) l2).2.2 h2
    have q := e1.2.2.2.2.2
    have s := (skB_r (bf := bf) e1.2.2.1).1
    rw [q] at b
    rcases b with b | b
    · by_cases z : skB bf ln (tqE (tkI bf ln F i)) = tqE (tkI bf ln F i)
      · exfalso
        have c := b.1
        simp only [if_pos z] at c
        exact c (Or.inl h1)
      · have c := b.2
        have : skB bf ln (tqE (tkI bf ln F i)) + 1 ≤ tqE (tkI bf ln F (i + 1)) := c
        omega
    · have : skB bf ln (tqE (tkI bf ln F i)) + 2 ≤ tqE (tkI bf ln F (i + 1)) := b
      omega
  · have e := tkI_e (hr i (lt i (by omega)))
    exact ⟨by omega, e.2.2.1⟩
  · have b := ((cs i hi).1 h2).2.2.2 k
    rw [← tkI_p] at b
    exact b.2 hk
end tkIr
/-- a line's tokens, as the class has them -/
theorem tkM_TT {bf : Nat → Int} {n mk : Nat} {F : Nat → Int → Bool} {h : mj_H} {le_ : Int} {gd : Bool} {sf pf : Nat → Int} {df : Nat → Int64} (hbf : ∀ j, 0 ≤ bf j ∧ bf j ≤ 255) (hn : n ≤ 200) (hM : tkM bf n F mk gd sf pf df) (hT : TK h (mk + 1) le_ n gd sf pf bf df) : TT h (tkI bf n F) mk n ∧ TOKS (tkI bf n F) mk n := by
  obtain ⟨m1, m2, m3, m4, m5, m6, m7, m8⟩ := hM
  have a := tkI_TOKS (F := F) (mk := mk) hbf (by omega) hn (fun i hi => ⟨(m1 i hi).2.2.2.1, (m1 i hi).2.2.2.2⟩) m5
  refine ⟨⟨le_, gd, sf, pf, bf, df, hT, fun i hi => ?_, fun i hi => ?_, fun i hi => ?_, m6, m8, a.2⟩, a.1⟩
  · by_cases z : i = mk
    · rw [z, m2, cS_mk a.1 (Nat.le_refl _)]; rfl
    · have := m1 i (by omega)
      rw [this.1]
      unfold cS
      rw [if_neg this.2.2.2.2]
  · by_cases z : i = mk
    · rw [z, m3]
    · exact (m1 i (by omega)).2.1
  · by_cases z : i = mk
    · rw [z, m4]
      have e : tqD (tkI bf n F mk) = 0 := by
        rcases m5 with q | q
        · by_cases y : skB bf n (tkQ bf n F mk).1 < n
          · exfalso
            by_cases w : tqS (tkI bf n F mk) = 8
            · omega
            · have := (tkB_e (fn := F mk) (bh := if skB bf n (tkQ bf n F mk).1 = (tkQ bf n F mk).1 then (tkQ bf n F mk).2 else 0) y (by rw [← tkI_in y]; exact w)).2.2.2.1
              rw [← tkI_in y, q] at this; omega
          · rw [tkI_out y]
        · by_cases y : skB bf n (tkQ bf n F mk).1 < n
          · rw [tkI_in y] at q ⊢
            exact tkB_d8 q
          · rw [tkI_out y]
      rw [e]; rfl
    · exact (m1 i (by omega)).2.2.1
/-! the spec of reading a line -/
abbrev isOp (T : Nat → Tok) (i : Nat) : Prop := isMk T i 40 ∨ isMk T i 91 ∨ isMk T i 123
abbrev isCl (T : Nat → Tok) (i : Nat) : Prop := isMk T i 41 ∨ isMk T i 93 ∨ isMk T i 125
/-- how deep it is behind token i -/
def opD (T : Nat → Tok) (i : Nat) (o : Int) : Int := if isOp T i then o + 1 else if isCl T i then o - 1 else o
/-- from the mark at i on: the place where all that was opened is closed, and a colon behind it -/
def aoB (T : Nat → Tok) : Nat → Nat → Int → Bool
  | 0, _, _ => false
  | f + 1, i, o => if tqS (T i) = 0 ∨ tqS (T i) = 8 then false else if opD T i o = 0 then decide (isMk T (i + 1) 58) else aoB T f (i + 1) (opD T i o)
def isAm (T : Nat → Tok) : Bool := decide (tqS (T 1) = 5 ∧ tqD (T 1) = 64 ∧ isMk T 2 40) && aoB T 200 2 0
/-- what a line is: 0 plain, 1 it names a value, 2 it tells a function, 3 it amends -/
def liS (T : Nat → Tok) : Nat := if tqS (T 0) = 3 ∨ tqS (T 0) = 4 then (if isMk T 1 58 then (if isMk T 2 123 then 2 else 1) else if isAm T = true then 3 else 0) else 0
/-- is the name one that no line may give -/
abbrev ownN (T : Nat → Tok) : Prop := tqD (T 0) = 24 ∨ tqD (T 0) = 25
abbrev fuR : Nat := 1700
/-- what must stand behind the last expression -/
def liE (T : Nat → Tok) (k : Nat) : Nat ⊕ Nat := if tqS (T k) = 0 then .inr k else .inl (tqP (T k))
/-- the last expression, from token a on -/
def liX (T : Nat → Tok) (a : Nat) : Nat ⊕ Nat := match pR T fuR 0 (if liS T = 2 then 1 else 0) a with
  | .inl p => .inl p
  | .inr k => if liS T = 2 then (if isMk T k 125 then liE T (k + 1) else .inl (tqP (T k))) else liE T k
/-- where the last expression begins; or which place is wrong -/
def liA (T : Nat → Tok) : Nat ⊕ Nat := if liS T ≠ 0 ∧ (ownN T ∨ (liS T = 3 ∧ tqS (T 0) = 4)) then .inl (tqP (T 0)) else
  if liS T = 3 then (match pR T fuR 0 1 3 with
    | .inl p => .inl p
    | .inr j => if isMk T j 41 then (if isMk T (j + 1) 58 then .inr (j + 2) else .inl (tqP (T (j + 1)))) else .inl (tqP (T j)))
  else if liS T = 2 then .inr 3 else if liS T = 1 then .inr 2 else .inr 0
/-- a line as a whole: where its last expression begins -/
def liR (T : Nat → Tok) : Nat ⊕ Nat := match liA T with
  | .inl p => .inl p
  | .inr a => match liX T a with
    | .inl p => .inl p
    | .inr _ => .inr a
theorem aoB_s {T : Nat → Tok} {i : Nat} {o o1 : Int} (hi : i ≤ 201) (h : ¬ (tqS (T i) = 0 ∨ tqS (T i) = 8)) (ho : o1 = opD T i o) (h0 : o1 ≠ 0) : aoB T (202 - i) i o = aoB T (202 - (i + 1)) (i + 1) o1 := by
  rw [show 202 - i = (202 - (i + 1)) + 1 by omega]
  show (if tqS (T i) = 0 ∨ tqS (T i) = 8 then false else if opD T i o = 0 then decide (isMk T (i + 1) 58) else aoB T (202 - (i + 1)) (i + 1) (opD T i o)) = _
  rw [if_neg h, ← ho, if_neg h0]
theorem aoB_e {T : Nat → Tok} {i : Nat} {o : Int} (hi : i ≤ 201) (h : tqS (T i) = 0 ∨ tqS (T i) = 8) : aoB T (202 - i) i o = false := by
  rw [show 202 - i = (202 - (i + 1)) + 1 by omega]
  show (if tqS (T i) = 0 ∨ tqS (T i) = 8 then false else _) = _
  rw [if_pos h]
theorem aoB_c {T : Nat → Tok} {i : Nat} {o o1 : Int} (hi : i ≤ 201) (h : ¬ (tqS (T i) = 0 ∨ tqS (T i) = 8)) (ho : o1 = opD T i o) (h0 : o1 = 0) : aoB T (202 - i) i o = decide (isMk T (i + 1) 58) := by
  rw [show 202 - i = (202 - (i + 1)) + 1 by omega]
  show (if tqS (T i) = 0 ∨ tqS (T i) = 8 then false else if opD T i o = 0 then decide (isMk T (i + 1) 58) else aoB T (202 - (i + 1)) (i + 1) (opD T i o)) = _
  rw [if_neg h, ← ho, if_pos h0]
theorem opD_o {T : Nat → Tok} {i : Nat} {o : Int} (h : isOp T i) : o + 1 = opD T i o := by unfold opD; rw [if_pos h]
theorem opD_c {T : Nat → Tok} {i : Nat} {o : Int} (h : ¬ isOp T i) (h2 : isCl T i) : o + (-1) = opD T i o := by unfold opD; rw [if_neg h, if_pos h2]; rfl
theorem opD_n {T : Nat → Tok} {i : Nat} {o : Int} (h : ¬ isOp T i) (h2 : ¬ isCl T i) : o = opD T i o := by unfold opD; rw [if_neg h, if_neg h2]
theorem opD_r (T : Nat → Tok) (i : Nat) (o : Int) : o - 1 ≤ opD T i o ∧ opD T i o ≤ o + 1 := by unfold opD; split; omega; split <;> omega
set_option maxRecDepth 20000 in
theorem pm_X7_isAmending : mj_mmof pg_ms 37 = some ((⟨"ArrayCalculator$Reader", "isAmending", "()Z"⟩, prog_9_method_11_code, 3, (Option.some Jvm.ClassFile.FieldType.boolean)), 7, false, mj_dec prog_9_method_11_code) := rfl
theorem dm_X7_isAmending_0 : mj_dec prog_9_method_11_code 0 = some (.aload_n 0, 1) := by decide +kernel
theorem dm_X7_isAmending_1 : mj_dec prog_9_method_11_code 1 = some (.getfield 9, 3) := by decide +kernel
theorem dm_X7_isAmending_4 : mj_dec prog_9_method_11_code 4 = some (.iconst 1, 1) := by decide +kernel
theorem dm_X7_isAmending_5 : mj_dec prog_9_method_11_code 5 = some (.invokevirtual 59, 3) := by decide +kernel
theorem dm_X7_isAmending_8 : mj_dec prog_9_method_11_code 8 = some (.iconst 5, 1) := by decide +kernel
theorem dm_X7_isAmending_9 : mj_dec prog_9_method_11_code 9 = some (.if_icmp .ne 31, 3) := by decide +kernel
theorem dm_X7_isAmending_12 : mj_dec prog_9_method_11_code 12 = some (.aload_n 0, 1) := by decide +kernel
theorem dm_X7_isAmending_13 : mj_dec prog_9_method_11_code 13 = some (.getfield 9, 3) := by decide +kernel
theorem dm_X7_isAmending_16 : mj_dec prog_9_method_11_code 16 = some (.iconst 1, 1) := by decide +kernel
theorem dm_X7_isAmending_17 : mj_dec prog_9_method_11_code 17 = some (.invokevirtual 41, 3) := by decide +kernel
theorem dm_X7_isAmending_20 : mj_dec prog_9_method_11_code 20 = some (.ldc2_w 94, 3) := by decide +kernel
theorem dm_X7_isAmending_23 : mj_dec prog_9_method_11_code 23 = some (.lcmp, 1) := by decide +kernel
theorem dm_X7_isAmending_24 : mj_dec prog_9_method_11_code 24 = some (.ifCond .ne 16, 3) := by decide +kernel
theorem dm_X7_isAmending_27 : mj_dec prog_9_method_11_code 27 = some (.aload_n 0, 1) := by decide +kernel
theorem dm_X7_isAmending_28 : mj_dec prog_9_method_11_code 28 = some (.getfield 9, 3) := by decide +kernel
theorem dm_X7_isAmending_31 : mj_dec prog_9_method_11_code 31 = some (.iconst 2, 1) := by decide +kernel
theorem dm_X7_isAmending_32 : mj_dec prog_9_method_11_code 32 = some (.bipush 40, 2) := by decide +kernel
theorem dm_X7_isAmending_34 : mj_dec prog_9_method_11_code 34 = some (.invokevirtual 84, 3) := by decide +kernel
theorem dm_X7_isAmending_37 : mj_dec prog_9_method_11_code 37 = some (.ifCond .ne 5, 3) := by decide +kernel
theorem dm_X7_isAmending_40 : mj_dec prog_9_method_11_code 40 = some (.iconst 0, 1) := by decide +kernel
theorem dm_X7_isAmending_41 : mj_dec prog_9_method_11_code 41 = some (.ireturn, 1) := by decide +kernel
theorem dm_X7_isAmending_42 : mj_dec prog_9_method_11_code 42 = some (.iconst 0, 1) := by decide +kernel
theorem dm_X7_isAmending_43 : mj_dec prog_9_method_11_code 43 = some (.istore_n 1, 1) := by decide +kernel
theorem dm_X7_isAmending_44 : mj_dec prog_9_method_11_code 44 = some (.iconst 2, 1) := by decide +kernel
theorem dm_X7_isAmending_45 : mj_dec prog_9_method_11_code 45 = some (.istore_n 2, 1) := by decide +kernel
theorem dm_X7_isAmending_46 : mj_dec prog_9_method_11_code 46 = some (.aload_n 0, 1) := by decide +kernel
theorem dm_X7_isAmending_47 : mj_dec prog_9_method_11_code 47 = some (.getfield 9, 3) := by decide +kernel
theorem dm_X7_isAmending_50 : mj_dec prog_9_method_11_code 50 = some (.iload_n 2, 1) := by decide +kernel
theorem dm_X7_isAmending_51 : mj_dec prog_9_method_11_code 51 = some (.invokevirtual 59, 3) := by decide +kernel
theorem dm_X7_isAmending_54 : mj_dec prog_9_method_11_code 54 = some (.ifCond .eq 120, 3) := by decide +kernel
theorem dm_X7_isAmending_57 : mj_dec prog_9_method_11_code 57 = some (.iload_n 2, 1) := by decide +kernel
theorem dm_X7_isAmending_58 : mj_dec prog_9_method_11_code 58 = some (.sipush 200, 3) := by decide +kernel
theorem dm_X7_isAmending_61 : mj_dec prog_9_method_11_code 61 = some (.if_icmp .gt 113, 3) := by decide +kernel
theorem dm_X7_isAmending_64 : mj_dec prog_9_method_11_code 64 = some (.aload_n 0, 1) := by decide +kernel
theorem dm_X7_isAmending_65 : mj_dec prog_9_method_11_code 65 = some (.getfield 9, 3) := by decide +kernel
theorem dm_X7_isAmending_68 : mj_dec prog_9_method_11_code 68 = some (.iload_n 2, 1) := by decide +kernel
theorem dm_X7_isAmending_69 : mj_dec prog_9_method_11_code 69 = some (.bipush 40, 2) := by decide +kernel
theorem dm_X7_isAmending_71 : mj_dec prog_9_method_11_code 71 = some (.invokevirtual 84, 3) := by decide +kernel
theorem dm_X7_isAmending_74 : mj_dec prog_9_method_11_code 74 = some (.ifCond .ne 29, 3) := by decide +kernel
theorem dm_X7_isAmending_77 : mj_dec prog_9_method_11_code 77 = some (.aload_n 0, 1) := by decide +kernel
theorem dm_X7_isAmending_78 : mj_dec prog_9_method_11_code 78 = some (.getfield 9, 3) := by decide +kernel
theorem dm_X7_isAmending_81 : mj_dec prog_9_method_11_code 81 = some (.iload_n 2, 1) := by decide +kernel
theorem dm_X7_isAmending_82 : mj_dec prog_9_method_11_code 82 = some (.bipush 91, 2) := by decide +kernel
theorem dm_X7_isAmending_84 : mj_dec prog_9_method_11_code 84 = some (.invokevirtual 84, 3) := by decide +kernel
theorem dm_X7_isAmending_87 : mj_dec prog_9_method_11_code 87 = some (.ifCond .ne 16, 3) := by decide +kernel
theorem dm_X7_isAmending_90 : mj_dec prog_9_method_11_code 90 = some (.aload_n 0, 1) := by decide +kernel
theorem dm_X7_isAmending_91 : mj_dec prog_9_method_11_code 91 = some (.getfield 9, 3) := by decide +kernel
theorem dm_X7_isAmending_94 : mj_dec prog_9_method_11_code 94 = some (.iload_n 2, 1) := by decide +kernel
theorem dm_X7_isAmending_95 : mj_dec prog_9_method_11_code 95 = some (.bipush 123, 2) := by decide +kernel
theorem dm_X7_isAmending_97 : mj_dec prog_9_method_11_code 97 = some (.invokevirtual 84, 3) := by decide +kernel
theorem dm_X7_isAmending_100 : mj_dec prog_9_method_11_code 100 = some (.ifCond .eq 9, 3) := by decide +kernel
theorem dm_X7_isAmending_103 : mj_dec prog_9_method_11_code 103 = some (.iinc 1 1, 3) := by decide +kernel
theorem dm_X7_isAmending_106 : mj_dec prog_9_method_11_code 106 = some (.goto 45, 3) := by decide +kernel
theorem dm_X7_isAmending_109 : mj_dec prog_9_method_11_code 109 = some (.aload_n 0, 1) := by decide +kernel
theorem dm_X7_isAmending_110 : mj_dec prog_9_method_11_code 110 = some (.getfield 9, 3) := by decide +kernel
theorem dm_X7_isAmending_113 : mj_dec prog_9_method_11_code 113 = some (.iload_n 2, 1) := by decide +kernel
theorem dm_X7_isAmending_114 : mj_dec prog_9_method_11_code 114 = some (.bipush 41, 2) := by decide +kernel
theorem dm_X7_isAmending_116 : mj_dec prog_9_method_11_code 116 = some (.invokevirtual 84, 3) := by decide +kernel
theorem dm_X7_isAmending_119 : mj_dec prog_9_method_11_code 119 = some (.ifCond .ne 29, 3) := by decide +kernel
theorem dm_X7_isAmending_122 : mj_dec prog_9_method_11_code 122 = some (.aload_n 0, 1) := by decide +kernel
theorem dm_X7_isAmending_123 : mj_dec prog_9_method_11_code 123 = some (.getfield 9, 3) := by decide +kernel
theorem dm_X7_isAmending_126 : mj_dec prog_9_method_11_code 126 = some (.iload_n 2, 1) := by decide +kernel
theorem dm_X7_isAmending_127 : mj_dec prog_9_method_11_code 127 = some (.bipush 93, 2) := by decide +kernel
theorem dm_X7_isAmending_129 : mj_dec prog_9_method_11_code 129 = some (.invokevirtual 84, 3) := by decide +kernel
theorem dm_X7_isAmending_132 : mj_dec prog_9_method_11_code 132 = some (.ifCond .ne 16, 3) := by decide +kernel
theorem dm_X7_isAmending_135 : mj_dec prog_9_method_11_code 135 = some (.aload_n 0, 1) := by decide +kernel
theorem dm_X7_isAmending_136 : mj_dec prog_9_method_11_code 136 = some (.getfield 9, 3) := by decide +kernel
theorem dm_X7_isAmending_139 : mj_dec prog_9_method_11_code 139 = some (.iload_n 2, 1) := by decide +kernel
theorem dm_X7_isAmending_140 : mj_dec prog_9_method_11_code 140 = some (.bipush 125, 2) := by decide +kernel
theorem dm_X7_isAmending_142 : mj_dec prog_9_method_11_code 142 = some (.invokevirtual 84, 3) := by decide +kernel
theorem dm_X7_isAmending_145 : mj_dec prog_9_method_11_code 145 = some (.ifCond .eq 6, 3) := by decide +kernel
theorem dm_X7_isAmending_148 : mj_dec prog_9_method_11_code 148 = some (.iinc 1 (-1), 3) := by decide +kernel
theorem dm_X7_isAmending_151 : mj_dec prog_9_method_11_code 151 = some (.iload_n 1, 1) := by decide +kernel
theorem dm_X7_isAmending_152 : mj_dec prog_9_method_11_code 152 = some (.ifCond .ne 16, 3) := by decide +kernel
theorem dm_X7_isAmending_155 : mj_dec prog_9_method_11_code 155 = some (.aload_n 0, 1) := by decide +kernel
theorem dm_X7_isAmending_156 : mj_dec prog_9_method_11_code 156 = some (.getfield 9, 3) := by decide +kernel
theorem dm_X7_isAmending_159 : mj_dec prog_9_method_11_code 159 = some (.iload_n 2, 1) := by decide +kernel
theorem dm_X7_isAmending_160 : mj_dec prog_9_method_11_code 160 = some (.iconst 1, 1) := by decide +kernel
theorem dm_X7_isAmending_161 : mj_dec prog_9_method_11_code 161 = some (.iadd, 1) := by decide +kernel
theorem dm_X7_isAmending_162 : mj_dec prog_9_method_11_code 162 = some (.bipush 58, 2) := by decide +kernel
theorem dm_X7_isAmending_164 : mj_dec prog_9_method_11_code 164 = some (.invokevirtual 84, 3) := by decide +kernel
theorem dm_X7_isAmending_167 : mj_dec prog_9_method_11_code 167 = some (.ireturn, 1) := by decide +kernel
theorem dm_X7_isAmending_168 : mj_dec prog_9_method_11_code 168 = some (.iinc 2 1, 3) := by decide +kernel
theorem dm_X7_isAmending_171 : mj_dec prog_9_method_11_code 171 = some (.goto (-125), 3) := by decide +kernel
theorem dm_X7_isAmending_174 : mj_dec prog_9_method_11_code 174 = some (.iconst 0, 1) := by decide +kernel
theorem dm_X7_isAmending_175 : mj_dec prog_9_method_11_code 175 = some (.ireturn, 1) := by decide +kernel
theorem d_isAmending {xt : mj_X} {d mk ln i : Nat} {T : Nat → Tok} {wr ls : Int} {nm : Int64} {st tl : Value} {h : mj_H} (hd : 2 ≤ d) (hK : TOKS T mk ln) (hT : TT h T mk ln) (h13 : h[13]? = some (rdC (i : Int) wr ls nm st tl)) (hmk1 : 1 ≤ mk) : pgP xt d 37 [.ref 13] h (zz (isAm T)) := by
  obtain ⟨le_, gd, sf, pf, bf, df, hk9, -, -, -, -, -, -⟩ := id hT
  have h9 := hk9.1
  have hmk200 := hK.1
  have c7 := cS_7 T 1
  have c8 := cS_r hK 1
  have hD := hK.2.2.2.2.2.1 1
  have e64 : (Int64.ofInt (tqD (T 1))).toInt = tqD (T 1) := n_toL (by omega) (by omega)
  have e65 : (Int64.ofInt 64).toInt = 64 := by decide
  refine x_enter pm_X7_isAmending (L0 := [(0, .ref 13)]) rfl (Nat.le_of_ble_eq_true rfl) (by omega) ?_
  refine me1 (pc' := 1) (L' := [(0, .ref 13)]) (S' := [.ref 13]) dm_X7_isAmending_0 rfl rfl rfl rfl ?_
  refine me3 (pc' := 4) (S' := [.ref 9]) dm_X7_isAmending_1 (g_get (v := .ref 9) h13 rfl rfl (by decide)) rfl rfl rfl ?_
  refine me0 (pc' := 5) (S' := [ii 1, .ref 9]) dm_X7_isAmending_4 rfl rfl rfl rfl ?_
  refine pg_st (S' := [ii ((1 : Nat) : Int), .ref 9]) (congrArg (fun z => ii z :: [.ref 9]) (rfl)) ?_
  refine x_cp (pc' := 8) (v := ii ((cS T 1 : Nat) : Int)) (rest := []) dm_X7_isAmending_5 rfl (g_inv (As := [ii ((1 : Nat) : Int)]) (S := []) h9 rfl rfl rfl (by decide)) rfl rfl rfl (tt_sort (i := 1) (by omega) hK hT (by omega)) ?_
  refine me0 (pc' := 9) (S' := [ii 5, ii ((cS T 1 : Nat) : Int)]) dm_X7_isAmending_8 rfl rfl rfl rfl ?_
  refine y_2ne (a := ((cS T 1 : Nat) : Int)) (b := 5) (t := 40) (pc' := 12) dm_X7_isAmending_9 rfl rfl (by omega) (fun hb1 => ?_) (fun hb1 => ?_)
  · refine me0 (pc' := 41) (S' := [ii 0]) dm_X7_isAmending_40 rfl rfl rfl rfl ?_
    refine y_ret (r := some (ii 0)) dm_X7_isAmending_41 rfl rfl rfl ?_
    refine ⟨congrArg some (zz_f (b := isAm T) ?_), rfl⟩
    unfold isAm
    rw [decide_eq_false (by omega)]; rfl
  · refine me1 (pc' := 13) (L' := [(0, .ref 13)]) (S' := [.ref 13]) dm_X7_isAmending_12 rfl rfl rfl rfl ?_
    refine me3 (pc' := 16) (S' := [.ref 9]) dm_X7_isAmending_13 (g_get (v := .ref 9) h13 rfl rfl (by decide)) rfl rfl rfl ?_
    refine me0 (pc' := 17) (S' := [ii 1, .ref 9]) dm_X7_isAmending_16 rfl rfl rfl rfl ?_
    refine pg_st (S' := [ii ((1 : Nat) : Int), .ref 9]) (congrArg (fun z => ii z :: [.ref 9]) (rfl)) ?_
    refine x_cp (pc' := 20) (v := .long (Int64.ofInt (tqD (T 1)))) (rest := []) dm_X7_isAmending_17 rfl (g_inv (As := [ii ((1 : Nat) : Int)]) (S := []) h9 rfl rfl rfl (by decide)) rfl rfl rfl (tt_data (i := 1) (by omega) hK hT (by omega)) ?_
    refine me3 (pc' := 23) (S' := [.long (Int64.ofInt 64), .long (Int64.ofInt (tqD (T 1)))]) dm_X7_isAmending_20 rfl rfl rfl rfl ?_
    refine y_lne (x := Int64.ofInt (tqD (T 1))) (y := Int64.ofInt 64) (t := 40) (pc1 := 24) (pc' := 27) dm_X7_isAmending_23 rfl dm_X7_isAmending_24 rfl rfl (fun hb2 => ?_) (fun hb2 => ?_)
    · have hb2i : ¬ (Int64.ofInt (tqD (T 1))).toInt = (Int64.ofInt 64).toInt := fun z => hb2 (Int64.toInt_inj.mp z)
      rw [e64, e65] at hb2i
      refine me0 (pc' := 41) (S' := [ii 0]) dm_X7_isAmending_40 rfl rfl rfl rfl ?_
      refine y_ret (r := some (ii 0)) dm_X7_isAmending_41 rfl rfl rfl ?_
      refine ⟨congrArg some (zz_f (b := isAm T) ?_), rfl⟩
      unfold isAm
      rw [decide_eq_false (by omega)]; rfl
    · have hb2i := congrArg Int64.toInt hb2
      rw [e64, e65] at hb2i
      refine me1 (pc' := 28) (L' := [(0, .ref 13)]) (S' := [.ref 13]) dm_X7_isAmending_27 rfl rfl rfl rfl ?_
      refine me3 (pc' := 31) (S' := [.ref 9]) dm_X7_isAmending_28 (g_get (v := .ref 9) h13 rfl rfl (by decide)) rfl rfl rfl ?_
      refine me0 (pc' := 32) (S' := [ii 2, .ref 9]) dm_X7_isAmending_31 rfl rfl rfl rfl ?_
      refine pg_st (S' := [ii ((2 : Nat) : Int), .ref 9]) (congrArg (fun z => ii z :: [.ref 9]) (rfl)) ?_
      refine me0 (pc' := 34) (S' := [ii 40, ii ((2 : Nat) : Int), .ref 9]) dm_X7_isAmending_32 rfl rfl rfl rfl ?_
      refine x_cp (pc' := 37) (v := zz (decide (isMk T 2 40))) (rest := []) dm_X7_isAmending_34 rfl (g_inv (As := [ii ((2 : Nat) : Int), ii 40]) (S := []) h9 rfl rfl rfl (by decide)) rfl rfl rfl (tt_mark (i := 2) (by omega) hK hT (by omega) (by omega)) ?_
      refine y_zne (c := decide (isMk T 2 40)) (t := 42) (pc' := 40) dm_X7_isAmending_37 rfl rfl (fun hb3 => ?_) (fun hb3 => ?_)
      · replace hb3 := dT hb3
        have hm2 := TOKS_lt hK (i := 2) (by have := hb3.1; omega)
        refine me0 (pc' := 43) (S' := [ii 0]) dm_X7_isAmending_42 rfl rfl rfl rfl ?_
        refine me1 (pc' := 44) (L' := [(1, ii 0), (0, .ref 13)]) (S' := []) dm_X7_isAmending_43 rfl rfl rfl rfl ?_
        refine me0 (pc' := 45) (S' := [ii 2]) dm_X7_isAmending_44 rfl rfl rfl rfl ?_
        refine me1 (pc' := 46) (L' := [(2, ii 2), (1, ii 0), (0, .ref 13)]) (S' := []) dm_X7_isAmending_45 rfl rfl rfl rfl ?_
        have lp46 : ∀ (n46 : Nat) (a : Nat) (o : Int), mk + 1 - a = n46 → (2 ≤ a ∧ a ≤ mk) → (-(a : Int) ≤ o ∧ o ≤ (a : Int)) → (aoB T 200 2 0 = aoB T (202 - a) a o) → pgE xt (d - 1) 7 3 false (Option.some Jvm.ClassFile.FieldType.boolean) (mj_dec prog_9_method_11_code) 46 [(0, .ref 13), (1, ii o), (2, ii ((a : Nat) : Int))] [] h (fun r h' => r = some (zz (isAm T)) ∧ h' = h) := by
          intro n46
          induction n46 using Nat.strongRecOn with
          | ind n46 ih46 =>
            intro a o hm46 ha ho hA
            have c0 := (cS_7 T a).2.2.2.2.2.2.2
            have c8a := cS_r hK a
            refine me1 (pc' := 47) (L' := [(0, .ref 13), (1, ii o), (2, ii ((a : Nat) : Int))]) (S' := [.ref 13]) dm_X7_isAmending_46 rfl rfl rfl rfl ?_
            refine me3 (pc' := 50) (S' := [.ref 9]) dm_X7_isAmending_47 (g_get (v := .ref 9) h13 rfl rfl (by decide)) rfl rfl rfl ?_
            refine me1 (pc' := 51) (L' := [(0, .ref 13), (1, ii o), (2, ii ((a : Nat) : Int))]) (S' := [ii ((a : Nat) : Int), .ref 9]) dm_X7_isAmending_50 rfl rfl rfl rfl ?_
            refine x_cp (pc' := 54) (v := ii ((cS T a : Nat) : Int)) (rest := []) dm_X7_isAmending_51 rfl (g_inv (As := [ii ((a : Nat) : Int)]) (S := []) h9 rfl rfl rfl (by decide)) rfl rfl rfl (tt_sort (i := a) (by omega) hK hT (by omega)) ?_
            refine y_1eq (a := ((cS T a : Nat) : Int)) (t := 174) (pc' := 57) dm_X7_isAmending_54 rfl rfl (by omega) (fun hb4 => ?_) (fun hb4 => ?_)
            · refine me0 (pc' := 175) (S' := [ii 0]) dm_X7_isAmending_174 rfl rfl rfl rfl ?_
              refine y_ret (r := some (ii 0)) dm_X7_isAmending_175 rfl rfl rfl ?_
              refine ⟨congrArg some (zz_f (b := isAm T) ?_), rfl⟩
              unfold isAm
              rw [hA, aoB_e (by omega) (by omega), Bool.and_false]
            · refine me1 (pc' := 58) (L' := [(0, .ref 13), (1, ii o), (2, ii ((a : Nat) : Int))]) (S' := [ii ((a : Nat) : Int)]) dm_X7_isAmending_57 rfl rfl rfl rfl ?_
              refine me0 (pc' := 61) (S' := [ii 200, ii ((a : Nat) : Int)]) dm_X7_isAmending_58 rfl rfl rfl rfl ?_
              refine y_2gt (a := ((a : Nat) : Int)) (b := 200) (t := 174) (pc' := 64) dm_X7_isAmending_61 rfl rfl (by omega) (fun hb5 => ?_) (fun hb5 => ?_)
              · exfalso; omega
              · have hs : ¬ (tqS (T a) = 0 ∨ tqS (T a) = 8) := by omega
                have hlt : a < mk := Classical.byContradiction fun z => by have := cS_mk hK (Nat.le_of_not_lt z); omega
                have jn151 : ∀ o1 : Int, o1 = opD T a o → pgE xt (d - 1) 7 3 false (Option.some Jvm.ClassFile.FieldType.boolean) (mj_dec prog_9_method_11_code) 151 [(0, .ref 13), (1, ii o1), (2, ii ((a : Nat) : Int))] [] h (fun r h' => r = some (zz (isAm T)) ∧ h' = h) := by
                  intro o1 ho1
                  have hor := opD_r T a o
                  refine me1 (pc' := 152) (L' := [(0, .ref 13), (1, ii o1), (2, ii ((a : Nat) : Int))]) (S' := [ii o1]) dm_X7_isAmending_151 rfl rfl rfl rfl ?_
                  refine y_1ne (a := o1) (t := 168) (pc' := 155) dm_X7_isAmending_152 rfl rfl (by omega) (fun hb6 => ?_) (fun hb6 => ?_)
                  · refine y_iinc (pc' := 171) (L' := [(2, ii (((a : Nat) : Int) + 1)), (0, .ref 13), (1, ii o1)]) dm_X7_isAmending_168 (y_incp (a := ((a : Nat) : Int)) (c := 1) rfl rfl (by decide)) rfl ?_
                    refine me2 (pc' := 46) (S' := []) dm_X7_isAmending_171 rfl rfl rfl ?_
                    exact pg_sub (L := [(0, .ref 13), (1, ii o1), (2, ii (((a + 1) : Nat) : Int))]) rfl rfl rfl (ih46 (mk + 1 - (a + 1)) (by omega) (a + 1) o1 rfl (by omega) (by push_cast; omega) (hA.trans (aoB_s (by omega) hs ho1 (by omega))))
                  · refine me1 (pc' := 156) (L' := [(0, .ref 13), (1, ii o1), (2, ii ((a : Nat) : Int))]) (S' := [.ref 13]) dm_X7_isAmending_155 rfl rfl rfl rfl ?_
                    refine me3 (pc' := 159) (S' := [.ref 9]) dm_X7_isAmending_156 (g_get (v := .ref 9) h13 rfl rfl (by decide)) rfl rfl rfl ?_
                    refine me1 (pc' := 160) (L' := [(0, .ref 13), (1, ii o1), (2, ii ((a : Nat) : Int))]) (S' := [ii ((a : Nat) : Int), .ref 9]) dm_X7_isAmending_159 rfl rfl rfl rfl ?_
                    refine me0 (pc' := 161) (S' := [ii 1, ii ((a : Nat) : Int), .ref 9]) dm_X7_isAmending_160 rfl rfl rfl rfl ?_
                    refine y_iadd (a := ((a : Nat) : Int)) (b := 1) dm_X7_isAmending_161 (pc' := 162) rfl ?_
                    refine pg_st (S' := [ii ((a + 1 : Nat) : Int), .ref 9]) (congrArg (fun z => ii z :: [.ref 9]) (by push_cast; rfl)) ?_
                    refine me0 (pc' := 164) (S' := [ii 58, ii ((a + 1 : Nat) : Int), .ref 9]) dm_X7_isAmending_162 rfl rfl rfl rfl ?_
                    refine x_cp (pc' := 167) (v := zz (decide (isMk T (a + 1) 58))) (rest := []) dm_X7_isAmending_164 rfl (g_inv (As := [ii ((a + 1 : Nat) : Int), ii 58]) (S := []) h9 rfl rfl rfl (by decide)) rfl rfl rfl (tt_mark (i := a + 1) (by omega) hK hT (by omega) (by omega)) ?_
                    refine y_ret (r := some (zz (decide (isMk T (a + 1) 58)))) dm_X7_isAmending_167 (y_retz _) rfl rfl ?_
                    refine ⟨congrArg (fun z => some (zz z)) ?_, rfl⟩
                    unfold isAm
                    rw [decide_eq_true (show tqS (T 1) = 5 ∧ tqD (T 1) = 64 ∧ isMk T 2 40 by omega), hA, aoB_c (by omega) hs ho1 (by omega)]; rfl
                refine me1 (pc' := 65) (L' := [(0, .ref 13), (1, ii o), (2, ii ((a : Nat) : Int))]) (S' := [.ref 13]) dm_X7_isAmending_64 rfl rfl rfl rfl ?_
                refine me3 (pc' := 68) (S' := [.ref 9]) dm_X7_isAmending_65 (g_get (v := .ref 9) h13 rfl rfl (by decide)) rfl rfl rfl ?_
                refine me1 (pc' := 69) (L' := [(0, .ref 13), (1, ii o), (2, ii ((a : Nat) : Int))]) (S' := [ii ((a : Nat) : Int), .ref 9]) dm_X7_isAmending_68 rfl rfl rfl rfl ?_
                refine me0 (pc' := 71) (S' := [ii 40, ii ((a : Nat) : Int), .ref 9]) dm_X7_isAmending_69 rfl rfl rfl rfl ?_
                refine x_cp (pc' := 74) (v := zz (decide (isMk T a 40))) (rest := []) dm_X7_isAmending_71 rfl (g_inv (As := [ii ((a : Nat) : Int), ii 40]) (S := []) h9 rfl rfl rfl (by decide)) rfl rfl rfl (tt_mark (i := a) (by omega) hK hT (by omega) (by omega)) ?_
                refine y_zne (c := decide (isMk T a 40)) (t := 103) (pc' := 77) dm_X7_isAmending_74 rfl rfl (fun hb7 => ?_) (fun hb7 => ?_)
                · replace hb7 := dT hb7
                  refine y_iinc (pc' := 106) (L' := [(1, ii (o + 1)), (0, .ref 13), (2, ii ((a : Nat) : Int))]) dm_X7_isAmending_103 (y_incp (a := o) (c := 1) rfl rfl (by decide)) rfl ?_
                  refine me2 (pc' := 151) (S' := []) dm_X7_isAmending_106 rfl rfl rfl ?_
                  exact pg_sub (L := [(0, .ref 13), (1, ii (o + 1)), (2, ii ((a : Nat) : Int))]) rfl rfl rfl (jn151 (o + 1) (opD_o (Or.inl hb7)))
                · replace hb7 := dF hb7
                  refine me1 (pc' := 78) (L' := [(0, .ref 13), (1, ii o), (2, ii ((a : Nat) : Int))]) (S' := [.ref 13]) dm_X7_isAmending_77 rfl rfl rfl rfl ?_
                  refine me3 (pc' := 81) (S' := [.ref 9]) dm_X7_isAmending_78 (g_get (v := .ref 9) h13 rfl rfl (by decide)) rfl rfl rfl ?_
                  refine me1 (pc' := 82) (L' := [(0, .ref 13), (1, ii o), (2, ii ((a : Nat) : Int))]) (S' := [ii ((a : Nat) : Int), .ref 9]) dm_X7_isAmending_81 rfl rfl rfl rfl ?_
                  refine me0 (pc' := 84) (S' := [ii 91, ii ((a : Nat) : Int), .ref 9]) dm_X7_isAmending_82 rfl rfl rfl rfl ?_
                  refine x_cp (pc' := 87) (v := zz (decide (isMk T a 91))) (rest := []) dm_X7_isAmending_84 rfl (g_inv (As := [ii ((a : Nat) : Int), ii 91]) (S := []) h9 rfl rfl rfl (by decide)) rfl rfl rfl (tt_mark (i := a) (by omega) hK hT (by omega) (by omega)) ?_
                  refine y_zne (c := decide (isMk T a 91)) (t := 103) (pc' := 90) dm_X7_isAmending_87 rfl rfl (fun hb8 => ?_) (fun hb8 => ?_)
                  · replace hb8 := dT hb8
                    refine y_iinc (pc' := 106) (L' := [(1, ii (o + 1)), (0, .ref 13), (2, ii ((a : Nat) : Int))]) dm_X7_isAmending_103 (y_incp (a := o) (c := 1) rfl rfl (by decide)) rfl ?_
                    refine me2 (pc' := 151) (S' := []) dm_X7_isAmending_106 rfl rfl rfl ?_
                    exact pg_sub (L := [(0, .ref 13), (1, ii (o + 1)), (2, ii ((a : Nat) : Int))]) rfl rfl rfl (jn151 (o + 1) (opD_o (Or.inr (Or.inl hb8))))
                  · replace hb8 := dF hb8
                    refine me1 (pc' := 91) (L' := [(0, .ref 13), (1, ii o), (2, ii ((a : Nat) : Int))]) (S' := [.ref 13]) dm_X7_isAmending_90 rfl rfl rfl rfl ?_
                    refine me3 (pc' := 94) (S' := [.ref 9]) dm_X7_isAmending_91 (g_get (v := .ref 9) h13 rfl rfl (by decide)) rfl rfl rfl ?_
                    refine me1 (pc' := 95) (L' := [(0, .ref 13), (1, ii o), (2, ii ((a : Nat) : Int))]) (S' := [ii ((a : Nat) : Int), .ref 9]) dm_X7_isAmending_94 rfl rfl rfl rfl ?_
                    refine me0 (pc' := 97) (S' := [ii 123, ii ((a : Nat) : Int), .ref 9]) dm_X7_isAmending_95 rfl rfl rfl rfl ?_
                    refine x_cp (pc' := 100) (v := zz (decide (isMk T a 123))) (rest := []) dm_X7_isAmending_97 rfl (g_inv (As := [ii ((a : Nat) : Int), ii 123]) (S := []) h9 rfl rfl rfl (by decide)) rfl rfl rfl (tt_mark (i := a) (by omega) hK hT (by omega) (by omega)) ?_
                    refine y_zeq (c := decide (isMk T a 123)) (t := 109) (pc' := 103) dm_X7_isAmending_100 rfl rfl (fun hb9 => ?_) (fun hb9 => ?_)
                    · replace hb9 := dF hb9
                      refine me1 (pc' := 110) (L' := [(0, .ref 13), (1, ii o), (2, ii ((a : Nat) : Int))]) (S' := [.ref 13]) dm_X7_isAmending_109 rfl rfl rfl rfl ?_
                      refine me3 (pc' := 113) (S' := [.ref 9]) dm_X7_isAmending_110 (g_get (v := .ref 9) h13 rfl rfl (by decide)) rfl rfl rfl ?_
                      refine me1 (pc' := 114) (L' := [(0, .ref 13), (1, ii o), (2, ii ((a : Nat) : Int))]) (S' := [ii ((a : Nat) : Int), .ref 9]) dm_X7_isAmending_113 rfl rfl rfl rfl ?_
                      refine me0 (pc' := 116) (S' := [ii 41, ii ((a : Nat) : Int), .ref 9]) dm_X7_isAmending_114 rfl rfl rfl rfl ?_
                      refine x_cp (pc' := 119) (v := zz (decide (isMk T a 41))) (rest := []) dm_X7_isAmending_116 rfl (g_inv (As := [ii ((a : Nat) : Int), ii 41]) (S := []) h9 rfl rfl rfl (by decide)) rfl rfl rfl (tt_mark (i := a) (by omega) hK hT (by omega) (by omega)) ?_
                      refine y_zne (c := decide (isMk T a 41)) (t := 148) (pc' := 122) dm_X7_isAmending_119 rfl rfl (fun hb10 => ?_) (fun hb10 => ?_)
                      · replace hb10 := dT hb10
                        refine y_iinc (pc' := 151) (L' := [(1, ii (o + (-1))), (0, .ref 13), (2, ii ((a : Nat) : Int))]) dm_X7_isAmending_148 (y_incp (a := o) (c := (-1)) rfl rfl (by decide)) rfl ?_
                        exact pg_sub (L := [(0, .ref 13), (1, ii (o + (-1))), (2, ii ((a : Nat) : Int))]) rfl rfl rfl (jn151 (o + (-1)) (opD_c (fun z => z.elim hb7 (fun z => z.elim hb8 hb9)) (Or.inl hb10)))
                      · replace hb10 := dF hb10
                        refine me1 (pc' := 123) (L' := [(0, .ref 13), (1, ii o), (2, ii ((a : Nat) : Int))]) (S' := [.ref 13]) dm_X7_isAmending_122 rfl rfl rfl rfl ?_
                        refine me3 (pc' := 126) (S' := [.ref 9]) dm_X7_isAmending_123 (g_get (v := .ref 9) h13 rfl rfl (by decide)) rfl rfl rfl ?_
                        refine me1 (pc' := 127) (L' := [(0, .ref 13), (1, ii o), (2, ii ((a : Nat) : Int))]) (S' := [ii ((a : Nat) : Int), .ref 9]) dm_X7_isAmending_126 rfl rfl rfl rfl ?_
                        refine me0 (pc' := 129) (S' := [ii 93, ii ((a : Nat) : Int), .ref 9]) dm_X7_isAmending_127 rfl rfl rfl rfl ?_
                        refine x_cp (pc' := 132) (v := zz (decide (isMk T a 93))) (rest := []) dm_X7_isAmending_129 rfl (g_inv (As := [ii ((a : Nat) : Int), ii 93]) (S := []) h9 rfl rfl rfl (by decide)) rfl rfl rfl (tt_mark (i := a) (by omega) hK hT (by omega) (by omega)) ?_
                        refine y_zne (c := decide (isMk T a 93)) (t := 148) (pc' := 135) dm_X7_isAmending_132 rfl rfl (fun hb11 => ?_) (fun hb11 => ?_)
                        · replace hb11 := dT hb11
                          refine y_iinc (pc' := 151) (L' := [(1, ii (o + (-1))), (0, .ref 13), (2, ii ((a : Nat) : Int))]) dm_X7_isAmending_148 (y_incp (a := o) (c := (-1)) rfl rfl (by decide)) rfl ?_
                          exact pg_sub (L := [(0, .ref 13), (1, ii (o + (-1))), (2, ii ((a : Nat) : Int))]) rfl rfl rfl (jn151 (o + (-1)) (opD_c (fun z => z.elim hb7 (fun z => z.elim hb8 hb9)) (Or.inr (Or.inl hb11))))
                        · replace hb11 := dF hb11
                          refine me1 (pc' := 136) (L' := [(0, .ref 13), (1, ii o), (2, ii ((a : Nat) : Int))]) (S' := [.ref 13]) dm_X7_isAmending_135 rfl rfl rfl rfl ?_
                          refine me3 (pc' := 139) (S' := [.ref 9]) dm_X7_isAmending_136 (g_get (v := .ref 9) h13 rfl rfl (by decide)) rfl rfl rfl ?_
                          refine me1 (pc' := 140) (L' := [(0, .ref 13), (1, ii o), (2, ii ((a : Nat) : Int))]) (S' := [ii ((a : Nat) : Int), .ref 9]) dm_X7_isAmending_139 rfl rfl rfl rfl ?_
                          refine me0 (pc' := 142) (S' := [ii 125, ii ((a : Nat) : Int), .ref 9]) dm_X7_isAmending_140 rfl rfl rfl rfl ?_
                          refine x_cp (pc' := 145) (v := zz (decide (isMk T a 125))) (rest := []) dm_X7_isAmending_142 rfl (g_inv (As := [ii ((a : Nat) : Int), ii 125]) (S := []) h9 rfl rfl rfl (by decide)) rfl rfl rfl (tt_mark (i := a) (by omega) hK hT (by omega) (by omega)) ?_
                          refine y_zeq (c := decide (isMk T a 125)) (t := 151) (pc' := 148) dm_X7_isAmending_145 rfl rfl (fun hb12 => ?_) (fun hb12 => ?_)
                          · replace hb12 := dF hb12
                            exact pg_sub (L := [(0, .ref 13), (1, ii o), (2, ii ((a : Nat) : Int))]) rfl rfl rfl (jn151 o (opD_n (fun z => z.elim hb7 (fun z => z.elim hb8 hb9)) (fun z => z.elim hb10 (fun z => z.elim hb11 hb12))))
                          · replace hb12 := dT hb12
                            refine y_iinc (pc' := 151) (L' := [(1, ii (o + (-1))), (0, .ref 13), (2, ii ((a : Nat) : Int))]) dm_X7_isAmending_148 (y_incp (a := o) (c := (-1)) rfl rfl (by decide)) rfl ?_
                            exact pg_sub (L := [(0, .ref 13), (1, ii (o + (-1))), (2, ii ((a : Nat) : Int))]) rfl rfl rfl (jn151 (o + (-1)) (opD_c (fun z => z.elim hb7 (fun z => z.elim hb8 hb9)) (Or.inr (Or.inr hb12))))
                    · replace hb9 := dT hb9
                      refine y_iinc (pc' := 106) (L' := [(1, ii (o + 1)), (0, .ref 13), (2, ii ((a : Nat) : Int))]) dm_X7_isAmending_103 (y_incp (a := o) (c := 1) rfl rfl (by decide)) rfl ?_
                      refine me2 (pc' := 151) (S' := []) dm_X7_isAmending_106 rfl rfl rfl ?_
                      exact pg_sub (L := [(0, .ref 13), (1, ii (o + 1)), (2, ii ((a : Nat) : Int))]) rfl rfl rfl (jn151 (o + 1) (opD_o (Or.inr (Or.inr hb9))))
        exact pg_sub (L := [(0, .ref 13), (1, ii 0), (2, ii ((2 : Nat) : Int))]) rfl rfl rfl (lp46 _ 2 0 rfl (by omega) (by omega) rfl)
      · replace hb3 := dF hb3
        refine me0 (pc' := 41) (S' := [ii 0]) dm_X7_isAmending_40 rfl rfl rfl rfl ?_
        refine y_ret (r := some (ii 0)) dm_X7_isAmending_41 rfl rfl rfl ?_
        refine ⟨congrArg some (zz_f (b := isAm T) ?_), rfl⟩
        unfold isAm
        rw [decide_eq_false (by omega)]; rfl
set_option maxRecDepth 20000 in
theorem pm_X7_sortOfLine : mj_mmof pg_ms 36 = some ((⟨"ArrayCalculator$Reader", "sortOfLine", "()I"⟩, prog_9_method_9_code, 1, (Option.some Jvm.ClassFile.FieldType.int)), 7, false, mj_dec prog_9_method_9_code) := rfl
theorem dm_X7_sortOfLine_0 : mj_dec prog_9_method_9_code 0 = some (.aload_n 0, 1) := by decide +kernel
theorem dm_X7_sortOfLine_1 : mj_dec prog_9_method_9_code 1 = some (.getfield 9, 3) := by decide +kernel
theorem dm_X7_sortOfLine_4 : mj_dec prog_9_method_9_code 4 = some (.iconst 1, 1) := by decide +kernel
theorem dm_X7_sortOfLine_5 : mj_dec prog_9_method_9_code 5 = some (.bipush 58, 2) := by decide +kernel
theorem dm_X7_sortOfLine_7 : mj_dec prog_9_method_9_code 7 = some (.invokevirtual 84, 3) := by decide +kernel
theorem dm_X7_sortOfLine_10 : mj_dec prog_9_method_9_code 10 = some (.ifCond .eq 22, 3) := by decide +kernel
theorem dm_X7_sortOfLine_13 : mj_dec prog_9_method_9_code 13 = some (.aload_n 0, 1) := by decide +kernel
theorem dm_X7_sortOfLine_14 : mj_dec prog_9_method_9_code 14 = some (.getfield 9, 3) := by decide +kernel
theorem dm_X7_sortOfLine_17 : mj_dec prog_9_method_9_code 17 = some (.iconst 2, 1) := by decide +kernel
theorem dm_X7_sortOfLine_18 : mj_dec prog_9_method_9_code 18 = some (.bipush 123, 2) := by decide +kernel
theorem dm_X7_sortOfLine_20 : mj_dec prog_9_method_9_code 20 = some (.invokevirtual 84, 3) := by decide +kernel
theorem dm_X7_sortOfLine_23 : mj_dec prog_9_method_9_code 23 = some (.ifCond .eq 7, 3) := by decide +kernel
theorem dm_X7_sortOfLine_26 : mj_dec prog_9_method_9_code 26 = some (.iconst 2, 1) := by decide +kernel
theorem dm_X7_sortOfLine_27 : mj_dec prog_9_method_9_code 27 = some (.goto 4, 3) := by decide +kernel
theorem dm_X7_sortOfLine_30 : mj_dec prog_9_method_9_code 30 = some (.iconst 1, 1) := by decide +kernel
theorem dm_X7_sortOfLine_31 : mj_dec prog_9_method_9_code 31 = some (.ireturn, 1) := by decide +kernel
theorem dm_X7_sortOfLine_32 : mj_dec prog_9_method_9_code 32 = some (.aload_n 0, 1) := by decide +kernel
theorem dm_X7_sortOfLine_33 : mj_dec prog_9_method_9_code 33 = some (.invokevirtual 88, 3) := by decide +kernel
theorem dm_X7_sortOfLine_36 : mj_dec prog_9_method_9_code 36 = some (.ifCond .eq 7, 3) := by decide +kernel
theorem dm_X7_sortOfLine_39 : mj_dec prog_9_method_9_code 39 = some (.iconst 3, 1) := by decide +kernel
theorem dm_X7_sortOfLine_40 : mj_dec prog_9_method_9_code 40 = some (.goto 4, 3) := by decide +kernel
theorem dm_X7_sortOfLine_43 : mj_dec prog_9_method_9_code 43 = some (.iconst 0, 1) := by decide +kernel
theorem dm_X7_sortOfLine_44 : mj_dec prog_9_method_9_code 44 = some (.ireturn, 1) := by decide +kernel
theorem d_sortOfLine {xt : mj_X} {d mk ln i : Nat} {T : Nat → Tok} {wr ls : Int} {nm : Int64} {st tl : Value} {h : mj_H} (hd : 3 ≤ d) (hK : TOKS T mk ln) (hT : TT h T mk ln) (h13 : h[13]? = some (rdC (i : Int) wr ls nm st tl)) (hmk1 : 1 ≤ mk) (hnm : tqS (T 0) = 3 ∨ tqS (T 0) = 4) : pgP xt d 36 [.ref 13] h (ii ((liS T : Nat) : Int)) := by
  obtain ⟨le_, gd, sf, pf, bf, df, hk9, -, -, -, -, -, -⟩ := id hT
  have h9 := hk9.1
  have hmk200 := hK.1
  refine x_enter pm_X7_sortOfLine (L0 := [(0, .ref 13)]) rfl (Nat.le_of_ble_eq_true rfl) (by omega) ?_
  refine me1 (pc' := 1) (L' := [(0, .ref 13)]) (S' := [.ref 13]) dm_X7_sortOfLine_0 rfl rfl rfl rfl ?_
  refine me3 (pc' := 4) (S' := [.ref 9]) dm_X7_sortOfLine_1 (g_get (v := .ref 9) h13 rfl rfl (by decide)) rfl rfl rfl ?_
  refine me0 (pc' := 5) (S' := [ii 1, .ref 9]) dm_X7_sortOfLine_4 rfl rfl rfl rfl ?_
  refine pg_st (S' := [ii ((1 : Nat) : Int), .ref 9]) (congrArg (fun z => ii z :: [.ref 9]) (rfl)) ?_
  refine me0 (pc' := 7) (S' := [ii 58, ii ((1 : Nat) : Int), .ref 9]) dm_X7_sortOfLine_5 rfl rfl rfl rfl ?_
  refine x_cp (pc' := 10) (v := zz (decide (isMk T 1 58))) (rest := []) dm_X7_sortOfLine_7 rfl (g_inv (As := [ii ((1 : Nat) : Int), ii 58]) (S := []) h9 rfl rfl rfl (by decide)) rfl rfl rfl (tt_mark (i := 1) (by omega) hK hT (by omega) (by omega)) ?_
  refine y_zeq (c := decide (isMk T 1 58)) (t := 32) (pc' := 13) dm_X7_sortOfLine_10 rfl rfl (fun hb1 => ?_) (fun hb1 => ?_)
  · replace hb1 := dF hb1
    refine me1 (pc' := 33) (L' := [(0, .ref 13)]) (S' := [.ref 13]) dm_X7_sortOfLine_32 rfl rfl rfl rfl ?_
    refine x_cp (pc' := 36) (v := zz (isAm T)) (rest := []) dm_X7_sortOfLine_33 rfl (g_inv (As := []) (S := []) h13 rfl rfl rfl (by decide)) rfl rfl rfl (d_isAmending (by omega) hK hT h13 hmk1) ?_
    refine y_zeq (c := isAm T) (t := 43) (pc' := 39) dm_X7_sortOfLine_36 rfl rfl (fun hb2 => ?_) (fun hb2 => ?_)
    · have ham : isAm T = false := hb2
      refine me0 (pc' := 44) (S' := [ii 0]) dm_X7_sortOfLine_43 rfl rfl rfl rfl ?_
      refine y_ret (r := some (ii 0)) dm_X7_sortOfLine_44 rfl rfl rfl ?_
      refine ⟨congrArg some (n_ii ?_), rfl⟩
      unfold liS
      rw [if_pos hnm]
      first | (rw [if_pos (by assumption), if_pos (by assumption)]; rfl) | (rw [if_pos (by assumption), if_neg (by assumption)]; rfl) | (rw [if_neg (by assumption), if_pos (by assumption)]; rfl) | (rw [if_neg (by assumption), if_neg (by rw [ham]; decide)]; rfl)
    · have ham : isAm T = true := hb2
      refine me0 (pc' := 40) (S' := [ii 3]) dm_X7_sortOfLine_39 rfl rfl rfl rfl ?_
      refine me2 (pc' := 44) (S' := [ii 3]) dm_X7_sortOfLine_40 rfl rfl rfl ?_
      refine y_ret (r := some (ii 3)) dm_X7_sortOfLine_44 rfl rfl rfl ?_
      refine ⟨congrArg some (n_ii ?_), rfl⟩
      unfold liS
      rw [if_pos hnm]
      first | (rw [if_pos (by assumption), if_pos (by assumption)]; rfl) | (rw [if_pos (by assumption), if_neg (by assumption)]; rfl) | (rw [if_neg (by assumption), if_pos (by assumption)]; rfl) | (rw [if_neg (by assumption), if_neg (by rw [ham]; decide)]; rfl)
  · replace hb1 := dT hb1
    refine me1 (pc' := 14) (L' := [(0, .ref 13)]) (S' := [.ref 13]) dm_X7_sortOfLine_13 rfl rfl rfl rfl ?_
    refine me3 (pc' := 17) (S' := [.ref 9]) dm_X7_sortOfLine_14 (g_get (v := .ref 9) h13 rfl rfl (by decide)) rfl rfl rfl ?_
    refine me0 (pc' := 18) (S' := [ii 2, .ref 9]) dm_X7_sortOfLine_17 rfl rfl rfl rfl ?_
    refine pg_st (S' := [ii ((2 : Nat) : Int), .ref 9]) (congrArg (fun z => ii z :: [.ref 9]) (rfl)) ?_
    refine me0 (pc' := 20) (S' := [ii 123, ii ((2 : Nat) : Int), .ref 9]) dm_X7_sortOfLine_18 rfl rfl rfl rfl ?_
    refine x_cp (pc' := 23) (v := zz (decide (isMk T 2 123))) (rest := []) dm_X7_sortOfLine_20 rfl (g_inv (As := [ii ((2 : Nat) : Int), ii 123]) (S := []) h9 rfl rfl rfl (by decide)) rfl rfl rfl (tt_mark (i := 2) (by omega) hK hT (by omega) (by omega)) ?_
    refine y_zeq (c := decide (isMk T 2 123)) (t := 30) (pc' := 26) dm_X7_sortOfLine_23 rfl rfl (fun hb3 => ?_) (fun hb3 => ?_)
    · replace hb3 := dF hb3
      refine me0 (pc' := 31) (S' := [ii 1]) dm_X7_sortOfLine_30 rfl rfl rfl rfl ?_
      refine y_ret (r := some (ii 1)) dm_X7_sortOfLine_31 rfl rfl rfl ?_
      refine ⟨congrArg some (n_ii ?_), rfl⟩
      unfold liS
      rw [if_pos hnm]
      first | (rw [if_pos (by assumption), if_pos (by assumption)]; rfl) | (rw [if_pos (by assumption), if_neg (by assumption)]; rfl) | (rw [if_neg (by assumption), if_pos (by assumption)]; rfl) | (rw [if_neg (by assumption), if_neg (by rw [ham]; decide)]; rfl)
    · replace hb3 := dT hb3
      refine me0 (pc' := 27) (S' := [ii 2]) dm_X7_sortOfLine_26 rfl rfl rfl rfl ?_
      refine me2 (pc' := 31) (S' := [ii 2]) dm_X7_sortOfLine_27 rfl rfl rfl ?_
      refine y_ret (r := some (ii 2)) dm_X7_sortOfLine_31 rfl rfl rfl ?_
      refine ⟨congrArg some (n_ii ?_), rfl⟩
      unfold liS
      rw [if_pos hnm]
      first | (rw [if_pos (by assumption), if_pos (by assumption)]; rfl) | (rw [if_pos (by assumption), if_neg (by assumption)]; rfl) | (rw [if_neg (by assumption), if_pos (by assumption)]; rfl) | (rw [if_neg (by assumption), if_neg (by rw [ham]; decide)]; rfl)
set_option maxRecDepth 20000 in
theorem pm_X7_amendment : mj_mmof pg_ms 40 = some ((⟨"ArrayCalculator$Reader", "amendment", "()LArrayCalculator$Op;"⟩, prog_9_method_10_code, 2, (Option.some (Jvm.ClassFile.FieldType.object "ArrayCalculator$Op"))), 7, false, mj_dec prog_9_method_10_code) := rfl
theorem dm_X7_amendment_0 : mj_dec prog_9_method_10_code 0 = some (.new 15, 3) := by decide +kernel
theorem dm_X7_amendment_3 : mj_dec prog_9_method_10_code 3 = some (.dup, 1) := by decide +kernel
theorem dm_X7_amendment_4 : mj_dec prog_9_method_10_code 4 = some (.iconst 2, 1) := by decide +kernel
theorem dm_X7_amendment_5 : mj_dec prog_9_method_10_code 5 = some (.aload_n 0, 1) := by decide +kernel
theorem dm_X7_amendment_6 : mj_dec prog_9_method_10_code 6 = some (.getfield 9, 3) := by decide +kernel
theorem dm_X7_amendment_9 : mj_dec prog_9_method_10_code 9 = some (.iconst 0, 1) := by decide +kernel
theorem dm_X7_amendment_10 : mj_dec prog_9_method_10_code 10 = some (.invokevirtual 81, 3) := by decide +kernel
theorem dm_X7_amendment_13 : mj_dec prog_9_method_10_code 13 = some (.new 15, 3) := by decide +kernel
theorem dm_X7_amendment_16 : mj_dec prog_9_method_10_code 16 = some (.dup, 1) := by decide +kernel
theorem dm_X7_amendment_17 : mj_dec prog_9_method_10_code 17 = some (.bipush 7, 2) := by decide +kernel
theorem dm_X7_amendment_19 : mj_dec prog_9_method_10_code 19 = some (.aload_n 0, 1) := by decide +kernel
theorem dm_X7_amendment_20 : mj_dec prog_9_method_10_code 20 = some (.getfield 9, 3) := by decide +kernel
theorem dm_X7_amendment_23 : mj_dec prog_9_method_10_code 23 = some (.iconst 1, 1) := by decide +kernel
theorem dm_X7_amendment_24 : mj_dec prog_9_method_10_code 24 = some (.invokevirtual 81, 3) := by decide +kernel
theorem dm_X7_amendment_27 : mj_dec prog_9_method_10_code 27 = some (.aconst_null, 1) := by decide +kernel
theorem dm_X7_amendment_28 : mj_dec prog_9_method_10_code 28 = some (.invokespecial 17, 3) := by decide +kernel
theorem dm_X7_amendment_31 : mj_dec prog_9_method_10_code 31 = some (.invokespecial 17, 3) := by decide +kernel
theorem dm_X7_amendment_34 : mj_dec prog_9_method_10_code 34 = some (.astore_n 1, 1) := by decide +kernel
theorem dm_X7_amendment_35 : mj_dec prog_9_method_10_code 35 = some (.aload_n 1, 1) := by decide +kernel
theorem dm_X7_amendment_36 : mj_dec prog_9_method_10_code 36 = some (.aload_n 0, 1) := by decide +kernel
theorem dm_X7_amendment_37 : mj_dec prog_9_method_10_code 37 = some (.getfield 31, 3) := by decide +kernel
theorem dm_X7_amendment_40 : mj_dec prog_9_method_10_code 40 = some (.putfield 91, 3) := by decide +kernel
theorem dm_X7_amendment_43 : mj_dec prog_9_method_10_code 43 = some (.aload_n 1, 1) := by decide +kernel
theorem dm_X7_amendment_44 : mj_dec prog_9_method_10_code 44 = some (.areturn, 1) := by decide +kernel
theorem d_amendment {xt : mj_X} {d mk ln i : Nat} {T : Nat → Tok} {wr ls : Int} {nm : Int64} {st tl : Value} {h : mj_H} (hd : 3 ≤ d) (hK : TOKS T mk ln) (hT : TT h T mk ln) (h13 : h[13]? = some (rdC (i : Int) wr ls nm st tl)) (hl : 127 ≤ h.length) (hmk1 : 1 ≤ mk) : pgV xt d 40 [.ref 13] h (fun x h' => x = .ref h.length ∧ h' = (h ++ [cO 4 [ii 2, ii (tqP (T 0) : Int), ii 0, .long nm, ii 0, ii 0, ii 0, .null, .ref (h.length + 1), .null]]) ++ [cO 4 [ii 7, ii (tqP (T 1) : Int), ii 0, .long (Int64.ofInt 0), ii 0, ii 0, ii 0, .null, .null, .null]]) := by
  obtain ⟨le_, gd, sf, pf, bf, df, hk9, -, -, -, -, -, -⟩ := id hT
  have h9 := hk9.1
  have hmk200 := hK.1
  refine x_enter pm_X7_amendment (L0 := [(0, .ref 13)]) rfl (Nat.le_of_ble_eq_true rfl) (by omega) ?_
  refine me3 (pc' := 3) (S' := [.ref h.length]) (h1 := h ++ [cO 4 [ii 0, ii 0, ii 0, .long (Int64.ofInt 0), ii 0, ii 0, ii 0, .null, .null, .null]]) dm_X7_amendment_0 (g_nw rfl rfl rfl) rfl rfl rfl ?_
  refine me0 (pc' := 4) (S' := [.ref h.length, .ref h.length]) dm_X7_amendment_3 rfl rfl rfl rfl ?_
  refine me0 (pc' := 5) (S' := [ii 2, .ref h.length, .ref h.length]) dm_X7_amendment_4 rfl rfl rfl rfl ?_
  refine me1 (pc' := 6) (L' := [(0, .ref 13)]) (S' := [.ref 13, ii 2, .ref h.length, .ref h.length]) dm_X7_amendment_5 rfl rfl rfl rfl ?_
  refine me3 (pc' := 9) (S' := [.ref 9, ii 2, .ref h.length, .ref h.length]) dm_X7_amendment_6 (g_get (v := .ref 9) (hl_app h13) rfl rfl (by decide)) rfl rfl rfl ?_
  refine me0 (pc' := 10) (S' := [ii 0, .ref 9, ii 2, .ref h.length, .ref h.length]) dm_X7_amendment_9 rfl rfl rfl rfl ?_
  refine pg_st (S' := [ii ((0 : Nat) : Int), .ref 9, ii 2, .ref h.length, .ref h.length]) (congrArg (fun z => ii z :: [.ref 9, ii 2, .ref h.length, .ref h.length]) (rfl)) ?_
  refine x_cp (pc' := 13) (v := ii (tqP (T 0) : Int)) (rest := [ii 2, .ref h.length, .ref h.length]) dm_X7_amendment_10 rfl (g_inv (As := [ii ((0 : Nat) : Int)]) (S := [ii 2, .ref h.length, .ref h.length]) (hl_app h9) rfl rfl rfl (by decide)) rfl rfl rfl (tt_place (i := 0) (by omega) hK (TT_app (by omega) hT) (by omega)) ?_
  refine me3 (pc' := 16) (S' := [.ref (h.length + 1), ii (tqP (T 0) : Int), ii 2, .ref h.length, .ref h.length]) (h1 := (h ++ [cO 4 [ii 0, ii 0, ii 0, .long (Int64.ofInt 0), ii 0, ii 0, ii 0, .null, .null, .null]]) ++ [cO 4 [ii 0, ii 0, ii 0, .long (Int64.ofInt 0), ii 0, ii 0, ii 0, .null, .null, .null]]) dm_X7_amendment_13 (g_nw (by simp) rfl rfl) rfl rfl rfl ?_
  refine me0 (pc' := 17) (S' := [.ref (h.length + 1), .ref (h.length + 1), ii (tqP (T 0) : Int), ii 2, .ref h.length, .ref h.length]) dm_X7_amendment_16 rfl rfl rfl rfl ?_
  refine me0 (pc' := 19) (S' := [ii 7, .ref (h.length + 1), .ref (h.length + 1), ii (tqP (T 0) : Int), ii 2, .ref h.length, .ref h.length]) dm_X7_amendment_17 rfl rfl rfl rfl ?_
  refine me1 (pc' := 20) (L' := [(0, .ref 13)]) (S' := [.ref 13, ii 7, .ref (h.length + 1), .ref (h.length + 1), ii (tqP (T 0) : Int), ii 2, .ref h.length, .ref h.length]) dm_X7_amendment_19 rfl rfl rfl rfl ?_
  refine me3 (pc' := 23) (S' := [.ref 9, ii 7, .ref (h.length + 1), .ref (h.length + 1), ii (tqP (T 0) : Int), ii 2, .ref h.length, .ref h.length]) dm_X7_amendment_20 (g_get (v := .ref 9) (hl_app (hl_app h13)) rfl rfl (by decide)) rfl rfl rfl ?_
  refine me0 (pc' := 24) (S' := [ii 1, .ref 9, ii 7, .ref (h.length + 1), .ref (h.length + 1), ii (tqP (T 0) : Int), ii 2, .ref h.length, .ref h.length]) dm_X7_amendment_23 rfl rfl rfl rfl ?_
  refine pg_st (S' := [ii ((1 : Nat) : Int), .ref 9, ii 7, .ref (h.length + 1), .ref (h.length + 1), ii (tqP (T 0) : Int), ii 2, .ref h.length, .ref h.length]) (congrArg (fun z => ii z :: [.ref 9, ii 7, .ref (h.length + 1), .ref (h.length + 1), ii (tqP (T 0) : Int), ii 2, .ref h.length, .ref h.length]) (rfl)) ?_
  refine x_cp (pc' := 27) (v := ii (tqP (T 1) : Int)) (rest := [ii 7, .ref (h.length + 1), .ref (h.length + 1), ii (tqP (T 0) : Int), ii 2, .ref h.length, .ref h.length]) dm_X7_amendment_24 rfl (g_inv (As := [ii ((1 : Nat) : Int)]) (S := [ii 7, .ref (h.length + 1), .ref (h.length + 1), ii (tqP (T 0) : Int), ii 2, .ref h.length, .ref h.length]) (hl_app (hl_app h9)) rfl rfl rfl (by decide)) rfl rfl rfl (tt_place (i := 1) (by omega) hK (TT_app (by simp; omega) (TT_app (by omega) hT)) (by omega)) ?_
  refine me0 (pc' := 28) (S' := [.null, ii (tqP (T 1) : Int), ii 7, .ref (h.length + 1), .ref (h.length + 1), ii (tqP (T 0) : Int), ii 2, .ref h.length, .ref h.length]) dm_X7_amendment_27 rfl rfl rfl rfl ?_
  refine x_cn (pc' := 31) (rest := [.ref (h.length + 1), ii (tqP (T 0) : Int), ii 2, .ref h.length, .ref h.length]) dm_X7_amendment_28 rfl (g_invp (As := [ii 7, ii (tqP (T 1) : Int), .null]) (S := [.ref (h.length + 1), ii (tqP (T 0) : Int), ii 2, .ref h.length, .ref h.length]) rfl rfl rfl) rfl rfl rfl (o_init (b := none) (by omega) (by omega) (hl_newa (by simp)) (hl_seta (by simp))) ?_
  rintro _ rfl
  refine x_cn (pc' := 34) (rest := [.ref h.length]) dm_X7_amendment_31 rfl (g_invp (As := [ii 2, ii (tqP (T 0) : Int), .ref (h.length + 1)]) (S := [.ref h.length]) rfl rfl rfl) rfl rfl rfl (o_init (b := some (h.length + 1)) (by omega) (by omega) (hl_app hl_new) (hl_setll)) ?_
  rintro _ rfl
  refine me1 (pc' := 35) (L' := [(1, .ref h.length), (0, .ref 13)]) (S' := []) dm_X7_amendment_34 rfl rfl rfl rfl ?_
  refine me1 (pc' := 36) (L' := [(1, .ref h.length), (0, .ref 13)]) (S' := [.ref h.length]) dm_X7_amendment_35 rfl rfl rfl rfl ?_
  refine me1 (pc' := 37) (L' := [(1, .ref h.length), (0, .ref 13)]) (S' := [.ref 13, .ref h.length]) dm_X7_amendment_36 rfl rfl rfl rfl ?_
  refine me3 (pc' := 40) (S' := [.long nm, .ref h.length]) dm_X7_amendment_37 (g_get (v := .long nm) (hl_app (hl_app h13)) rfl rfl (by decide)) rfl rfl rfl ?_
  refine me3 (pc' := 43) (S' := []) (h1 := (h ++ [cO 4 [ii 2, ii (tqP (T 0) : Int), ii 0, .long nm, ii 0, ii 0, ii 0, .null, .ref (h.length + 1), .null]]) ++ [cO 4 [ii 7, ii (tqP (T 1) : Int), ii 0, .long (Int64.ofInt 0), ii 0, ii 0, ii 0, .null, .null, .null]]) dm_X7_amendment_40 (g_put (fs' := [ii 2, ii (tqP (T 0) : Int), ii 0, .long nm, ii 0, ii 0, ii 0, .null, .ref (h.length + 1), .null]) (hl_app hl_new) rfl (hl_setll) rfl (by simp) rfl (by decide) (fun z => by cases z) (by omega)) rfl rfl rfl ?_
  refine me1 (pc' := 44) (L' := [(1, .ref h.length), (0, .ref 13)]) (S' := [.ref h.length]) dm_X7_amendment_43 rfl rfl rfl rfl ?_
  refine y_ret (r := some (.ref h.length)) dm_X7_amendment_44 rfl rfl rfl ?_
  exact ⟨_, rfl, rfl, rfl⟩
