/-! the reference reads: what changes, where it stands, its nodes -/
theorem pgN_mono {xt : mj_X} {d k : Nat} {As : List Value} {h : mj_H} {P Q : mj_H → Prop} (hp : pgN xt d k As h P) (hi : ∀ h', P h' → Q h') : pgN xt d k As h Q := by
  obtain ⟨r, h', a, b, c⟩ := hp
  exact ⟨r, h', a, b, hi h' c⟩
def rdR (s t : RS) : Prop := rext s t ∧ s.1 50 ≤ t.1 50 ∧ (∀ k, ¬ (k = 3 ∨ k = 4 ∨ (35 ≤ k ∧ k ≤ 40) ∨ (50 ≤ k ∧ k ≤ 52)) → t.1 k = s.1 k) ∧ (∀ k, k ≠ 41 → t.2.1 k = s.2.1 k) ∧ (∀ k, ¬ (k = 1 ∨ k = 2 ∨ (43 ≤ k ∧ k ≤ 48)) → t.2.2.1 k = s.2.2.1 k) ∧ (∀ k, k ≠ 0 → k ≠ 49 → t.2.2.2 k = s.2.2.2 k) ∧ (∀ k x : Nat, 43 ≤ k → k ≤ 48 → (x : Int) < s.1 50 → t.2.2.1 k x = s.2.2.1 k x) ∧ (∀ x : Nat, (x : Int) < s.1 50 → t.2.2.2 49 x = s.2.2.2 49 x)
theorem rdR_rf (s : RS) : rdR s s := ⟨rext_rf s, Int.le_refl _, fun _ _ => rfl, fun _ _ => rfl, fun _ _ => rfl, fun _ _ _ => rfl, fun _ _ _ _ _ => rfl, fun _ _ => rfl⟩
theorem rdR_tr {s t u : RS} (a : rdR s t) (b : rdR t u) : rdR s u := by
  obtain ⟨a1, a2, a3, a4, a5, a6, a7, a8⟩ := a
  obtain ⟨b1, b2, b3, b4, b5, b6, b7, b8⟩ := b
  exact ⟨rext_tr a1 b1, Int.le_trans a2 b2, fun k h => (b3 k h).trans (a3 k h), fun k h => (b4 k h).trans (a4 k h), fun k h => (b5 k h).trans (a5 k h), fun k h1 h2 => (b6 k h1 h2).trans (a6 k h1 h2), fun k x h1 h2 h3 => (b7 k x h1 h2 (Int.lt_of_lt_of_le h3 a2)).trans (a7 k x h1 h2 h3), fun x h => (b8 x (Int.lt_of_lt_of_le h a2)).trans (a8 x h)⟩
/-- nothing was made -/
def rdT (s t : RS) : Prop := rdR s t ∧ t.1 3 = s.1 3 ∧ t.1 4 = s.1 4 ∧ t.1 50 = s.1 50 ∧ t.2.2 = s.2.2
theorem rdT_rf (s : RS) : rdT s s := ⟨rdR_rf s, rfl, rfl, rfl, rfl⟩
theorem rdT_tr {s t u : RS} (a : rdT s t) (b : rdT t u) : rdT s u := ⟨rdR_tr a.1 b.1, b.2.1.trans a.2.1, b.2.2.1.trans a.2.2.1, b.2.2.2.1.trans a.2.2.2.1, b.2.2.2.2.trans a.2.2.2.2⟩
theorem rdT_i {s t : RS} (h0 : t.2.2 = s.2.2) (h1 : ∀ k, ¬ ((35 ≤ k ∧ k ≤ 40) ∨ (51 ≤ k ∧ k ≤ 52)) → t.1 k = s.1 k) (h2 : ∀ k, k ≠ 41 → t.2.1 k = s.2.1 k) : rdT s t := by
  have e3 := h1 3 (by decide)
  have e4 := h1 4 (by decide)
  have e5 := h1 50 (by decide)
  refine ⟨⟨⟨by omega, by omega, fun _ _ _ => by rw [h0]; exact ⟨rfl, rfl⟩, fun _ _ => by rw [h0]⟩, by omega, fun k hk => h1 k (by omega), h2, fun _ _ => by rw [h0], fun _ _ _ => by rw [h0], fun _ _ _ _ _ => by rw [h0], fun _ _ => by rw [h0]⟩, e3, e4, e5, h0⟩
theorem rdT_tk {s t : RS} (h : rtk s t) : rdT s t := rdT_i (Prod.ext h.1 h.2.1) (fun k hk => h.2.2.1 k (by omega)) h.2.2.2
/-- the token is as it was -/
def tkE (s t : RS) : Prop := (∀ k, 35 ≤ k → k ≤ 40 → t.1 k = s.1 k) ∧ t.2.1 41 = s.2.1 41
theorem tkE_rf (s : RS) : tkE s s := ⟨fun _ _ _ => rfl, rfl⟩
theorem tkE_tr {s t u : RS} (a : tkE s t) (b : tkE t u) : tkE s u := ⟨fun k x y => (b.1 k x y).trans (a.1 k x y), b.2.trans a.2⟩
def FNp (bf : Nat → Int) (ln : Nat) (fn : Int → Bool) (s : RS) (m : Nat) : Prop := ∀ p, p < ln → isLtI (bf p) → (fn (ckI bf p (rnL ltB bf ln 8 p)) = true ↔ fnR s m (Int64.ofInt (rkI bf p (rnL ltB bf ln 8 p))))
/-- the reference reads, and stands at token i; it knows the tokens as far as hi -/
def RD (bf : Nat → Int) (ln : Nat) (F : Nat → Int → Bool) (n m hi : Nat) (s : RS) (i : Nat) : Prop := rtI bf ln F s i ∧ tpR s bf ln ∧ (s.1 23 = (n : Int) ∧ s.1 24 = (m : Int) ∧ n ≤ 40 ∧ m ≤ 40) ∧ (∀ j, i < j → j ≤ hi → FNp bf ln (F j) s m)
section RDs
variable {bf : Nat → Int} {ln n m hi i : Nat} {F : Nat → Int → Bool} {s t : RS}
theorem fnR_k (h : rdR s t) {r : Int64} : fnR t m r ↔ fnR s m r := by
  unfold fnR
  rw [h.2.2.2.1 42 (by decide), h.2.2.2.2.2.1 20 (by decide) (by decide)]
theorem tpR_d (h : rdR s t) (hp : tpR s bf ln) : tpR t bf ln := by
  unfold tpR at hp ⊢
  rw [h.2.2.1 34 (by decide), h.2.2.2.2.1 32 (by decide)]
  exact hp
theorem RD_fr (h : rdR s t) (e : tkE s t) (hR : RD bf ln F n m hi s i) : RD bf ln F n m hi t i := by
  obtain ⟨r1, r2, r3, r4⟩ := hR
  refine ⟨?_, tpR_d h r2, ?_, fun j a b p c d => (r4 j a b p c d).trans (fnR_k h).symm⟩
  · unfold rtI rtP rtQ acQ at r1 ⊢
    rw [e.1 35 (by decide) (by decide), e.1 36 (by decide) (by decide), e.1 37 (by decide) (by decide), e.1 38 (by decide) (by decide), e.1 39 (by decide) (by decide), e.1 40 (by decide) (by decide), e.2]
    exact r1
  · rw [h.2.2.1 23 (by decide), h.2.2.1 24 (by decide)]
    exact r3
theorem RD_nx (h : RD bf ln F n m hi s i) (hk : rtk s t) (hp : rtP bf ln t (tkQ bf ln F (i + 1)) (tkA bf ln (F (i + 1)) (tkQ bf ln F (i + 1)))) : RD bf ln F n m hi t (i + 1) := by
  obtain ⟨r1, r2, r3, r4⟩ := h
  have hd := (rdT_tk hk).1
  refine ⟨hp, tpR_d hd r2, ?_, fun j a b p c d => (r4 j (by omega) b p c d).trans (fnR_k hd).symm⟩
  rw [hd.2.2.1 23 (by decide), hd.2.2.1 24 (by decide)]
  exact r3
theorem RD_hi {hi2 : Nat} (h : RD bf ln F n m hi s i) (hh : hi2 ≤ hi) : RD bf ln F n m hi2 s i := ⟨h.1, h.2.1, h.2.2.1, fun j a b => h.2.2.2 j a (by omega)⟩
theorem RD_38 (h : RD bf ln F n m hi s i) : s.1 38 = ((tqS (tkI bf ln F i) : Nat) : Int) ∧ s.1 39 = ((tqP (tkI bf ln F i) : Nat) : Int) := ⟨h.1.1, h.1.2.1⟩
theorem RD_40 (h : RD bf ln F n m hi s i) (h2 : tqS (tkI bf ln F i) = 2 ∨ tqS (tkI bf ln F i) = 5 ∨ tqS (tkI bf ln F i) = 6 ∨ tqS (tkI bf ln F i) = 7) : s.1 40 = tqD (tkI bf ln F i) := h.1.2.2.1.2.2 h2
theorem RD_d1 (h : RD bf ln F n m hi s i) (h2 : tqS (tkI bf ln F i) = 1) : s.2.1 41 = Int64.ofInt (tqD (tkI bf ln F i)) := h.1.2.2.1.1 h2
theorem RD_dn (h : RD bf ln F n m hi s i) (h2 : tqS (tkI bf ln F i) = 3 ∨ tqS (tkI bf ln F i) = 4) : s.2.1 41 = Int64.ofInt (tqR (tkI bf ln F i)) := h.1.2.2.1.2.1 h2
theorem RD_q (h : RD bf ln F n m hi s i) : rtQ bf ln s (tkQ bf ln F (i + 1)) := by rw [tkQ_s]; exact h.1.2.2.2
/-- the sign, where one is asked for -/
theorem RD_s {T : Nat → Tok} {mk : Nat} (hT : T = tkI bf ln F) (hK : TOKS T mk ln) (h : RD bf ln F n m hi s i) : s.1 38 = ((tqS (T i) : Nat) : Int) ∧ tqS (T i) ≤ 8 ∧ (tqS (T i) = 5 ∨ tqS (T i) = 6 ∨ tqS (T i) = 7 → s.1 40 = tqD (T i) ∧ 1 ≤ tqD (T i) ∧ tqD (T i) ≤ 126) := by
  subst hT
  exact ⟨(RD_38 h).1, tkI_8, fun z => ⟨RD_40 h (by omega), hK.2.2.2.2.2.2.2.2.2.1 i z⟩⟩
end RDs
/-! the nodes of a line -/
def nodS (s : RS) (N : Nat) (w a b c p : Int) : RS := (va_up s.1 50 ((N : Int) + 1), s.2.1, va_up (va_up (va_up (va_up (va_up (va_up s.2.2.1 43 (va_up (s.2.2.1 43) N w)) 44 (va_up (s.2.2.1 44) N a)) 45 (va_up (s.2.2.1 45) N b)) 46 (va_up (s.2.2.1 46) N c)) 47 (va_up (s.2.2.1 47) N p)) 48 (va_up (s.2.2.1 48) N (-1)), s.2.2.2)
theorem nod_at (s : RS) (N : Nat) (w a b c p : Int) : (nodS s N w a b c p).2.2.1 43 N = w ∧ (nodS s N w a b c p).2.2.1 44 N = a ∧ (nodS s N w a b c p).2.2.1 45 N = b ∧ (nodS s N w a b c p).2.2.1 46 N = c ∧ (nodS s N w a b c p).2.2.1 47 N = p ∧ (nodS s N w a b c p).2.2.1 48 N = -1 := by
  unfold nodS
  refine ⟨?_, ?_, ?_, ?_, ?_, ?_⟩ <;> simp [va_up]
theorem nod_k (s : RS) (N : Nat) (w a b c p : Int) (k x : Nat) (hx : x ≠ N ∨ k < 43 ∨ 48 < k) : (nodS s N w a b c p).2.2.1 k x = s.2.2.1 k x := by
  unfold nodS
  show va_up (va_up (va_up (va_up (va_up (va_up s.2.2.1 43 _) 44 _) 45 _) 46 _) 47 _) 48 _ k x = _
  by_cases e8 : k = 48
  · subst e8; rw [up_eq, up_ne _ _ (by omega)]
  rw [up_ne _ _ e8]
  by_cases e7 : k = 47
  · subst e7; rw [up_eq, up_ne _ _ (by omega)]
  rw [up_ne _ _ e7]
  by_cases e6 : k = 46
  · subst e6; rw [up_eq, up_ne _ _ (by omega)]
  rw [up_ne _ _ e6]
  by_cases e5 : k = 45
  · subst e5; rw [up_eq, up_ne _ _ (by omega)]
  rw [up_ne _ _ e5]
  by_cases e4 : k = 44
  · subst e4; rw [up_eq, up_ne _ _ (by omega)]
  rw [up_ne _ _ e4]
  by_cases e3 : k = 43
  · subst e3; rw [up_eq, up_ne _ _ (by omega)]
  rw [up_ne _ _ e3]
theorem rdR_nod {s : RS} {N : Nat} (h : s.1 50 = (N : Int)) (w a b c p : Int) : rdR s (nodS s N w a b c p) := by
  have f : ∀ k, k ≠ 50 → (nodS s N w a b c p).1 k = s.1 k := fun k hk => up_ne _ _ hk
  refine ⟨⟨by rw [f 4 (by decide)]; exact Int.le_refl _, by rw [f 3 (by decide)]; exact Int.le_refl _, fun hd _ _ => ⟨nod_k s N w a b c p 1 hd (by omega), nod_k s N w a b c p 2 hd (by omega)⟩, fun _ _ => rfl⟩, ?_, fun k hk => f k (by omega), fun _ _ => rfl, fun k hk => funext fun x => nod_k s N w a b c p k x (by omega), fun _ _ _ => rfl, fun k x h1 h2 h3 => nod_k s N w a b c p k x (by omega), fun _ _ => rfl⟩
  show s.1 50 ≤ va_up s.1 50 ((N : Int) + 1) 50
  rw [up_eq]; omega
theorem tkE_nod (s : RS) (N : Nat) (w a b c p : Int) : tkE s (nodS s N w a b c p) := ⟨fun k _ _ => up_ne _ _ (by omega), rfl⟩
theorem nod_i (s : RS) (N : Nat) (w a b c p : Int) : (nodS s N w a b c p).1 50 = (N : Int) + 1 ∧ (∀ k, k ≠ 50 → (nodS s N w a b c p).1 k = s.1 k) := ⟨by show va_up s.1 50 ((N : Int) + 1) 50 = _; rw [up_eq], fun k hk => by show va_up s.1 50 ((N : Int) + 1) k = _; rw [up_ne _ _ hk]⟩
/-- the reference's word for an ADVERB -/
def rcA (c : Int) : Int := if c = 47 then 1 else if c = 92 then 2 else 3
def rvI (T : Nat → Tok) (i : Nat) : Nat → Int
  | 0 => 0
  | k + 1 => rvI T i k + rcA (tqD (T (i + k))) * 4 ^ k
/-- node a is the act at token i -/
def acR (s : RS) (T : Nat → Tok) (i a : Nat) (noun bf : Int) : Prop := (tqS (T i) = 5 → s.2.2.1 43 a = 6 ∧ s.2.2.1 45 a = tqD (T i)) ∧ (tqS (T i) = 4 → s.2.2.1 43 a = 7 ∧ s.2.2.2 49 a = Int64.ofInt (tqR (T i))) ∧ s.2.2.1 44 a = noun ∧ s.2.2.1 46 a = rvI T (i + 1) (avM T i) ∧ s.2.2.1 47 a = (tqP (T i) : Int) ∧ s.2.2.1 48 a = bf
/-- node n stands for what is read at token i; modes as in pR; all nodes lie below B; x: the act ahead (mode 0), the noun inside (2), the part ahead (4) -/
def rR (s : RS) (T : Nat → Tok) : Nat → Nat → Nat → Nat → Nat → Nat → Int → Prop
  | 0, _, _, _, _, _, _ => False
  | f + 1, 0, o, i, B, n, x =>
    if isDs T i then ∃ a : Nat, a < n ∧ acR s T i a (-1) x ∧ rR s T f 0 o (dsE T i) B n (a : Int) else
    match pR T f 1 o i with
    | .inl _ => False
    | .inr j => if isDs T j then ∃ a nn : Nat, a < n ∧ nn < n ∧ acR s T j a (nn : Int) x ∧ rR s T f 1 o i n nn 0 ∧ rR s T f 0 o (dsE T j) B n (a : Int)
      else ∃ nn : Nat, n < B ∧ nn < n ∧ rR s T f 1 o i n nn 0 ∧ s.2.2.1 43 n = 0 ∧ s.2.2.1 44 n = (nn : Int) ∧ s.2.2.1 45 n = x
  | f + 1, 1, o, i, B, n, _ =>
    match pR T f 3 o i with
    | .inl _ => False
    | .inr j => ∃ n0 : Nat, rR s T f 3 o i B n0 0 ∧ rR s T f 2 o j B n (n0 : Int)
  | f + 1, 2, o, j, B, n, x =>
    if isIx T j then
      match pR T f 0 (o + 1) (j + 2) with
      | .inl _ => False
      | .inr k => ∃ pn e : Nat, pn < B ∧ e < B ∧ rR s T f 0 (o + 1) (j + 2) B e (-1) ∧ (s.2.2.1 43 pn = 5 ∧ s.2.2.1 44 pn = x ∧ s.2.2.1 45 pn = (e : Int) ∧ s.2.2.1 47 pn = (tqP (T j) : Int)) ∧ rR s T f 2 o (k + 1) B n (pn : Int)
    else (n : Int) = x
  | f + 1, 3, o, i, B, n, _ =>
    if tqS (T i) = 1 then n < B ∧ s.2.2.1 43 n = 1 ∧ ∃ h : Nat, 3 ≤ h ∧ s.2.2.1 44 n = (h : Int) ∧ rv s 1 h (nuV T i (soN T 1 201 i)) else
    if tqS (T i) = 2 then n < B ∧ s.2.2.1 43 n = 1 ∧ ∃ h : Nat, 3 ≤ h ∧ s.2.2.1 44 n = (h : Int) ∧ rv s 1 h (txV T i) else
    if tqS (T i) = 3 then n < B ∧ s.2.2.1 43 n = 2 ∧ s.2.2.2 49 n = Int64.ofInt (tqR (T i)) ∧ s.2.2.1 47 n = (tqP (T i) : Int) else
    if isMk T i 40 then (if isMk T (i + 1) 41 then n < B ∧ s.2.2.1 43 n = 3 ∧ s.2.2.1 44 n = -1 ∧ s.2.2.1 45 n = 0 ∧ s.2.2.1 47 n = (tqP (T i) : Int)
      else n < B ∧ s.2.2.1 43 n = 3 ∧ s.2.2.1 45 n = (plN T f (o + 1) (i + 1) : Int) ∧ s.2.2.1 47 n = (tqP (T i) : Int) ∧ ∃ l : Nat, l < B ∧ s.2.2.1 44 n = (l : Int) ∧ rR s T f 4 (o + 1) (i + 1) B l (-1)) else
    match pR T f 0 (o + 1) (i + 1) with
    | .inl _ => False
    | .inr j => match pR T f 0 (o + 1) (j + 1) with
      | .inl _ => False
      | .inr k => ∃ a b c : Nat, (n < B ∧ a < B ∧ b < B ∧ c < B) ∧ rR s T f 0 (o + 1) (i + 1) B a (-1) ∧ rR s T f 0 (o + 1) (j + 1) B b (-1) ∧ rR s T f 0 (o + 1) (k + 1) B c (-1) ∧ s.2.2.1 43 n = 4 ∧ s.2.2.1 44 n = (a : Int) ∧ s.2.2.1 45 n = (b : Int) ∧ s.2.2.1 46 n = (c : Int) ∧ s.2.2.1 47 n = (tqP (T i) : Int)
  | f + 1, _ + 4, o, i, B, n, x =>
    match pR T f 0 o i with
    | .inl _ => False
    | .inr j => ∃ e : Nat, e < B ∧ rR s T f 0 o i B e (-1) ∧ s.2.2.1 48 e = x ∧ (if isMk T j 59 then rR s T f 4 o (j + 1) B n (e : Int) else n = e)
section rRs
variable {s : RS} {T : Nat → Tok} {f o i j k B n : Nat} {x : Int}
theorem rR_d (hd : isDs T i) : rR s T (f + 1) 0 o i B n x ↔ ∃ a : Nat, a < n ∧ acR s T i a (-1) x ∧ rR s T f 0 o (dsE T i) B n (a : Int) := iff_of_eq (if_pos hd)
theorem rR_m0 (hd : ¬ isDs T i) : rR s T (f + 1) 0 o i B n x = (match pR T f 1 o i with
    | .inl _ => False
    | .inr j => if isDs T j then ∃ a nn : Nat, a < n ∧ nn < n ∧ acR s T j a (nn : Int) x ∧ rR s T f 1 o i n nn 0 ∧ rR s T f 0 o (dsE T j) B n (a : Int)
      else ∃ nn : Nat, n < B ∧ nn < n ∧ rR s T f 1 o i n nn 0 ∧ s.2.2.1 43 n = 0 ∧ s.2.2.1 44 n = (nn : Int) ∧ s.2.2.1 45 n = x) := if_neg hd
theorem rR_a (hd : ¬ isDs T i) (e : pR T f 1 o i = .inr j) (hj : isDs T j) : rR s T (f + 1) 0 o i B n x ↔ ∃ a nn : Nat, a < n ∧ nn < n ∧ acR s T j a (nn : Int) x ∧ rR s T f 1 o i n nn 0 ∧ rR s T f 0 o (dsE T j) B n (a : Int) := by
  rw [rR_m0 hd, e]
  exact iff_of_eq (if_pos hj)
theorem rR_n (hd : ¬ isDs T i) (e : pR T f 1 o i = .inr j) (hj : ¬ isDs T j) : rR s T (f + 1) 0 o i B n x ↔ ∃ nn : Nat, n < B ∧ nn < n ∧ rR s T f 1 o i n nn 0 ∧ s.2.2.1 43 n = 0 ∧ s.2.2.1 44 n = (nn : Int) ∧ s.2.2.1 45 n = x := by
  rw [rR_m0 hd, e]
  exact iff_of_eq (if_neg hj)
theorem rR_1 (e : pR T f 3 o i = .inr j) : rR s T (f + 1) 1 o i B n x ↔ ∃ n0 : Nat, rR s T f 3 o i B n0 0 ∧ rR s T f 2 o j B n (n0 : Int) := by
  show (match pR T f 3 o i with | .inl _ => False | .inr j => ∃ n0 : Nat, rR s T f 3 o i B n0 0 ∧ rR s T f 2 o j B n (n0 : Int)) ↔ _
  rw [e]
theorem rR_m2 (hx : isIx T j) : rR s T (f + 1) 2 o j B n x = (match pR T f 0 (o + 1) (j + 2) with
      | .inl _ => False
      | .inr k => ∃ pn e : Nat, pn < B ∧ e < B ∧ rR s T f 0 (o + 1) (j + 2) B e (-1) ∧ (s.2.2.1 43 pn = 5 ∧ s.2.2.1 44 pn = x ∧ s.2.2.1 45 pn = (e : Int) ∧ s.2.2.1 47 pn = (tqP (T j) : Int)) ∧ rR s T f 2 o (k + 1) B n (pn : Int)) := if_pos hx
theorem rR_ix (hx : isIx T j) (e : pR T f 0 (o + 1) (j + 2) = .inr k) : rR s T (f + 1) 2 o j B n x ↔ ∃ pn e : Nat, pn < B ∧ e < B ∧ rR s T f 0 (o + 1) (j + 2) B e (-1) ∧ (s.2.2.1 43 pn = 5 ∧ s.2.2.1 44 pn = x ∧ s.2.2.1 45 pn = (e : Int) ∧ s.2.2.1 47 pn = (tqP (T j) : Int)) ∧ rR s T f 2 o (k + 1) B n (pn : Int) := by rw [rR_m2 hx, e]
theorem rR_ixn (hx : ¬ isIx T j) : rR s T (f + 1) 2 o j B n x ↔ (n : Int) = x := iff_of_eq (if_neg hx)
theorem rR_nu (h : tqS (T i) = 1) : rR s T (f + 1) 3 o i B n x ↔ n < B ∧ s.2.2.1 43 n = 1 ∧ ∃ h : Nat, 3 ≤ h ∧ s.2.2.1 44 n = (h : Int) ∧ rv s 1 h (nuV T i (soN T 1 201 i)) := iff_of_eq (if_pos h)
theorem rR_m3 (h : ¬ tqS (T i) = 1) : rR s T (f + 1) 3 o i B n x = (if tqS (T i) = 2 then n < B ∧ s.2.2.1 43 n = 1 ∧ ∃ h : Nat, 3 ≤ h ∧ s.2.2.1 44 n = (h : Int) ∧ rv s 1 h (txV T i) else
    if tqS (T i) = 3 then n < B ∧ s.2.2.1 43 n = 2 ∧ s.2.2.2 49 n = Int64.ofInt (tqR (T i)) ∧ s.2.2.1 47 n = (tqP (T i) : Int) else
    if isMk T i 40 then (if isMk T (i + 1) 41 then n < B ∧ s.2.2.1 43 n = 3 ∧ s.2.2.1 44 n = -1 ∧ s.2.2.1 45 n = 0 ∧ s.2.2.1 47 n = (tqP (T i) : Int)
      else n < B ∧ s.2.2.1 43 n = 3 ∧ s.2.2.1 45 n = (plN T f (o + 1) (i + 1) : Int) ∧ s.2.2.1 47 n = (tqP (T i) : Int) ∧ ∃ l : Nat, l < B ∧ s.2.2.1 44 n = (l : Int) ∧ rR s T f 4 (o + 1) (i + 1) B l (-1)) else
    match pR T f 0 (o + 1) (i + 1) with
    | .inl _ => False
    | .inr j => match pR T f 0 (o + 1) (j + 1) with
      | .inl _ => False
      | .inr k => ∃ a b c : Nat, (n < B ∧ a < B ∧ b < B ∧ c < B) ∧ rR s T f 0 (o + 1) (i + 1) B a (-1) ∧ rR s T f 0 (o + 1) (j + 1) B b (-1) ∧ rR s T f 0 (o + 1) (k + 1) B c (-1) ∧ s.2.2.1 43 n = 4 ∧ s.2.2.1 44 n = (a : Int) ∧ s.2.2.1 45 n = (b : Int) ∧ s.2.2.1 46 n = (c : Int) ∧ s.2.2.1 47 n = (tqP (T i) : Int)) := if_neg h
theorem rR_tx (h : tqS (T i) = 2) : rR s T (f + 1) 3 o i B n x ↔ n < B ∧ s.2.2.1 43 n = 1 ∧ ∃ h : Nat, 3 ≤ h ∧ s.2.2.1 44 n = (h : Int) ∧ rv s 1 h (txV T i) := by
  rw [rR_m3 (by omega)]; exact iff_of_eq (if_pos h)
theorem rR_nm (h : tqS (T i) = 3) : rR s T (f + 1) 3 o i B n x ↔ n < B ∧ s.2.2.1 43 n = 2 ∧ s.2.2.2 49 n = Int64.ofInt (tqR (T i)) ∧ s.2.2.1 47 n = (tqP (T i) : Int) := by
  rw [rR_m3 (by omega), if_neg (by omega)]; exact iff_of_eq (if_pos h)
theorem rR_g0 (h : isMk T i 40) (h2 : isMk T (i + 1) 41) : rR s T (f + 1) 3 o i B n x ↔ n < B ∧ s.2.2.1 43 n = 3 ∧ s.2.2.1 44 n = -1 ∧ s.2.2.1 45 n = 0 ∧ s.2.2.1 47 n = (tqP (T i) : Int) := by
  have := h.1
  rw [rR_m3 (by omega), if_neg (by omega), if_neg (by omega), if_pos h]; exact iff_of_eq (if_pos h2)
theorem rR_g (h : isMk T i 40) (h2 : ¬ isMk T (i + 1) 41) : rR s T (f + 1) 3 o i B n x ↔ n < B ∧ s.2.2.1 43 n = 3 ∧ s.2.2.1 45 n = (plN T f (o + 1) (i + 1) : Int) ∧ s.2.2.1 47 n = (tqP (T i) : Int) ∧ ∃ l : Nat, l < B ∧ s.2.2.1 44 n = (l : Int) ∧ rR s T f 4 (o + 1) (i + 1) B l (-1) := by
  have := h.1
  rw [rR_m3 (by omega), if_neg (by omega), if_neg (by omega), if_pos h]; exact iff_of_eq (if_neg h2)
theorem rR_cx {p : Nat} (h1 : ¬ tqS (T i) = 1) (h2 : ¬ tqS (T i) = 2) (h3 : ¬ tqS (T i) = 3) (h4 : ¬ isMk T i 40) (e1 : pR T f 0 (o + 1) (i + 1) = .inl p) : ¬ rR s T (f + 1) 3 o i B n x := by
  rw [rR_m3 h1, if_neg h2, if_neg h3, if_neg h4, e1]
  exact fun z => z
theorem rR_cy {p : Nat} (h1 : ¬ tqS (T i) = 1) (h2 : ¬ tqS (T i) = 2) (h3 : ¬ tqS (T i) = 3) (h4 : ¬ isMk T i 40) (e1 : pR T f 0 (o + 1) (i + 1) = .inr j) (e2 : pR T f 0 (o + 1) (j + 1) = .inl p) : ¬ rR s T (f + 1) 3 o i B n x := by
  rw [rR_m3 h1, if_neg h2, if_neg h3, if_neg h4, e1]
  simp only
  rw [e2]
  exact fun z => z
theorem rR_cc (h1 : ¬ tqS (T i) = 1) (h2 : ¬ tqS (T i) = 2) (h3 : ¬ tqS (T i) = 3) (h4 : ¬ isMk T i 40) (e1 : pR T f 0 (o + 1) (i + 1) = .inr j) (e2 : pR T f 0 (o + 1) (j + 1) = .inr k) : rR s T (f + 1) 3 o i B n x ↔ ∃ a b c : Nat, (n < B ∧ a < B ∧ b < B ∧ c < B) ∧ rR s T f 0 (o + 1) (i + 1) B a (-1) ∧ rR s T f 0 (o + 1) (j + 1) B b (-1) ∧ rR s T f 0 (o + 1) (k + 1) B c (-1) ∧ s.2.2.1 43 n = 4 ∧ s.2.2.1 44 n = (a : Int) ∧ s.2.2.1 45 n = (b : Int) ∧ s.2.2.1 46 n = (c : Int) ∧ s.2.2.1 47 n = (tqP (T i) : Int) := by
  rw [rR_m3 h1, if_neg h2, if_neg h3, if_neg h4, e1]
  simp only
  rw [e2]
theorem rR_c (h : isMk T i 91) (e1 : pR T f 0 (o + 1) (i + 1) = .inr j) (e2 : pR T f 0 (o + 1) (j + 1) = .inr k) : rR s T (f + 1) 3 o i B n x ↔ ∃ a b c : Nat, (n < B ∧ a < B ∧ b < B ∧ c < B) ∧ rR s T f 0 (o + 1) (i + 1) B a (-1) ∧ rR s T f 0 (o + 1) (j + 1) B b (-1) ∧ rR s T f 0 (o + 1) (k + 1) B c (-1) ∧ s.2.2.1 43 n = 4 ∧ s.2.2.1 44 n = (a : Int) ∧ s.2.2.1 45 n = (b : Int) ∧ s.2.2.1 46 n = (c : Int) ∧ s.2.2.1 47 n = (tqP (T i) : Int) := by
  have := h.1
  exact rR_cc (by omega) (by omega) (by omega) (fun z => by have := z.2; have := h.2; omega) e1 e2
theorem rR_m4 : rR s T (f + 1) 4 o i B n x = (match pR T f 0 o i with
    | .inl _ => False
    | .inr j => ∃ e : Nat, e < B ∧ rR s T f 0 o i B e (-1) ∧ s.2.2.1 48 e = x ∧ (if isMk T j 59 then rR s T f 4 o (j + 1) B n (e : Int) else n = e)) := rfl
theorem rR_l (e : pR T f 0 o i = .inr j) (h1 : isMk T j 59) : rR s T (f + 1) 4 o i B n x ↔ ∃ e : Nat, e < B ∧ rR s T f 0 o i B e (-1) ∧ s.2.2.1 48 e = x ∧ rR s T f 4 o (j + 1) B n (e : Int) := by
  rw [rR_m4, e]
  simp only [if_pos h1]
theorem rR_ln (e : pR T f 0 o i = .inr j) (h1 : ¬ isMk T j 59) : rR s T (f + 1) 4 o i B n x ↔ n < B ∧ rR s T f 0 o i B n (-1) ∧ s.2.2.1 48 n = x := by
  rw [rR_m4, e]
  simp only [if_neg h1]
  exact ⟨fun ⟨e, a, b, c, d⟩ => by rw [d]; exact ⟨a, b, c⟩, fun ⟨a, b, c⟩ => ⟨n, a, b, c, rfl⟩⟩
end rRs
/-- nodes below B are as they were, and values -/
def ndK (s t : RS) (B : Nat) : Prop := (∀ k y : Nat, 43 ≤ k → k ≤ 48 → y < B → t.2.2.1 k y = s.2.2.1 k y) ∧ (∀ y : Nat, y < B → t.2.2.2 49 y = s.2.2.2 49 y) ∧ rext s t
theorem ndK_d {s t : RS} {B : Nat} (h : rdR s t) (hB : (B : Int) ≤ s.1 50) : ndK s t B := ⟨fun k y a b c => h.2.2.2.2.2.2.1 k y a b (by omega), fun y a => h.2.2.2.2.2.2.2 y (by omega), h.1⟩
theorem ndK_le {s t : RS} {B C : Nat} (h : ndK s t B) (hC : C ≤ B) : ndK s t C := ⟨fun k y a b c => h.1 k y a b (by omega), fun y a => h.2.1 y (by omega), h.2.2⟩
theorem acR_k {s t : RS} {T : Nat → Tok} {i a B : Nat} {x y : Int} (h : ndK s t B) (ha : a < B) (hc : acR s T i a x y) : acR t T i a x y := by
  unfold acR at hc ⊢
  rw [h.1 43 a (by decide) (by decide) ha, h.1 44 a (by decide) (by decide) ha, h.1 45 a (by decide) (by decide) ha, h.1 46 a (by decide) (by decide) ha, h.1 47 a (by decide) (by decide) ha, h.1 48 a (by decide) (by decide) ha, h.2.1 a ha]
  exact hc
theorem rR_lt {s : RS} {T : Nat → Tok} : ∀ (f o i B n : Nat) (x : Int), rR s T f 0 o i B n x → n < B := by
  intro f
  induction f with
  | zero => intro o i B n x h; exact h.elim
  | succ f ih =>
    intro o i B n x h
    by_cases d : isDs T i
    · obtain ⟨a, -, -, c⟩ := (rR_d d).mp h
      exact ih _ _ _ _ _ c
    · rcases e : pR T f 1 o i with p | j
      · rw [rR_m0 d, e] at h; exact h.elim
      · by_cases hj : isDs T j
        · obtain ⟨a, nn, -, -, -, -, c⟩ := (rR_a d e hj).mp h; exact ih _ _ _ _ _ c
        · obtain ⟨nn, c, -⟩ := (rR_n d e hj).mp h; exact c
theorem rR_k {T : Nat → Tok} : ∀ (f m o i B C n : Nat) (x : Int) (s t : RS), ndK s t B → B ≤ C → rR s T f m o i B n x → rR t T f m o i C n x := by
  intro f
  induction f with
  | zero => intro m o i B C n x s t _ _ h; exact h.elim
  | succ f ih =>
    intro m o i B C n x s t hk hC h
    rcases m with _ | _ | _ | _ | m
    · have hlt := rR_lt _ _ _ _ _ _ h
      by_cases d : isDs T i
      · obtain ⟨a, h1, h2, h3⟩ := (rR_d d).mp h
        exact (rR_d d).mpr ⟨a, h1, acR_k hk (by omega) h2, ih _ _ _ _ _ _ _ _ _ hk hC h3⟩
      · rcases e : pR T f 1 o i with p | j
        · rw [rR_m0 d, e] at h; exact h.elim
        · by_cases hj : isDs T j
          · obtain ⟨a, nn, h1, h2, h3, h4, h5⟩ := (rR_a d e hj).mp h
            exact (rR_a d e hj).mpr ⟨a, nn, h1, h2, acR_k hk (by omega) h3, ih _ _ _ _ _ _ _ _ _ (ndK_le hk (by omega)) (Nat.le_refl _) h4, ih _ _ _ _ _ _ _ _ _ hk hC h5⟩
          · obtain ⟨nn, h1, h2, h3, h4, h5, h6⟩ := (rR_n d e hj).mp h
            exact (rR_n d e hj).mpr ⟨nn, by omega, h2, ih _ _ _ _ _ _ _ _ _ (ndK_le hk (by omega)) (Nat.le_refl _) h3, by rw [hk.1 43 n (by decide) (by decide) h1]; exact h4, by rw [hk.1 44 n (by decide) (by decide) h1]; exact h5, by rw [hk.1 45 n (by decide) (by decide) h1]; exact h6⟩
    · rcases e : pR T f 3 o i with p | j
      · have h : (match pR T f 3 o i with | .inl _ => False | .inr j => ∃ n0 : Nat, rR s T f 3 o i B n0 0 ∧ rR s T f 2 o j B n (n0 : Int)) := h
        rw [e] at h; exact h.elim
      · obtain ⟨n0, h1, h2⟩ := (rR_1 e).mp h
        exact (rR_1 e).mpr ⟨n0, ih _ _ _ _ _ _ _ _ _ hk hC h1, ih _ _ _ _ _ _ _ _ _ hk hC h2⟩
    · by_cases hx : isIx T i
      · rcases e : pR T f 0 (o + 1) (i + 2) with p | k
        · rw [show rR s T (f + 1) (0 + 1 + 1) o i B n x = _ from rR_m2 hx, e] at h; exact h.elim
        · obtain ⟨pn, e1, h1, h2, h3, ⟨h4, h5, h6, h7⟩, h8⟩ := (rR_ix hx e).mp h
          exact (rR_ix hx e).mpr ⟨pn, e1, by omega, by omega, ih _ _ _ _ _ _ _ _ _ hk hC h3, ⟨by rw [hk.1 43 pn (by decide) (by decide) h1]; exact h4, by rw [hk.1 44 pn (by decide) (by decide) h1]; exact h5, by rw [hk.1 45 pn (by decide) (by decide) h1]; exact h6, by rw [hk.1 47 pn (by decide) (by decide) h1]; exact h7⟩, ih _ _ _ _ _ _ _ _ _ hk hC h8⟩
      · exact (rR_ixn hx).mpr ((rR_ixn hx).mp h)
    · by_cases h1 : tqS (T i) = 1
      · obtain ⟨a, b, q, c1, c2, c3⟩ := (rR_nu h1).mp h
        exact (rR_nu h1).mpr ⟨by omega, by rw [hk.1 43 n (by decide) (by decide) a]; exact b, q, c1, by rw [hk.1 44 n (by decide) (by decide) a]; exact c2, rv_ext hk.2.2 c1 c3⟩
      · by_cases h2 : tqS (T i) = 2
        · obtain ⟨a, b, q, c1, c2, c3⟩ := (rR_tx h2).mp h
          exact (rR_tx h2).mpr ⟨by omega, by rw [hk.1 43 n (by decide) (by decide) a]; exact b, q, c1, by rw [hk.1 44 n (by decide) (by decide) a]; exact c2, rv_ext hk.2.2 c1 c3⟩
        · by_cases h3 : tqS (T i) = 3
          · obtain ⟨a, b, c, d⟩ := (rR_nm h3).mp h
            exact (rR_nm h3).mpr ⟨by omega, by rw [hk.1 43 n (by decide) (by decide) a]; exact b, by rw [hk.2.1 n a]; exact c, by rw [hk.1 47 n (by decide) (by decide) a]; exact d⟩
          · by_cases h4 : isMk T i 40
            · by_cases h5 : isMk T (i + 1) 41
              · obtain ⟨a, b, c, d, e⟩ := (rR_g0 h4 h5).mp h
                exact (rR_g0 h4 h5).mpr ⟨by omega, by rw [hk.1 43 n (by decide) (by decide) a]; exact b, by rw [hk.1 44 n (by decide) (by decide) a]; exact c, by rw [hk.1 45 n (by decide) (by decide) a]; exact d, by rw [hk.1 47 n (by decide) (by decide) a]; exact e⟩
              · obtain ⟨a, b, c, d, l, l1, l2, l3⟩ := (rR_g h4 h5).mp h
                exact (rR_g h4 h5).mpr ⟨by omega, by rw [hk.1 43 n (by decide) (by decide) a]; exact b, by rw [hk.1 45 n (by decide) (by decide) a]; exact c, by rw [hk.1 47 n (by decide) (by decide) a]; exact d, l, by omega, by rw [hk.1 44 n (by decide) (by decide) a]; exact l2, ih _ _ _ _ _ _ _ _ _ hk hC l3⟩
            · rcases e1 : pR T f 0 (o + 1) (i + 1) with p | j
              · exact absurd h (rR_cx h1 h2 h3 h4 e1)
              · rcases e2 : pR T f 0 (o + 1) (j + 1) with p | k
                · exact absurd h (rR_cy h1 h2 h3 h4 e1 e2)
                · obtain ⟨a, b, c, ⟨a0, a1, a2, a3⟩, b1, b2, b3, c1, c2, c3, c4, c5⟩ := (rR_cc h1 h2 h3 h4 e1 e2).mp h
                  exact (rR_cc h1 h2 h3 h4 e1 e2).mpr ⟨a, b, c, ⟨by omega, by omega, by omega, by omega⟩, ih _ _ _ _ _ _ _ _ _ hk hC b1, ih _ _ _ _ _ _ _ _ _ hk hC b2, ih _ _ _ _ _ _ _ _ _ hk hC b3, by rw [hk.1 43 n (by decide) (by decide) a0]; exact c1, by rw [hk.1 44 n (by decide) (by decide) a0]; exact c2, by rw [hk.1 45 n (by decide) (by decide) a0]; exact c3, by rw [hk.1 46 n (by decide) (by decide) a0]; exact c4, by rw [hk.1 47 n (by decide) (by decide) a0]; exact c5⟩
    · rcases e : pR T f 0 o i with p | j
      · have h : (match pR T f 0 o i with | .inl _ => False | .inr j => ∃ e : Nat, e < B ∧ rR s T f 0 o i B e (-1) ∧ s.2.2.1 48 e = x ∧ (if isMk T j 59 then rR s T f 4 o (j + 1) B n (e : Int) else n = e)) := h
        rw [e] at h; exact h.elim
      · have h : rR s T (f + 1) 4 o i B n x := h
        show rR t T (f + 1) 4 o i C n x
        by_cases hj : isMk T j 59
        · obtain ⟨e1, h1, h2, h3, h4⟩ := (rR_l e hj).mp h
          exact (rR_l e hj).mpr ⟨e1, by omega, ih _ _ _ _ _ _ _ _ _ hk hC h2, by rw [hk.1 48 e1 (by decide) (by decide) h1]; exact h3, ih _ _ _ _ _ _ _ _ _ hk hC h4⟩
        · obtain ⟨h1, h2, h3⟩ := (rR_ln e hj).mp h
          exact (rR_ln e hj).mpr ⟨by omega, ih _ _ _ _ _ _ _ _ _ hk hC h2, by rw [hk.1 48 n (by decide) (by decide) h1]; exact h3⟩
/-- the word 'ahead' of a list's part may change -/
theorem rR_ah {T : Nat → Tok} {s t : RS} {n : Nat} (hk : ndK s t n) (e3 : t.2.2.1 43 n = s.2.2.1 43 n) (e4 : t.2.2.1 44 n = s.2.2.1 44 n) (e5 : t.2.2.1 45 n = s.2.2.1 45 n) : ∀ (f o i B : Nat) (x : Int), rR s T f 0 o i B n x → rR t T f 0 o i B n x := by
  intro f
  induction f with
  | zero => intro o i B x h; exact h.elim
  | succ f ih =>
    intro o i B x h
    by_cases d : isDs T i
    · obtain ⟨a, h1, h2, h3⟩ := (rR_d d).mp h
      exact (rR_d d).mpr ⟨a, h1, acR_k hk h1 h2, ih _ _ _ _ h3⟩
    · rcases e : pR T f 1 o i with p | j
      · rw [rR_m0 d, e] at h; exact h.elim
      · by_cases hj : isDs T j
        · obtain ⟨a, nn, h1, h2, h3, h4, h5⟩ := (rR_a d e hj).mp h
          exact (rR_a d e hj).mpr ⟨a, nn, h1, h2, acR_k hk h1 h3, rR_k _ _ _ _ _ _ _ _ _ _ hk (Nat.le_refl _) h4, ih _ _ _ _ h5⟩
        · obtain ⟨nn, h1, h2, h3, h4, h5, h6⟩ := (rR_n d e hj).mp h
          exact (rR_n d e hj).mpr ⟨nn, h1, h2, rR_k _ _ _ _ _ _ _ _ _ _ hk (Nat.le_refl _) h3, by rw [e3]; exact h4, by rw [e4]; exact h5, by rw [e5]; exact h6⟩
/-! small steps of the reference's reading -/
def op51 (s : RS) (x : Int) : RS := (va_up s.1 51 x, s.2.1, s.2.2.1, s.2.2.2)
theorem rdT_51 (s : RS) (x : Int) : rdT s (op51 s x) := rdT_i rfl (fun k hk => up_ne _ _ (by omega)) (fun _ _ => rfl)
theorem tkE_51 (s : RS) (x : Int) : tkE s (op51 s x) := ⟨fun k _ _ => up_ne _ _ (by omega), rfl⟩
theorem o51_at (s : RS) (x : Int) : (op51 s x).1 51 = x := by show va_up s.1 51 x 51 = x; rw [up_eq]
theorem o51_k (s : RS) (x : Int) {k : Nat} (h : k ≠ 51) : (op51 s x).1 k = s.1 k := by show va_up s.1 51 x k = _; rw [up_ne _ _ h]
theorem rdT_wr (s : RS) : rdT s (wrgS s) := by
  unfold wrgS
  split
  · exact rdT_i rfl (fun k hk => up_ne _ _ (by omega)) (fun _ _ => rfl)
  · exact rdT_rf s
theorem wr_52 {s : RS} (h : s.1 52 < 0) : (wrgS s).1 52 = s.1 39 := by
  unfold wrgS
  rw [if_pos h]
  show va_up s.1 52 (s.1 39) 52 = _
  rw [up_eq]
abbrev isNn (T : Nat → Tok) (i : Nat) : Prop := tqS (T i) = 1 ∨ tqS (T i) = 2 ∨ tqS (T i) = 3 ∨ isMk T i 40 ∨ isMk T i 91
theorem tkB_m40 {bf : Nat → Int} {ln p bh : Nat} {fn : Int → Bool} : (tqS (tkB bf ln fn p bh) = 7 ∧ tqD (tkB bf ln fn p bh) = 40) ↔ bf p = 40 := by
  by_cases z : isDgI (bf p) ∨ isLtI (bf p)
  · have n40 : bf p ≠ 40 := by omega
    refine ⟨fun h => ?_, fun h => absurd h n40⟩
    exfalso
    by_cases y : bh = 1 ∨ bh = 3 ∨ bh = 4
    · rw [tkB_bad z y] at h; exact absurd h.1 (show (8 : Nat) ≠ 7 by decide)
    · by_cases x : isDgI (bf p)
      · rw [tkB_dg x y] at h; exact absurd h.1 (show (1 : Nat) ≠ 7 by decide)
      · rw [tkB_lt (by omega) y] at h
        have h1 : (if fn (ckI bf p (rnL ltB bf ln 8 p)) = true then 4 else 3) = 7 := h.1
        split at h1 <;> omega
  · by_cases y : bf p = 95 ∧ isDgI (byA bf ln ((p + 1 : Nat) : Int))
    · refine ⟨fun h => ?_, fun h => by omega⟩
      rw [tkB_ng y.1 y.2] at h; exact absurd h.1 (show (1 : Nat) ≠ 7 by decide)
    · by_cases x : bf p = 39 ∧ ¬ (bh = 4 ∨ bh = 5 ∨ bh = 6)
      · refine ⟨fun h => ?_, fun h => by omega⟩
        by_cases w : 0 < rnL txB bf ln 60 (p + 1) ∧ byA bf ln ((p + 1 + rnL txB bf ln 60 (p + 1) : Nat) : Int) = 39
        · rw [tkB_tx x.1 x.2 w] at h; exact absurd h.1 (show (2 : Nat) ≠ 7 by decide)
        · rw [tkB_tn x.1 x.2 w] at h; exact absurd h.1 (show (8 : Nat) ≠ 7 by decide)
      · by_cases w : sobI (bf p) = 0
        · rw [tkB_no z y x w]
          refine ⟨fun h => absurd h.1 (show (8 : Nat) ≠ 7 by decide), fun h => ?_⟩
          rw [h] at w; exact absurd w (by decide)
        · rw [tkB_sg z y x w]
          refine ⟨fun h => h.2, fun h => ⟨?_, h⟩⟩
          show (sobI (bf p)).toNat = 7
          rw [h]; decide
theorem tkI_m40 {bf : Nat → Int} {ln i b : Nat} {F : Nat → Int → Bool} (hsk : skB bf ln (tkQ bf ln F i).1 = b) : isMk (tkI bf ln F) i 40 ↔ byO bf ln b = 40 := by
  show tqS (tkA bf ln (F i) (tkQ bf ln F i)) = 7 ∧ tqD (tkA bf ln (F i) (tkQ bf ln F i)) = 40 ↔ _
  by_cases z : b < ln
  · rw [tkA_in hsk z, byO_in z]
    exact tkB_m40
  · rw [tkA_out hsk z, byO_out (by omega)]
    exact ⟨fun h => absurd h.1 (show (0 : Nat) ≠ 7 by decide), fun h => absurd h (by decide)⟩
/-- a line begins -/
def rbF (s t : RS) : Prop := t.2.2 = s.2.2 ∧ (∀ k, ¬ ((34 ≤ k ∧ k ≤ 40) ∨ (51 ≤ k ∧ k ≤ 52)) → t.1 k = s.1 k) ∧ (∀ k, k ≠ 41 → k ≠ 42 → t.2.1 k = s.2.1 k)
theorem rbF_tr {s t u : RS} (a : rbF s t) (b : rbF t u) : rbF s u := ⟨b.1.trans a.1, fun k h => (b.2.1 k h).trans (a.2.1 k h), fun k h1 h2 => (b.2.2 k h1 h2).trans (a.2.2 k h1 h2)⟩
theorem rbF_tk {s t : RS} (h : rtk s t) : rbF s t := ⟨Prod.ext h.1 h.2.1, fun k hk => h.2.2.1 k (by omega), fun k h1 _ => h.2.2.2 k h1⟩
/-- telling is cleared -/
def beS (s : RS) : RS := (s.1, va_up s.2.1 42 (Int64.ofInt 0), s.2.2.1, s.2.2.2)
/-- what the tape and the names are, ahead of a line -/
def TN (bf : Nat → Int) (ln n m : Nat) (s : RS) : Prop := ln ≤ 200 ∧ (∀ j : Nat, -128 ≤ s.2.2.1 32 j ∧ s.2.2.1 32 j ≤ 127) ∧ (∀ j : Nat, s.2.2.1 32 j % 256 = bf j) ∧ s.1 23 = (n : Int) ∧ s.1 24 = (m : Int) ∧ n ≤ 40 ∧ m ≤ 40
theorem TN_k {bf : Nat → Int} {ln n m : Nat} {s t : RS} (h : rbF s t) (hT : TN bf ln n m s) : TN bf ln n m t := by
  unfold TN at hT ⊢
  rw [h.1, h.2.1 23 (by decide), h.2.1 24 (by decide)]
  exact hT
theorem FNp_k {bf : Nat → Int} {ln m : Nat} {fn : Int → Bool} {s t : RS} (h0 : t.2.2.2 20 = s.2.2.2 20) (h1 : t.2.1 42 = s.2.1 42) (hF : FNp bf ln fn s m) : FNp bf ln fn t m := fun p a b => by
  have := hF p a b
  unfold fnR at this ⊢
  rw [h0, h1]
  exact this
/-- behind begin: token 0 -/
def BG (bf : Nat → Int) (ln : Nat) (F : Nat → Int → Bool) (n m hi : Nat) (s t : RS) : Prop := RD bf ln F n m hi t 0 ∧ t.1 51 = 0 ∧ t.1 52 = -1 ∧ t.2.1 42 = Int64.ofInt 0 ∧ rbF s t
theorem rtQ_0 {bf : Nat → Int} {ln : Nat} {t : RS} (h5 : t.1 35 = 0) (h6 : t.1 36 = 0) (h7 : t.1 37 = -1) : rtQ bf ln t (0, 0) := by
  refine ⟨0, h5, Nat.le_refl _, Nat.zero_le _, fun j _ b => absurd b (by omega), ?_, by rw [h7]; decide, ?_, by rw [h7]; decide⟩
  · rw [h6, decide_eq_false (fun z => by have := z.1; omega)]; rfl
  · unfold acQ
    rw [h7]
    exact ⟨fun z => absurd z (by decide), fun z => absurd z (by decide)⟩
theorem r_nxt {xt : mj_X} {d : Nat} {pre post : mj_H} {s : RS} {bf : Nat → Int} {ln n m hi i : Nat} {F : Nat → Int → Bool} (hm : pre.length = 102) (hd : 4 ≤ d) (hR : RD bf ln F n m hi s i) (hi1 : i + 1 ≤ hi) : pgN xt d 205 [.ref 102] (rS pre post s) (fun h' => ∃ t, h' = rS pre post t ∧ rtk s t ∧ RD bf ln F n m hi t (i + 1)) := by
  obtain ⟨r1, r2, r3, r4⟩ := id hR
  refine pgN_mono (r_next_ (fn := F (i + 1)) (q := tkQ bf ln F (i + 1)) hm (by omega) r2 r3.1 r3.2.1 r3.2.2.1 r3.2.2.2 (r4 (i + 1) (by omega) hi1) (RD_q hR)) (fun h' => ?_)
  rintro ⟨t, e, k, p⟩
  exact ⟨t, e, k, RD_nx hR k p⟩
theorem r_mkd_ {xt : mj_X} {d : Nat} {pre post : mj_H} {s : RS} {bf : Nat → Int} {ln n m hi i mk : Nat} {F : Nat → Int → Bool} {T : Nat → Tok} (hm : pre.length = 102) (hd : 1 ≤ d) (hT : T = tkI bf ln F) (hK : TOKS T mk ln) (hR : RD bf ln F n m hi s i) {c : Int} (hc : -2147483648 ≤ c ∧ c ≤ 2147483647) : pgP xt d 216 [.ref 102, ii c] (rS pre post s) (zz (decide (isMk T i c))) := by
  obtain ⟨h38, h8, h40⟩ := RD_s hT hK hR
  have h40r : ¬ (tqS (T i) = 5 ∨ tqS (T i) = 6 ∨ tqS (T i) = 7) ∨ (s.1 40 = tqD (T i) ∧ 1 ≤ tqD (T i) ∧ tqD (T i) ≤ 126) := by
    by_cases z : tqS (T i) = 5 ∨ tqS (T i) = 6 ∨ tqS (T i) = 7
    · exact Or.inr (h40 z)
    · exact Or.inl z
  clear h40
  have h39 : s.1 39 = ((tqP (T i) : Nat) : Int) := by rw [hT]; exact (RD_38 hR).2
  have hPl := P_ln hK i
  have hln := hK.2.1
  refine x_enter pm_X12_isMarked (L0 := [(0, .ref 102), (1, ii c)]) rfl (Nat.le_of_ble_eq_true rfl) (by omega) ?_
  refine me1 (pc' := 1) (L' := [(0, .ref 102), (1, ii c)]) (S' := [.ref 102]) dm_X12_isMarked_0 rfl rfl rfl rfl ?_
  refine me3 (pc' := 4) (S' := [ii (s.1 38)]) dm_X12_isMarked_1 (q_geti (v := s.1 38) hm rfl (fun m i l => rg_38 m i l) rfl) rfl rfl rfl ?_
  refine me0 (pc' := 6) (S' := [ii 7, ii (s.1 38)]) dm_X12_isMarked_4 rfl rfl rfl rfl ?_
  refine y_2ne (a := s.1 38) (b := 7) (t := 21) (pc' := 9) dm_X12_isMarked_6 rfl rfl (by omega) (fun hb1 => ?_) (fun hb1 => ?_)
  · refine me0 (pc' := 22) (S' := [ii 0]) dm_X12_isMarked_21 rfl rfl rfl rfl ?_
    refine y_ret (r := some (ii 0)) dm_X12_isMarked_22 rfl rfl rfl ?_
    exact ⟨congrArg some (zf (by omega)), rfl⟩
  · refine me1 (pc' := 10) (L' := [(0, .ref 102), (1, ii c)]) (S' := [.ref 102]) dm_X12_isMarked_9 rfl rfl rfl rfl ?_
    refine me3 (pc' := 13) (S' := [ii (s.1 40)]) dm_X12_isMarked_10 (q_geti (v := s.1 40) hm rfl (fun m i l => rg_40 m i l) rfl) rfl rfl rfl ?_
    refine me1 (pc' := 14) (L' := [(0, .ref 102), (1, ii c)]) (S' := [ii c, ii (s.1 40)]) dm_X12_isMarked_13 rfl rfl rfl rfl ?_
    refine y_2ne (a := s.1 40) (b := c) (t := 21) (pc' := 17) dm_X12_isMarked_14 rfl rfl (by omega) (fun hb2 => ?_) (fun hb2 => ?_)
    · refine me0 (pc' := 22) (S' := [ii 0]) dm_X12_isMarked_21 rfl rfl rfl rfl ?_
      refine y_ret (r := some (ii 0)) dm_X12_isMarked_22 rfl rfl rfl ?_
      exact ⟨congrArg some (zf (by omega)), rfl⟩
    · refine me0 (pc' := 18) (S' := [ii 1]) dm_X12_isMarked_17 rfl rfl rfl rfl ?_
      refine me2 (pc' := 22) (S' := [ii 1]) dm_X12_isMarked_18 rfl rfl rfl ?_
      refine y_ret (r := some (ii 1)) dm_X12_isMarked_22 rfl rfl rfl ?_
      exact ⟨congrArg some (zt (by omega)), rfl⟩
theorem r_vbd_ {xt : mj_X} {d : Nat} {pre post : mj_H} {s : RS} {bf : Nat → Int} {ln n m hi i mk : Nat} {F : Nat → Int → Bool} {T : Nat → Tok} (hm : pre.length = 102) (hd : 1 ≤ d) (hT : T = tkI bf ln F) (hK : TOKS T mk ln) (hR : RD bf ln F n m hi s i) {c : Int} (hc : -2147483648 ≤ c ∧ c ≤ 2147483647) : pgP xt d 218 [.ref 102, ii c] (rS pre post s) (zz (decide (tqS (T i) = 5 ∧ tqD (T i) = c))) := by
  obtain ⟨h38, h8, h40⟩ := RD_s hT hK hR
  have h40r : ¬ (tqS (T i) = 5 ∨ tqS (T i) = 6 ∨ tqS (T i) = 7) ∨ (s.1 40 = tqD (T i) ∧ 1 ≤ tqD (T i) ∧ tqD (T i) ≤ 126) := by
    by_cases z : tqS (T i) = 5 ∨ tqS (T i) = 6 ∨ tqS (T i) = 7
    · exact Or.inr (h40 z)
    · exact Or.inl z
  clear h40
  have h39 : s.1 39 = ((tqP (T i) : Nat) : Int) := by rw [hT]; exact (RD_38 hR).2
  have hPl := P_ln hK i
  have hln := hK.2.1
  refine x_enter pm_X12_isVerbed (L0 := [(0, .ref 102), (1, ii c)]) rfl (Nat.le_of_ble_eq_true rfl) (by omega) ?_
  refine me1 (pc' := 1) (L' := [(0, .ref 102), (1, ii c)]) (S' := [.ref 102]) dm_X12_isVerbed_0 rfl rfl rfl rfl ?_
  refine me3 (pc' := 4) (S' := [ii (s.1 38)]) dm_X12_isVerbed_1 (q_geti (v := s.1 38) hm rfl (fun m i l => rg_38 m i l) rfl) rfl rfl rfl ?_
  refine me0 (pc' := 5) (S' := [ii 5, ii (s.1 38)]) dm_X12_isVerbed_4 rfl rfl rfl rfl ?_
  refine y_2ne (a := s.1 38) (b := 5) (t := 20) (pc' := 8) dm_X12_isVerbed_5 rfl rfl (by omega) (fun hb1 => ?_) (fun hb1 => ?_)
  · refine me0 (pc' := 21) (S' := [ii 0]) dm_X12_isVerbed_20 rfl rfl rfl rfl ?_
    refine y_ret (r := some (ii 0)) dm_X12_isVerbed_21 rfl rfl rfl ?_
    exact ⟨congrArg some (zf (by omega)), rfl⟩
  · refine me1 (pc' := 9) (L' := [(0, .ref 102), (1, ii c)]) (S' := [.ref 102]) dm_X12_isVerbed_8 rfl rfl rfl rfl ?_
    refine me3 (pc' := 12) (S' := [ii (s.1 40)]) dm_X12_isVerbed_9 (q_geti (v := s.1 40) hm rfl (fun m i l => rg_40 m i l) rfl) rfl rfl rfl ?_
    refine me1 (pc' := 13) (L' := [(0, .ref 102), (1, ii c)]) (S' := [ii c, ii (s.1 40)]) dm_X12_isVerbed_12 rfl rfl rfl rfl ?_
    refine y_2ne (a := s.1 40) (b := c) (t := 20) (pc' := 16) dm_X12_isVerbed_13 rfl rfl (by omega) (fun hb2 => ?_) (fun hb2 => ?_)
    · refine me0 (pc' := 21) (S' := [ii 0]) dm_X12_isVerbed_20 rfl rfl rfl rfl ?_
      refine y_ret (r := some (ii 0)) dm_X12_isVerbed_21 rfl rfl rfl ?_
      exact ⟨congrArg some (zf (by omega)), rfl⟩
    · refine me0 (pc' := 17) (S' := [ii 1]) dm_X12_isVerbed_16 rfl rfl rfl rfl ?_
      refine me2 (pc' := 21) (S' := [ii 1]) dm_X12_isVerbed_17 rfl rfl rfl ?_
      refine y_ret (r := some (ii 1)) dm_X12_isVerbed_21 rfl rfl rfl ?_
      exact ⟨congrArg some (zt (by omega)), rfl⟩
set_option maxRecDepth 20000 in
theorem pm_X12_node : mj_mmof pg_ms 228 = some ((⟨"ArrayCalculatorModel", "node", "(IIIII)I"⟩, prog_14_method_79_code, 6, (Option.some Jvm.ClassFile.FieldType.int)), 12, false, mj_dec prog_14_method_79_code) := rfl
theorem dm_X12_node_0 : mj_dec prog_14_method_79_code 0 = some (.aload_n 0, 1) := by decide +kernel
theorem dm_X12_node_1 : mj_dec prog_14_method_79_code 1 = some (.getfield 75, 3) := by decide +kernel
theorem dm_X12_node_4 : mj_dec prog_14_method_79_code 4 = some (.aload_n 0, 1) := by decide +kernel
theorem dm_X12_node_5 : mj_dec prog_14_method_79_code 5 = some (.getfield 424, 3) := by decide +kernel
theorem dm_X12_node_8 : mj_dec prog_14_method_79_code 8 = some (.iload_n 1, 1) := by decide +kernel
theorem dm_X12_node_9 : mj_dec prog_14_method_79_code 9 = some (.iastore, 1) := by decide +kernel
theorem dm_X12_node_10 : mj_dec prog_14_method_79_code 10 = some (.aload_n 0, 1) := by decide +kernel
theorem dm_X12_node_11 : mj_dec prog_14_method_79_code 11 = some (.getfield 78, 3) := by decide +kernel
theorem dm_X12_node_14 : mj_dec prog_14_method_79_code 14 = some (.aload_n 0, 1) := by decide +kernel
theorem dm_X12_node_15 : mj_dec prog_14_method_79_code 15 = some (.getfield 424, 3) := by decide +kernel
theorem dm_X12_node_18 : mj_dec prog_14_method_79_code 18 = some (.iload_n 2, 1) := by decide +kernel
theorem dm_X12_node_19 : mj_dec prog_14_method_79_code 19 = some (.iastore, 1) := by decide +kernel
theorem dm_X12_node_20 : mj_dec prog_14_method_79_code 20 = some (.aload_n 0, 1) := by decide +kernel
theorem dm_X12_node_21 : mj_dec prog_14_method_79_code 21 = some (.getfield 81, 3) := by decide +kernel
theorem dm_X12_node_24 : mj_dec prog_14_method_79_code 24 = some (.aload_n 0, 1) := by decide +kernel
theorem dm_X12_node_25 : mj_dec prog_14_method_79_code 25 = some (.getfield 424, 3) := by decide +kernel
theorem dm_X12_node_28 : mj_dec prog_14_method_79_code 28 = some (.iload_n 3, 1) := by decide +kernel
theorem dm_X12_node_29 : mj_dec prog_14_method_79_code 29 = some (.iastore, 1) := by decide +kernel
theorem dm_X12_node_30 : mj_dec prog_14_method_79_code 30 = some (.aload_n 0, 1) := by decide +kernel
theorem dm_X12_node_31 : mj_dec prog_14_method_79_code 31 = some (.getfield 84, 3) := by decide +kernel
theorem dm_X12_node_34 : mj_dec prog_14_method_79_code 34 = some (.aload_n 0, 1) := by decide +kernel
theorem dm_X12_node_35 : mj_dec prog_14_method_79_code 35 = some (.getfield 424, 3) := by decide +kernel
theorem dm_X12_node_38 : mj_dec prog_14_method_79_code 38 = some (.iload 4, 2) := by decide +kernel
theorem dm_X12_node_40 : mj_dec prog_14_method_79_code 40 = some (.iastore, 1) := by decide +kernel
theorem dm_X12_node_41 : mj_dec prog_14_method_79_code 41 = some (.aload_n 0, 1) := by decide +kernel
theorem dm_X12_node_42 : mj_dec prog_14_method_79_code 42 = some (.getfield 87, 3) := by decide +kernel
theorem dm_X12_node_45 : mj_dec prog_14_method_79_code 45 = some (.aload_n 0, 1) := by decide +kernel
theorem dm_X12_node_46 : mj_dec prog_14_method_79_code 46 = some (.getfield 424, 3) := by decide +kernel
theorem dm_X12_node_49 : mj_dec prog_14_method_79_code 49 = some (.iload 5, 2) := by decide +kernel
theorem dm_X12_node_51 : mj_dec prog_14_method_79_code 51 = some (.iastore, 1) := by decide +kernel
theorem dm_X12_node_52 : mj_dec prog_14_method_79_code 52 = some (.aload_n 0, 1) := by decide +kernel
theorem dm_X12_node_53 : mj_dec prog_14_method_79_code 53 = some (.getfield 90, 3) := by decide +kernel
theorem dm_X12_node_56 : mj_dec prog_14_method_79_code 56 = some (.aload_n 0, 1) := by decide +kernel
theorem dm_X12_node_57 : mj_dec prog_14_method_79_code 57 = some (.getfield 424, 3) := by decide +kernel
theorem dm_X12_node_60 : mj_dec prog_14_method_79_code 60 = some (.iconst (-1), 1) := by decide +kernel
theorem dm_X12_node_61 : mj_dec prog_14_method_79_code 61 = some (.iastore, 1) := by decide +kernel
theorem dm_X12_node_62 : mj_dec prog_14_method_79_code 62 = some (.aload_n 0, 1) := by decide +kernel
theorem dm_X12_node_63 : mj_dec prog_14_method_79_code 63 = some (.dup, 1) := by decide +kernel
theorem dm_X12_node_64 : mj_dec prog_14_method_79_code 64 = some (.getfield 424, 3) := by decide +kernel
theorem dm_X12_node_67 : mj_dec prog_14_method_79_code 67 = some (.iconst 1, 1) := by decide +kernel
theorem dm_X12_node_68 : mj_dec prog_14_method_79_code 68 = some (.iadd, 1) := by decide +kernel
theorem dm_X12_node_69 : mj_dec prog_14_method_79_code 69 = some (.putfield 424, 3) := by decide +kernel
theorem dm_X12_node_72 : mj_dec prog_14_method_79_code 72 = some (.aload_n 0, 1) := by decide +kernel
theorem dm_X12_node_73 : mj_dec prog_14_method_79_code 73 = some (.getfield 424, 3) := by decide +kernel
theorem dm_X12_node_76 : mj_dec prog_14_method_79_code 76 = some (.iconst 1, 1) := by decide +kernel
theorem dm_X12_node_77 : mj_dec prog_14_method_79_code 77 = some (.isub, 1) := by decide +kernel
theorem dm_X12_node_78 : mj_dec prog_14_method_79_code 78 = some (.ireturn, 1) := by decide +kernel
theorem r_node_ {xt : mj_X} {d N : Nat} {pre post : mj_H} {s : RS} {w a b c p : Int} (hm : pre.length = 102) (hd : 1 ≤ d) (h50 : s.1 50 = (N : Int)) (hN : N < 84000) : pgV xt d 228 [.ref 102, ii w, ii a, ii b, ii c, ii p] (rS pre post s) (fun x h' => x = ii (N : Int) ∧ h' = rS pre post (nodS s N w a b c p)) := by
  refine x_enter pm_X12_node (L0 := [(0, .ref 102), (1, ii w), (2, ii a), (3, ii b), (4, ii c), (5, ii p)]) rfl (Nat.le_of_ble_eq_true rfl) (by omega) ?_
  refine me1 (pc' := 1) (L' := [(0, .ref 102), (1, ii w), (2, ii a), (3, ii b), (4, ii c), (5, ii p)]) (S' := [.ref 102]) dm_X12_node_0 rfl rfl rfl rfl ?_
  refine me3 (pc' := 4) (S' := [.ref (102 + 18)]) dm_X12_node_1 (q_getr hm rfl (fun m i l => rg_43 m i l)) rfl rfl rfl ?_
  refine me1 (pc' := 5) (L' := [(0, .ref 102), (1, ii w), (2, ii a), (3, ii b), (4, ii c), (5, ii p)]) (S' := [.ref 102, .ref (102 + 18)]) dm_X12_node_4 rfl rfl rfl rfl ?_
  refine me3 (pc' := 8) (S' := [ii (s.1 50), .ref (102 + 18)]) dm_X12_node_5 (q_geti (v := s.1 50) hm rfl (fun m i l => rg_50 m i l) rfl) rfl rfl rfl ?_
  refine pg_st0 (S' := [ii (N : Int), .ref (102 + 18)]) (congrArg (fun z => ii z :: [.ref (102 + 18)]) (h50)) ?_
  refine me1 (pc' := 9) (L' := [(0, .ref 102), (1, ii w), (2, ii a), (3, ii b), (4, ii c), (5, ii p)]) (S' := [ii w, ii (N : Int), .ref (102 + 18)]) dm_X12_node_8 rfl rfl rfl rfl ?_
  refine me3 (pc' := 10) (S' := []) (h1 := rI pre post s.1 s.2.1 (va_up s.2.2.1 43 (va_up (s.2.2.1 43) N w)) s.2.2.2) dm_X12_node_9 (q_iast (j := (N : Int)) (k := 43) (n := 84000) hm (fun m i l I J => rc_43 m i l I J) (fun m i l I J f => rs_43 m i l I J f) (by omega) (by omega) (by decide)) rfl rfl rfl ?_
  refine me1 (pc' := 11) (L' := [(0, .ref 102), (1, ii w), (2, ii a), (3, ii b), (4, ii c), (5, ii p)]) (S' := [.ref 102]) dm_X12_node_10 rfl rfl rfl rfl ?_
  refine me3 (pc' := 14) (S' := [.ref (102 + 19)]) dm_X12_node_11 (q_getr hm rfl (fun m i l => rg_44 m i l)) rfl rfl rfl ?_
  refine me1 (pc' := 15) (L' := [(0, .ref 102), (1, ii w), (2, ii a), (3, ii b), (4, ii c), (5, ii p)]) (S' := [.ref 102, .ref (102 + 19)]) dm_X12_node_14 rfl rfl rfl rfl ?_
  refine me3 (pc' := 18) (S' := [ii (s.1 50), .ref (102 + 19)]) dm_X12_node_15 (q_geti (v := s.1 50) hm rfl (fun m i l => rg_50 m i l) rfl) rfl rfl rfl ?_
  refine pg_st0 (S' := [ii (N : Int), .ref (102 + 19)]) (congrArg (fun z => ii z :: [.ref (102 + 19)]) (h50)) ?_
  refine me1 (pc' := 19) (L' := [(0, .ref 102), (1, ii w), (2, ii a), (3, ii b), (4, ii c), (5, ii p)]) (S' := [ii a, ii (N : Int), .ref (102 + 19)]) dm_X12_node_18 rfl rfl rfl rfl ?_
  refine me3 (pc' := 20) (S' := []) (h1 := rI pre post s.1 s.2.1 (va_up (va_up s.2.2.1 43 (va_up (s.2.2.1 43) N w)) 44 (va_up (s.2.2.1 44) N a)) s.2.2.2) dm_X12_node_19 (q_iast (j := (N : Int)) (k := 44) (n := 84000) hm (fun m i l I J => rc_44 m i l I J) (fun m i l I J f => rs_44 m i l I J f) (by omega) (by omega) (by decide)) rfl rfl rfl ?_
  refine me1 (pc' := 21) (L' := [(0, .ref 102), (1, ii w), (2, ii a), (3, ii b), (4, ii c), (5, ii p)]) (S' := [.ref 102]) dm_X12_node_20 rfl rfl rfl rfl ?_
  refine me3 (pc' := 24) (S' := [.ref (102 + 20)]) dm_X12_node_21 (q_getr hm rfl (fun m i l => rg_45 m i l)) rfl rfl rfl ?_
  refine me1 (pc' := 25) (L' := [(0, .ref 102), (1, ii w), (2, ii a), (3, ii b), (4, ii c), (5, ii p)]) (S' := [.ref 102, .ref (102 + 20)]) dm_X12_node_24 rfl rfl rfl rfl ?_
  refine me3 (pc' := 28) (S' := [ii (s.1 50), .ref (102 + 20)]) dm_X12_node_25 (q_geti (v := s.1 50) hm rfl (fun m i l => rg_50 m i l) rfl) rfl rfl rfl ?_
  refine pg_st0 (S' := [ii (N : Int), .ref (102 + 20)]) (congrArg (fun z => ii z :: [.ref (102 + 20)]) (h50)) ?_
  refine me1 (pc' := 29) (L' := [(0, .ref 102), (1, ii w), (2, ii a), (3, ii b), (4, ii c), (5, ii p)]) (S' := [ii b, ii (N : Int), .ref (102 + 20)]) dm_X12_node_28 rfl rfl rfl rfl ?_
  refine me3 (pc' := 30) (S' := []) (h1 := rI pre post s.1 s.2.1 (va_up (va_up (va_up s.2.2.1 43 (va_up (s.2.2.1 43) N w)) 44 (va_up (s.2.2.1 44) N a)) 45 (va_up (s.2.2.1 45) N b)) s.2.2.2) dm_X12_node_29 (q_iast (j := (N : Int)) (k := 45) (n := 84000) hm (fun m i l I J => rc_45 m i l I J) (fun m i l I J f => rs_45 m i l I J f) (by omega) (by omega) (by decide)) rfl rfl rfl ?_
  refine me1 (pc' := 31) (L' := [(0, .ref 102), (1, ii w), (2, ii a), (3, ii b), (4, ii c), (5, ii p)]) (S' := [.ref 102]) dm_X12_node_30 rfl rfl rfl rfl ?_
  refine me3 (pc' := 34) (S' := [.ref (102 + 21)]) dm_X12_node_31 (q_getr hm rfl (fun m i l => rg_46 m i l)) rfl rfl rfl ?_
  refine me1 (pc' := 35) (L' := [(0, .ref 102), (1, ii w), (2, ii a), (3, ii b), (4, ii c), (5, ii p)]) (S' := [.ref 102, .ref (102 + 21)]) dm_X12_node_34 rfl rfl rfl rfl ?_
  refine me3 (pc' := 38) (S' := [ii (s.1 50), .ref (102 + 21)]) dm_X12_node_35 (q_geti (v := s.1 50) hm rfl (fun m i l => rg_50 m i l) rfl) rfl rfl rfl ?_
  refine pg_st0 (S' := [ii (N : Int), .ref (102 + 21)]) (congrArg (fun z => ii z :: [.ref (102 + 21)]) (h50)) ?_
  refine me1 (pc' := 40) (L' := [(0, .ref 102), (1, ii w), (2, ii a), (3, ii b), (4, ii c), (5, ii p)]) (S' := [ii c, ii (N : Int), .ref (102 + 21)]) dm_X12_node_38 rfl rfl rfl rfl ?_
  refine me3 (pc' := 41) (S' := []) (h1 := rI pre post s.1 s.2.1 (va_up (va_up (va_up (va_up s.2.2.1 43 (va_up (s.2.2.1 43) N w)) 44 (va_up (s.2.2.1 44) N a)) 45 (va_up (s.2.2.1 45) N b)) 46 (va_up (s.2.2.1 46) N c)) s.2.2.2) dm_X12_node_40 (q_iast (j := (N : Int)) (k := 46) (n := 84000) hm (fun m i l I J => rc_46 m i l I J) (fun m i l I J f => rs_46 m i l I J f) (by omega) (by omega) (by decide)) rfl rfl rfl ?_
  refine me1 (pc' := 42) (L' := [(0, .ref 102), (1, ii w), (2, ii a), (3, ii b), (4, ii c), (5, ii p)]) (S' := [.ref 102]) dm_X12_node_41 rfl rfl rfl rfl ?_
  refine me3 (pc' := 45) (S' := [.ref (102 + 22)]) dm_X12_node_42 (q_getr hm rfl (fun m i l => rg_47 m i l)) rfl rfl rfl ?_
  refine me1 (pc' := 46) (L' := [(0, .ref 102), (1, ii w), (2, ii a), (3, ii b), (4, ii c), (5, ii p)]) (S' := [.ref 102, .ref (102 + 22)]) dm_X12_node_45 rfl rfl rfl rfl ?_
  refine me3 (pc' := 49) (S' := [ii (s.1 50), .ref (102 + 22)]) dm_X12_node_46 (q_geti (v := s.1 50) hm rfl (fun m i l => rg_50 m i l) rfl) rfl rfl rfl ?_
  refine pg_st0 (S' := [ii (N : Int), .ref (102 + 22)]) (congrArg (fun z => ii z :: [.ref (102 + 22)]) (h50)) ?_
  refine me1 (pc' := 51) (L' := [(0, .ref 102), (1, ii w), (2, ii a), (3, ii b), (4, ii c), (5, ii p)]) (S' := [ii p, ii (N : Int), .ref (102 + 22)]) dm_X12_node_49 rfl rfl rfl rfl ?_
  refine me3 (pc' := 52) (S' := []) (h1 := rI pre post s.1 s.2.1 (va_up (va_up (va_up (va_up (va_up s.2.2.1 43 (va_up (s.2.2.1 43) N w)) 44 (va_up (s.2.2.1 44) N a)) 45 (va_up (s.2.2.1 45) N b)) 46 (va_up (s.2.2.1 46) N c)) 47 (va_up (s.2.2.1 47) N p)) s.2.2.2) dm_X12_node_51 (q_iast (j := (N : Int)) (k := 47) (n := 84000) hm (fun m i l I J => rc_47 m i l I J) (fun m i l I J f => rs_47 m i l I J f) (by omega) (by omega) (by decide)) rfl rfl rfl ?_
  refine me1 (pc' := 53) (L' := [(0, .ref 102), (1, ii w), (2, ii a), (3, ii b), (4, ii c), (5, ii p)]) (S' := [.ref 102]) dm_X12_node_52 rfl rfl rfl rfl ?_
  refine me3 (pc' := 56) (S' := [.ref (102 + 23)]) dm_X12_node_53 (q_getr hm rfl (fun m i l => rg_48 m i l)) rfl rfl rfl ?_
  refine me1 (pc' := 57) (L' := [(0, .ref 102), (1, ii w), (2, ii a), (3, ii b), (4, ii c), (5, ii p)]) (S' := [.ref 102, .ref (102 + 23)]) dm_X12_node_56 rfl rfl rfl rfl ?_
  refine me3 (pc' := 60) (S' := [ii (s.1 50), .ref (102 + 23)]) dm_X12_node_57 (q_geti (v := s.1 50) hm rfl (fun m i l => rg_50 m i l) rfl) rfl rfl rfl ?_
  refine pg_st0 (S' := [ii (N : Int), .ref (102 + 23)]) (congrArg (fun z => ii z :: [.ref (102 + 23)]) (h50)) ?_
  refine me0 (pc' := 61) (S' := [ii (-1), ii (N : Int), .ref (102 + 23)]) dm_X12_node_60 rfl rfl rfl rfl ?_
  refine me3 (pc' := 62) (S' := []) (h1 := rI pre post s.1 s.2.1 (va_up (va_up (va_up (va_up (va_up (va_up s.2.2.1 43 (va_up (s.2.2.1 43) N w)) 44 (va_up (s.2.2.1 44) N a)) 45 (va_up (s.2.2.1 45) N b)) 46 (va_up (s.2.2.1 46) N c)) 47 (va_up (s.2.2.1 47) N p)) 48 (va_up (s.2.2.1 48) N (-1))) s.2.2.2) dm_X12_node_61 (q_iast (j := (N : Int)) (k := 48) (n := 84000) hm (fun m i l I J => rc_48 m i l I J) (fun m i l I J f => rs_48 m i l I J f) (by omega) (by omega) (by decide)) rfl rfl rfl ?_
  refine me1 (pc' := 63) (L' := [(0, .ref 102), (1, ii w), (2, ii a), (3, ii b), (4, ii c), (5, ii p)]) (S' := [.ref 102]) dm_X12_node_62 rfl rfl rfl rfl ?_
  refine me0 (pc' := 64) (S' := [.ref 102, .ref 102]) dm_X12_node_63 rfl rfl rfl rfl ?_
  refine me3 (pc' := 67) (S' := [ii (s.1 50), .ref 102]) dm_X12_node_64 (q_geti (v := s.1 50) hm rfl (fun m i l => rg_50 m i l) rfl) rfl rfl rfl ?_
  refine pg_st0 (S' := [ii (N : Int), .ref 102]) (congrArg (fun z => ii z :: [.ref 102]) (h50)) ?_
  refine me0 (pc' := 68) (S' := [ii 1, ii (N : Int), .ref 102]) dm_X12_node_67 rfl rfl rfl rfl ?_
  refine y_iadd (a := (N : Int)) (b := 1) dm_X12_node_68 (pc' := 69) rfl ?_
  refine me3 (pc' := 72) (S' := []) (h1 := rI pre post (va_up s.1 50 ((N : Int) + 1)) s.2.1 (va_up (va_up (va_up (va_up (va_up (va_up s.2.2.1 43 (va_up (s.2.2.1 43) N w)) 44 (va_up (s.2.2.1 44) N a)) 45 (va_up (s.2.2.1 45) N b)) 46 (va_up (s.2.2.1 46) N c)) 47 (va_up (s.2.2.1 47) N p)) 48 (va_up (s.2.2.1 48) N (-1))) s.2.2.2) dm_X12_node_69 (q_puti hm rfl rfl (fun m i l v => rf_50 m i l v)) rfl rfl rfl ?_
  refine me1 (pc' := 73) (L' := [(0, .ref 102), (1, ii w), (2, ii a), (3, ii b), (4, ii c), (5, ii p)]) (S' := [.ref 102]) dm_X12_node_72 rfl rfl rfl rfl ?_
  refine me3 (pc' := 76) (S' := [ii ((N : Int) + 1)]) dm_X12_node_73 (q_geti (v := (N : Int) + 1) hm rfl (fun m i l => rg_50 m i l) rfl) rfl rfl rfl ?_
  refine me0 (pc' := 77) (S' := [ii 1, ii ((N : Int) + 1)]) dm_X12_node_76 rfl rfl rfl rfl ?_
  refine y_isub (a := (N : Int) + 1) (b := 1) dm_X12_node_77 (pc' := 78) rfl ?_
  refine pg_st0 (S' := [ii (N : Int)]) (congrArg (fun z => ii z :: []) (by omega)) ?_
  refine y_ret (r := some (ii (N : Int))) dm_X12_node_78 rfl rfl rfl ?_
  exact ⟨_, rfl, rfl, rfl⟩
set_option maxRecDepth 20000 in
theorem pm_X12_opens : mj_mmof pg_ms 220 = some ((⟨"ArrayCalculatorModel", "opens", "()V"⟩, prog_14_method_81_code, 1, (Option.none : Option Jvm.ClassFile.FieldType)), 12, false, mj_dec prog_14_method_81_code) := rfl
theorem dm_X12_opens_0 : mj_dec prog_14_method_81_code 0 = some (.aload_n 0, 1) := by decide +kernel
theorem dm_X12_opens_1 : mj_dec prog_14_method_81_code 1 = some (.getfield 430, 3) := by decide +kernel
theorem dm_X12_opens_4 : mj_dec prog_14_method_81_code 4 = some (.bipush 12, 2) := by decide +kernel
theorem dm_X12_opens_6 : mj_dec prog_14_method_81_code 6 = some (.if_icmp .ne 9, 3) := by decide +kernel
theorem dm_X12_opens_15 : mj_dec prog_14_method_81_code 15 = some (.aload_n 0, 1) := by decide +kernel
theorem dm_X12_opens_16 : mj_dec prog_14_method_81_code 16 = some (.dup, 1) := by decide +kernel
theorem dm_X12_opens_17 : mj_dec prog_14_method_81_code 17 = some (.getfield 430, 3) := by decide +kernel
theorem dm_X12_opens_20 : mj_dec prog_14_method_81_code 20 = some (.iconst 1, 1) := by decide +kernel
theorem dm_X12_opens_21 : mj_dec prog_14_method_81_code 21 = some (.iadd, 1) := by decide +kernel
theorem dm_X12_opens_22 : mj_dec prog_14_method_81_code 22 = some (.putfield 430, 3) := by decide +kernel
theorem dm_X12_opens_25 : mj_dec prog_14_method_81_code 25 = some (.aload_n 0, 1) := by decide +kernel
theorem dm_X12_opens_26 : mj_dec prog_14_method_81_code 26 = some (.invokevirtual 437, 3) := by decide +kernel
theorem dm_X12_opens_29 : mj_dec prog_14_method_81_code 29 = some (.return_, 1) := by decide +kernel
theorem r_opensT {xt : mj_X} {d : Nat} {pre post : mj_H} {s : RS} {bf : Nat → Int} {ln n m hi i mk : Nat} {F : Nat → Int → Bool} {T : Nat → Tok} (hm : pre.length = 102) (hd : 5 ≤ d) (hT : T = tkI bf ln F) (hK : TOKS T mk ln) (hR : RD bf ln F n m hi s i) {o : Nat} (ho : s.1 51 = (o : Int)) (ho12 : o < 12) (hi1 : i + 1 ≤ hi) : pgN xt d 220 [.ref 102] (rS pre post s) (fun h' => ∃ t, h' = rS pre post t ∧ rdT s t ∧ RD bf ln F n m hi t (i + 1) ∧ t.1 51 = ((o + 1 : Nat) : Int) ∧ t.1 52 = s.1 52) := by
  refine x_enter pm_X12_opens (L0 := [(0, .ref 102)]) rfl (Nat.le_of_ble_eq_true rfl) (by omega) ?_
  refine me1 (pc' := 1) (L' := [(0, .ref 102)]) (S' := [.ref 102]) dm_X12_opens_0 rfl rfl rfl rfl ?_
  refine me3 (pc' := 4) (S' := [ii (s.1 51)]) dm_X12_opens_1 (q_geti (v := s.1 51) hm rfl (fun m i l => rg_51 m i l) rfl) rfl rfl rfl ?_
  refine me0 (pc' := 6) (S' := [ii 12, ii (s.1 51)]) dm_X12_opens_4 rfl rfl rfl rfl ?_
  refine y_2ne (a := s.1 51) (b := 12) (t := 15) (pc' := 9) dm_X12_opens_6 rfl rfl (by omega) (fun hb1 => ?_) (fun hb1 => ?_)
  · refine me1 (pc' := 16) (L' := [(0, .ref 102)]) (S' := [.ref 102]) dm_X12_opens_15 rfl rfl rfl rfl ?_
    refine me0 (pc' := 17) (S' := [.ref 102, .ref 102]) dm_X12_opens_16 rfl rfl rfl rfl ?_
    refine me3 (pc' := 20) (S' := [ii (s.1 51), .ref 102]) dm_X12_opens_17 (q_geti (v := s.1 51) hm rfl (fun m i l => rg_51 m i l) rfl) rfl rfl rfl ?_
    refine me0 (pc' := 21) (S' := [ii 1, ii (s.1 51), .ref 102]) dm_X12_opens_20 rfl rfl rfl rfl ?_
    refine y_iadd (a := s.1 51) (b := 1) dm_X12_opens_21 (pc' := 22) rfl ?_
    refine me3 (pc' := 25) (S' := []) (h1 := rI pre post (va_up s.1 51 ((s.1 51) + 1)) s.2.1 s.2.2.1 s.2.2.2) dm_X12_opens_22 (q_puti hm rfl rfl (fun m i l v => rf_51 m i l v)) rfl rfl rfl ?_
    refine me1 (pc' := 26) (L' := [(0, .ref 102)]) (S' := [.ref 102]) dm_X12_opens_25 rfl rfl rfl rfl ?_
    refine x_cn (pc' := 29) (rest := []) dm_X12_opens_26 rfl (q_inv (As := []) (S := []) hm rfl rfl rfl) rfl rfl rfl (r_nxt (s := (va_up s.1 51 ((s.1 51) + 1), s.2.1, s.2.2.1, s.2.2.2)) (i := i) hm (by omega) (RD_fr (rdT_51 s _).1 (tkE_51 s _) hR) hi1) ?_
    rintro _ ⟨t1, rfl, hk1, hR1⟩
    refine y_ret (r := none) dm_X12_opens_29 rfl rfl rfl ?_
    exact ⟨rfl, t1, rfl, rdT_tr (rdT_51 s _) (rdT_tk hk1), hR1, (hk1.2.2.1 51 (by decide)).trans ((o51_at s (s.1 51 + 1)).trans (by omega)), (hk1.2.2.1 52 (by decide)).trans (o51_k s (s.1 51 + 1) (by decide))⟩
  · exfalso; omega
theorem dm_X12_opens_9 : mj_dec prog_14_method_81_code 9 = some (.aload_n 0, 1) := by decide +kernel
theorem dm_X12_opens_10 : mj_dec prog_14_method_81_code 10 = some (.invokevirtual 433, 3) := by decide +kernel
theorem dm_X12_opens_13 : mj_dec prog_14_method_81_code 13 = some (.pop, 1) := by decide +kernel
theorem dm_X12_opens_14 : mj_dec prog_14_method_81_code 14 = some (.return_, 1) := by decide +kernel
theorem r_opensF {xt : mj_X} {d : Nat} {pre post : mj_H} {s : RS} {bf : Nat → Int} {ln n m hi i mk : Nat} {F : Nat → Int → Bool} {T : Nat → Tok} (hm : pre.length = 102) (hd : 5 ≤ d) (hT : T = tkI bf ln F) (hK : TOKS T mk ln) (hR : RD bf ln F n m hi s i) {o : Nat} (ho : s.1 51 = (o : Int)) (ho12 : o = 12) (h52 : s.1 52 = -1) : pgN xt d 220 [.ref 102] (rS pre post s) (fun h' => ∃ t, h' = rS pre post t ∧ rdT s t ∧ t.1 52 = ((tqP (T i) : Nat) : Int)) := by
  obtain ⟨h38, h8, h40⟩ := RD_s hT hK hR
  have h40r : ¬ (tqS (T i) = 5 ∨ tqS (T i) = 6 ∨ tqS (T i) = 7) ∨ (s.1 40 = tqD (T i) ∧ 1 ≤ tqD (T i) ∧ tqD (T i) ≤ 126) := by
    by_cases z : tqS (T i) = 5 ∨ tqS (T i) = 6 ∨ tqS (T i) = 7
    · exact Or.inr (h40 z)
    · exact Or.inl z
  clear h40
  have h39 : s.1 39 = ((tqP (T i) : Nat) : Int) := by rw [hT]; exact (RD_38 hR).2
  have hPl := P_ln hK i
  have hln := hK.2.1
  refine x_enter pm_X12_opens (L0 := [(0, .ref 102)]) rfl (Nat.le_of_ble_eq_true rfl) (by omega) ?_
  refine me1 (pc' := 1) (L' := [(0, .ref 102)]) (S' := [.ref 102]) dm_X12_opens_0 rfl rfl rfl rfl ?_
  refine me3 (pc' := 4) (S' := [ii (s.1 51)]) dm_X12_opens_1 (q_geti (v := s.1 51) hm rfl (fun m i l => rg_51 m i l) rfl) rfl rfl rfl ?_
  refine me0 (pc' := 6) (S' := [ii 12, ii (s.1 51)]) dm_X12_opens_4 rfl rfl rfl rfl ?_
  refine y_2ne (a := s.1 51) (b := 12) (t := 15) (pc' := 9) dm_X12_opens_6 rfl rfl (by omega) (fun hb1 => ?_) (fun hb1 => ?_)
  · exfalso; omega
  · refine me1 (pc' := 10) (L' := [(0, .ref 102)]) (S' := [.ref 102]) dm_X12_opens_9 rfl rfl rfl rfl ?_
    refine x_cv (pc' := 13) (rest := []) dm_X12_opens_10 rfl (q_inv (As := []) (S := []) hm rfl rfl rfl) rfl rfl rfl (r_wrong_ (s := s) hm (by omega) (by omega)) ?_
    rintro _ _ ⟨rfl, rfl⟩
    refine me0 (pc' := 14) (S' := []) dm_X12_opens_13 rfl rfl rfl rfl ?_
    refine y_ret (r := none) dm_X12_opens_14 rfl rfl rfl ?_
    exact ⟨rfl, wrgS s, rfl, rdT_wr s, (wr_52 (by omega)).trans h39⟩
set_option maxRecDepth 20000 in
theorem pm_X12_needs : mj_mmof pg_ms 231 = some ((⟨"ArrayCalculatorModel", "needs", "(I)V"⟩, prog_14_method_82_code, 2, (Option.none : Option Jvm.ClassFile.FieldType)), 12, false, mj_dec prog_14_method_82_code) := rfl
theorem dm_X12_needs_0 : mj_dec prog_14_method_82_code 0 = some (.aload_n 0, 1) := by decide +kernel
theorem dm_X12_needs_1 : mj_dec prog_14_method_82_code 1 = some (.getfield 427, 3) := by decide +kernel
theorem dm_X12_needs_4 : mj_dec prog_14_method_82_code 4 = some (.ifCond .lt 4, 3) := by decide +kernel
theorem dm_X12_needs_7 : mj_dec prog_14_method_82_code 7 = some (.return_, 1) := by decide +kernel
theorem r_needsB {xt : mj_X} {d : Nat} {pre post : mj_H} {s : RS} {c : Int} (hm : pre.length = 102) (hd : 1 ≤ d) (h52 : 0 ≤ s.1 52 ∧ s.1 52 ≤ 1000) : pgN xt d 231 [.ref 102, ii c] (rS pre post s) (fun h' => h' = rS pre post s) := by
  refine x_enter pm_X12_needs (L0 := [(0, .ref 102), (1, ii c)]) rfl (Nat.le_of_ble_eq_true rfl) (by omega) ?_
  refine me1 (pc' := 1) (L' := [(0, .ref 102), (1, ii c)]) (S' := [.ref 102]) dm_X12_needs_0 rfl rfl rfl rfl ?_
  refine me3 (pc' := 4) (S' := [ii (s.1 52)]) dm_X12_needs_1 (q_geti (v := s.1 52) hm rfl (fun m i l => rg_52 m i l) rfl) rfl rfl rfl ?_
  refine y_1lt (a := s.1 52) (t := 8) (pc' := 7) dm_X12_needs_4 rfl rfl (by omega) (fun hb1 => ?_) (fun hb1 => ?_)
  · exfalso; omega
  · refine y_ret (r := none) dm_X12_needs_7 rfl rfl rfl ?_
    exact ⟨rfl, rfl⟩
theorem dm_X12_needs_8 : mj_dec prog_14_method_82_code 8 = some (.aload_n 0, 1) := by decide +kernel
theorem dm_X12_needs_9 : mj_dec prog_14_method_82_code 9 = some (.iload_n 1, 1) := by decide +kernel
theorem dm_X12_needs_10 : mj_dec prog_14_method_82_code 10 = some (.invokevirtual 440, 3) := by decide +kernel
theorem dm_X12_needs_13 : mj_dec prog_14_method_82_code 13 = some (.ifCond .ne 9, 3) := by decide +kernel
theorem dm_X12_needs_22 : mj_dec prog_14_method_82_code 22 = some (.aload_n 0, 1) := by decide +kernel
theorem dm_X12_needs_23 : mj_dec prog_14_method_82_code 23 = some (.invokevirtual 437, 3) := by decide +kernel
theorem dm_X12_needs_26 : mj_dec prog_14_method_82_code 26 = some (.return_, 1) := by decide +kernel
theorem r_needsT {xt : mj_X} {d : Nat} {pre post : mj_H} {s : RS} {bf : Nat → Int} {ln n m hi i mk : Nat} {F : Nat → Int → Bool} {T : Nat → Tok} (hm : pre.length = 102) (hd : 5 ≤ d) (hT : T = tkI bf ln F) (hK : TOKS T mk ln) (hR : RD bf ln F n m hi s i) {c : Int} (hc : -2147483648 ≤ c ∧ c ≤ 2147483647) (h52 : s.1 52 = -1) (hmk : isMk T i c) (hi1 : i + 1 ≤ hi) : pgN xt d 231 [.ref 102, ii c] (rS pre post s) (fun h' => ∃ t, h' = rS pre post t ∧ rdT s t ∧ RD bf ln F n m hi t (i + 1) ∧ t.1 51 = s.1 51 ∧ t.1 52 = -1) := by
  refine x_enter pm_X12_needs (L0 := [(0, .ref 102), (1, ii c)]) rfl (Nat.le_of_ble_eq_true rfl) (by omega) ?_
  refine me1 (pc' := 1) (L' := [(0, .ref 102), (1, ii c)]) (S' := [.ref 102]) dm_X12_needs_0 rfl rfl rfl rfl ?_
  refine me3 (pc' := 4) (S' := [ii (s.1 52)]) dm_X12_needs_1 (q_geti (v := s.1 52) hm rfl (fun m i l => rg_52 m i l) rfl) rfl rfl rfl ?_
  refine y_1lt (a := s.1 52) (t := 8) (pc' := 7) dm_X12_needs_4 rfl rfl (by omega) (fun hb1 => ?_) (fun hb1 => ?_)
  · refine me1 (pc' := 9) (L' := [(0, .ref 102), (1, ii c)]) (S' := [.ref 102]) dm_X12_needs_8 rfl rfl rfl rfl ?_
    refine me1 (pc' := 10) (L' := [(0, .ref 102), (1, ii c)]) (S' := [ii c, .ref 102]) dm_X12_needs_9 rfl rfl rfl rfl ?_
    refine x_cp (pc' := 13) (v := zz (decide (isMk T i c))) (rest := []) dm_X12_needs_10 rfl (q_inv (As := [ii c]) (S := []) hm rfl rfl rfl) rfl rfl rfl (r_mkd_ (i := i) hm (by omega) hT hK hR (by omega)) ?_
    refine y_zne (c := decide (isMk T i c)) (t := 22) (pc' := 16) dm_X12_needs_13 rfl rfl (fun hb2 => ?_) (fun hb2 => ?_)
    · replace hb2 := dT hb2
      refine me1 (pc' := 23) (L' := [(0, .ref 102), (1, ii c)]) (S' := [.ref 102]) dm_X12_needs_22 rfl rfl rfl rfl ?_
      refine x_cn (pc' := 26) (rest := []) dm_X12_needs_23 rfl (q_inv (As := []) (S := []) hm rfl rfl rfl) rfl rfl rfl (r_nxt (s := s) (i := i) hm (by omega) hR hi1) ?_
      rintro _ ⟨t1, rfl, hk1, hR1⟩
      refine y_ret (r := none) dm_X12_needs_26 rfl rfl rfl ?_
      exact ⟨rfl, t1, rfl, rdT_tk hk1, hR1, hk1.2.2.1 51 (by decide), (hk1.2.2.1 52 (by decide)).trans h52⟩
    · replace hb2 := dF hb2; exact absurd hb2 (by exact not_not_intro hmk)
  · exfalso; omega
theorem dm_X12_needs_16 : mj_dec prog_14_method_82_code 16 = some (.aload_n 0, 1) := by decide +kernel
theorem dm_X12_needs_17 : mj_dec prog_14_method_82_code 17 = some (.invokevirtual 433, 3) := by decide +kernel
theorem dm_X12_needs_20 : mj_dec prog_14_method_82_code 20 = some (.pop, 1) := by decide +kernel
theorem dm_X12_needs_21 : mj_dec prog_14_method_82_code 21 = some (.return_, 1) := by decide +kernel
theorem r_needsF {xt : mj_X} {d : Nat} {pre post : mj_H} {s : RS} {bf : Nat → Int} {ln n m hi i mk : Nat} {F : Nat → Int → Bool} {T : Nat → Tok} (hm : pre.length = 102) (hd : 5 ≤ d) (hT : T = tkI bf ln F) (hK : TOKS T mk ln) (hR : RD bf ln F n m hi s i) {c : Int} (hc : -2147483648 ≤ c ∧ c ≤ 2147483647) (h52 : s.1 52 = -1) (hmk : ¬ isMk T i c) : pgN xt d 231 [.ref 102, ii c] (rS pre post s) (fun h' => ∃ t, h' = rS pre post t ∧ rdT s t ∧ t.1 52 = ((tqP (T i) : Nat) : Int)) := by
  obtain ⟨h38, h8, h40⟩ := RD_s hT hK hR
  have h40r : ¬ (tqS (T i) = 5 ∨ tqS (T i) = 6 ∨ tqS (T i) = 7) ∨ (s.1 40 = tqD (T i) ∧ 1 ≤ tqD (T i) ∧ tqD (T i) ≤ 126) := by
    by_cases z : tqS (T i) = 5 ∨ tqS (T i) = 6 ∨ tqS (T i) = 7
    · exact Or.inr (h40 z)
    · exact Or.inl z
  clear h40
  have h39 : s.1 39 = ((tqP (T i) : Nat) : Int) := by rw [hT]; exact (RD_38 hR).2
  have hPl := P_ln hK i
  have hln := hK.2.1
  refine x_enter pm_X12_needs (L0 := [(0, .ref 102), (1, ii c)]) rfl (Nat.le_of_ble_eq_true rfl) (by omega) ?_
  refine me1 (pc' := 1) (L' := [(0, .ref 102), (1, ii c)]) (S' := [.ref 102]) dm_X12_needs_0 rfl rfl rfl rfl ?_
  refine me3 (pc' := 4) (S' := [ii (s.1 52)]) dm_X12_needs_1 (q_geti (v := s.1 52) hm rfl (fun m i l => rg_52 m i l) rfl) rfl rfl rfl ?_
  refine y_1lt (a := s.1 52) (t := 8) (pc' := 7) dm_X12_needs_4 rfl rfl (by omega) (fun hb1 => ?_) (fun hb1 => ?_)
  · refine me1 (pc' := 9) (L' := [(0, .ref 102), (1, ii c)]) (S' := [.ref 102]) dm_X12_needs_8 rfl rfl rfl rfl ?_
    refine me1 (pc' := 10) (L' := [(0, .ref 102), (1, ii c)]) (S' := [ii c, .ref 102]) dm_X12_needs_9 rfl rfl rfl rfl ?_
    refine x_cp (pc' := 13) (v := zz (decide (isMk T i c))) (rest := []) dm_X12_needs_10 rfl (q_inv (As := [ii c]) (S := []) hm rfl rfl rfl) rfl rfl rfl (r_mkd_ (i := i) hm (by omega) hT hK hR (by omega)) ?_
    refine y_zne (c := decide (isMk T i c)) (t := 22) (pc' := 16) dm_X12_needs_13 rfl rfl (fun hb2 => ?_) (fun hb2 => ?_)
    · replace hb2 := dT hb2; exact absurd hb2 (by exact hmk)
    · replace hb2 := dF hb2
      refine me1 (pc' := 17) (L' := [(0, .ref 102), (1, ii c)]) (S' := [.ref 102]) dm_X12_needs_16 rfl rfl rfl rfl ?_
      refine x_cv (pc' := 20) (rest := []) dm_X12_needs_17 rfl (q_inv (As := []) (S := []) hm rfl rfl rfl) rfl rfl rfl (r_wrong_ (s := s) hm (by omega) (by omega)) ?_
      rintro _ _ ⟨rfl, rfl⟩
      refine me0 (pc' := 21) (S' := []) dm_X12_needs_20 rfl rfl rfl rfl ?_
      refine y_ret (r := none) dm_X12_needs_21 rfl rfl rfl ?_
      exact ⟨rfl, wrgS s, rfl, rdT_wr s, (wr_52 (by omega)).trans h39⟩
  · exfalso; omega
set_option maxRecDepth 20000 in
theorem pm_X12_closes : mj_mmof pg_ms 230 = some ((⟨"ArrayCalculatorModel", "closes", "(I)V"⟩, prog_14_method_86_code, 2, (Option.none : Option Jvm.ClassFile.FieldType)), 12, false, mj_dec prog_14_method_86_code) := rfl
theorem dm_X12_closes_0 : mj_dec prog_14_method_86_code 0 = some (.aload_n 0, 1) := by decide +kernel
theorem dm_X12_closes_1 : mj_dec prog_14_method_86_code 1 = some (.iload_n 1, 1) := by decide +kernel
theorem dm_X12_closes_2 : mj_dec prog_14_method_86_code 2 = some (.invokevirtual 463, 3) := by decide +kernel
theorem dm_X12_closes_5 : mj_dec prog_14_method_86_code 5 = some (.aload_n 0, 1) := by decide +kernel
theorem dm_X12_closes_6 : mj_dec prog_14_method_86_code 6 = some (.dup, 1) := by decide +kernel
theorem dm_X12_closes_7 : mj_dec prog_14_method_86_code 7 = some (.getfield 430, 3) := by decide +kernel
theorem dm_X12_closes_10 : mj_dec prog_14_method_86_code 10 = some (.iconst 1, 1) := by decide +kernel
theorem dm_X12_closes_11 : mj_dec prog_14_method_86_code 11 = some (.isub, 1) := by decide +kernel
theorem dm_X12_closes_12 : mj_dec prog_14_method_86_code 12 = some (.putfield 430, 3) := by decide +kernel
theorem dm_X12_closes_15 : mj_dec prog_14_method_86_code 15 = some (.return_, 1) := by decide +kernel
theorem r_closesB {xt : mj_X} {d : Nat} {pre post : mj_H} {s : RS} {c : Int} (hm : pre.length = 102) (hd : 2 ≤ d) (h52 : 0 ≤ s.1 52 ∧ s.1 52 ≤ 1000) : pgN xt d 230 [.ref 102, ii c] (rS pre post s) (fun h' => ∃ t, h' = rS pre post t ∧ rdT s t ∧ t.1 52 = s.1 52) := by
  refine x_enter pm_X12_closes (L0 := [(0, .ref 102), (1, ii c)]) rfl (Nat.le_of_ble_eq_true rfl) (by omega) ?_
  refine me1 (pc' := 1) (L' := [(0, .ref 102), (1, ii c)]) (S' := [.ref 102]) dm_X12_closes_0 rfl rfl rfl rfl ?_
  refine me1 (pc' := 2) (L' := [(0, .ref 102), (1, ii c)]) (S' := [ii c, .ref 102]) dm_X12_closes_1 rfl rfl rfl rfl ?_
  refine x_cn (pc' := 5) (rest := []) dm_X12_closes_2 rfl (q_inv (As := [ii c]) (S := []) hm rfl rfl rfl) rfl rfl rfl (r_needsB (s := s) hm (by omega) h52) ?_
  rintro _ rfl
  refine me1 (pc' := 6) (L' := [(0, .ref 102), (1, ii c)]) (S' := [.ref 102]) dm_X12_closes_5 rfl rfl rfl rfl ?_
  refine me0 (pc' := 7) (S' := [.ref 102, .ref 102]) dm_X12_closes_6 rfl rfl rfl rfl ?_
  refine me3 (pc' := 10) (S' := [ii (s.1 51), .ref 102]) dm_X12_closes_7 (q_geti (v := s.1 51) hm rfl (fun m i l => rg_51 m i l) rfl) rfl rfl rfl ?_
  refine me0 (pc' := 11) (S' := [ii 1, ii (s.1 51), .ref 102]) dm_X12_closes_10 rfl rfl rfl rfl ?_
  refine y_isub (a := s.1 51) (b := 1) dm_X12_closes_11 (pc' := 12) rfl ?_
  refine me3 (pc' := 15) (S' := []) (h1 := rI pre post (va_up s.1 51 ((s.1 51) - 1)) s.2.1 s.2.2.1 s.2.2.2) dm_X12_closes_12 (q_puti hm rfl rfl (fun m i l v => rf_51 m i l v)) rfl rfl rfl ?_
  refine y_ret (r := none) dm_X12_closes_15 rfl rfl rfl ?_
  exact ⟨rfl, op51 s (s.1 51 - 1), rfl, rdT_51 s _, o51_k s _ (by decide)⟩
theorem r_closesT {xt : mj_X} {d : Nat} {pre post : mj_H} {s : RS} {bf : Nat → Int} {ln n m hi i mk : Nat} {F : Nat → Int → Bool} {T : Nat → Tok} (hm : pre.length = 102) (hd : 6 ≤ d) (hT : T = tkI bf ln F) (hK : TOKS T mk ln) (hR : RD bf ln F n m hi s i) {c : Int} (hc : -2147483648 ≤ c ∧ c ≤ 2147483647) {o : Nat} (ho : s.1 51 = ((o + 1 : Nat) : Int)) (h52 : s.1 52 = -1) (hmk : isMk T i c) (hi1 : i + 1 ≤ hi) : pgN xt d 230 [.ref 102, ii c] (rS pre post s) (fun h' => ∃ t, h' = rS pre post t ∧ rdT s t ∧ RD bf ln F n m hi t (i + 1) ∧ t.1 51 = (o : Int) ∧ t.1 52 = -1) := by
  refine x_enter pm_X12_closes (L0 := [(0, .ref 102), (1, ii c)]) rfl (Nat.le_of_ble_eq_true rfl) (by omega) ?_
  refine me1 (pc' := 1) (L' := [(0, .ref 102), (1, ii c)]) (S' := [.ref 102]) dm_X12_closes_0 rfl rfl rfl rfl ?_
  refine me1 (pc' := 2) (L' := [(0, .ref 102), (1, ii c)]) (S' := [ii c, .ref 102]) dm_X12_closes_1 rfl rfl rfl rfl ?_
  refine x_cn (pc' := 5) (rest := []) dm_X12_closes_2 rfl (q_inv (As := [ii c]) (S := []) hm rfl rfl rfl) rfl rfl rfl (r_needsT (s := s) (i := i) hm (by omega) hT hK hR hc h52 hmk hi1) ?_
  rintro _ ⟨t1, rfl, hk1, hR1, h1a, h1b⟩
  refine me1 (pc' := 6) (L' := [(0, .ref 102), (1, ii c)]) (S' := [.ref 102]) dm_X12_closes_5 rfl rfl rfl rfl ?_
  refine me0 (pc' := 7) (S' := [.ref 102, .ref 102]) dm_X12_closes_6 rfl rfl rfl rfl ?_
  refine me3 (pc' := 10) (S' := [ii (t1.1 51), .ref 102]) dm_X12_closes_7 (q_geti (v := t1.1 51) hm rfl (fun m i l => rg_51 m i l) rfl) rfl rfl rfl ?_
  refine me0 (pc' := 11) (S' := [ii 1, ii (t1.1 51), .ref 102]) dm_X12_closes_10 rfl rfl rfl rfl ?_
  refine y_isub (a := t1.1 51) (b := 1) dm_X12_closes_11 (pc' := 12) rfl ?_
  refine me3 (pc' := 15) (S' := []) (h1 := rI pre post (va_up t1.1 51 ((t1.1 51) - 1)) t1.2.1 t1.2.2.1 t1.2.2.2) dm_X12_closes_12 (q_puti hm rfl rfl (fun m i l v => rf_51 m i l v)) rfl rfl rfl ?_
  refine y_ret (r := none) dm_X12_closes_15 rfl rfl rfl ?_
  exact ⟨rfl, op51 t1 (t1.1 51 - 1), rfl, rdT_tr hk1 (rdT_51 t1 _), RD_fr (rdT_51 t1 _).1 (tkE_51 t1 _) hR1, (o51_at t1 _).trans (by omega), (o51_k t1 _ (by decide)).trans h1b⟩
theorem r_closesF {xt : mj_X} {d : Nat} {pre post : mj_H} {s : RS} {bf : Nat → Int} {ln n m hi i mk : Nat} {F : Nat → Int → Bool} {T : Nat → Tok} (hm : pre.length = 102) (hd : 6 ≤ d) (hT : T = tkI bf ln F) (hK : TOKS T mk ln) (hR : RD bf ln F n m hi s i) {c : Int} (hc : -2147483648 ≤ c ∧ c ≤ 2147483647) (h52 : s.1 52 = -1) (hmk : ¬ isMk T i c) : pgN xt d 230 [.ref 102, ii c] (rS pre post s) (fun h' => ∃ t, h' = rS pre post t ∧ rdT s t ∧ t.1 52 = ((tqP (T i) : Nat) : Int)) := by
  refine x_enter pm_X12_closes (L0 := [(0, .ref 102), (1, ii c)]) rfl (Nat.le_of_ble_eq_true rfl) (by omega) ?_
  refine me1 (pc' := 1) (L' := [(0, .ref 102), (1, ii c)]) (S' := [.ref 102]) dm_X12_closes_0 rfl rfl rfl rfl ?_
  refine me1 (pc' := 2) (L' := [(0, .ref 102), (1, ii c)]) (S' := [ii c, .ref 102]) dm_X12_closes_1 rfl rfl rfl rfl ?_
  refine x_cn (pc' := 5) (rest := []) dm_X12_closes_2 rfl (q_inv (As := [ii c]) (S := []) hm rfl rfl rfl) rfl rfl rfl (r_needsF (s := s) (i := i) hm (by omega) hT hK hR hc h52 hmk) ?_
  rintro _ ⟨t1, rfl, hk1, h1b⟩
  refine me1 (pc' := 6) (L' := [(0, .ref 102), (1, ii c)]) (S' := [.ref 102]) dm_X12_closes_5 rfl rfl rfl rfl ?_
  refine me0 (pc' := 7) (S' := [.ref 102, .ref 102]) dm_X12_closes_6 rfl rfl rfl rfl ?_
  refine me3 (pc' := 10) (S' := [ii (t1.1 51), .ref 102]) dm_X12_closes_7 (q_geti (v := t1.1 51) hm rfl (fun m i l => rg_51 m i l) rfl) rfl rfl rfl ?_
  refine me0 (pc' := 11) (S' := [ii 1, ii (t1.1 51), .ref 102]) dm_X12_closes_10 rfl rfl rfl rfl ?_
  refine y_isub (a := t1.1 51) (b := 1) dm_X12_closes_11 (pc' := 12) rfl ?_
  refine me3 (pc' := 15) (S' := []) (h1 := rI pre post (va_up t1.1 51 ((t1.1 51) - 1)) t1.2.1 t1.2.2.1 t1.2.2.2) dm_X12_closes_12 (q_puti hm rfl rfl (fun m i l v => rf_51 m i l v)) rfl rfl rfl ?_
  refine y_ret (r := none) dm_X12_closes_15 rfl rfl rfl ?_
  exact ⟨rfl, op51 t1 (t1.1 51 - 1), rfl, rdT_tr hk1 (rdT_51 t1 _), (o51_k t1 _ (by decide)).trans h1b⟩
set_option maxRecDepth 20000 in
theorem pm_X12_isNoun : mj_mmof pg_ms 222 = some ((⟨"ArrayCalculatorModel", "isNoun", "()Z"⟩, prog_14_method_83_code, 1, (Option.some Jvm.ClassFile.FieldType.boolean)), 12, false, mj_dec prog_14_method_83_code) := rfl
theorem dm_X12_isNoun_0 : mj_dec prog_14_method_83_code 0 = some (.aload_n 0, 1) := by decide +kernel
theorem dm_X12_isNoun_1 : mj_dec prog_14_method_83_code 1 = some (.getfield 380, 3) := by decide +kernel
theorem dm_X12_isNoun_4 : mj_dec prog_14_method_83_code 4 = some (.iconst 1, 1) := by decide +kernel
theorem dm_X12_isNoun_5 : mj_dec prog_14_method_83_code 5 = some (.if_icmp .eq 37, 3) := by decide +kernel
theorem dm_X12_isNoun_8 : mj_dec prog_14_method_83_code 8 = some (.aload_n 0, 1) := by decide +kernel
theorem dm_X12_isNoun_9 : mj_dec prog_14_method_83_code 9 = some (.getfield 380, 3) := by decide +kernel
theorem dm_X12_isNoun_12 : mj_dec prog_14_method_83_code 12 = some (.iconst 2, 1) := by decide +kernel
theorem dm_X12_isNoun_13 : mj_dec prog_14_method_83_code 13 = some (.if_icmp .eq 29, 3) := by decide +kernel
theorem dm_X12_isNoun_16 : mj_dec prog_14_method_83_code 16 = some (.aload_n 0, 1) := by decide +kernel
theorem dm_X12_isNoun_17 : mj_dec prog_14_method_83_code 17 = some (.getfield 380, 3) := by decide +kernel
theorem dm_X12_isNoun_20 : mj_dec prog_14_method_83_code 20 = some (.iconst 3, 1) := by decide +kernel
theorem dm_X12_isNoun_21 : mj_dec prog_14_method_83_code 21 = some (.if_icmp .eq 21, 3) := by decide +kernel
theorem dm_X12_isNoun_24 : mj_dec prog_14_method_83_code 24 = some (.aload_n 0, 1) := by decide +kernel
theorem dm_X12_isNoun_25 : mj_dec prog_14_method_83_code 25 = some (.bipush 40, 2) := by decide +kernel
theorem dm_X12_isNoun_27 : mj_dec prog_14_method_83_code 27 = some (.invokevirtual 440, 3) := by decide +kernel
theorem dm_X12_isNoun_30 : mj_dec prog_14_method_83_code 30 = some (.ifCond .ne 12, 3) := by decide +kernel
theorem dm_X12_isNoun_33 : mj_dec prog_14_method_83_code 33 = some (.aload_n 0, 1) := by decide +kernel
theorem dm_X12_isNoun_34 : mj_dec prog_14_method_83_code 34 = some (.bipush 91, 2) := by decide +kernel
theorem dm_X12_isNoun_36 : mj_dec prog_14_method_83_code 36 = some (.invokevirtual 440, 3) := by decide +kernel
theorem dm_X12_isNoun_39 : mj_dec prog_14_method_83_code 39 = some (.ifCond .eq 7, 3) := by decide +kernel
theorem dm_X12_isNoun_42 : mj_dec prog_14_method_83_code 42 = some (.iconst 1, 1) := by decide +kernel
theorem dm_X12_isNoun_43 : mj_dec prog_14_method_83_code 43 = some (.goto 4, 3) := by decide +kernel
theorem dm_X12_isNoun_46 : mj_dec prog_14_method_83_code 46 = some (.iconst 0, 1) := by decide +kernel
theorem dm_X12_isNoun_47 : mj_dec prog_14_method_83_code 47 = some (.ireturn, 1) := by decide +kernel
theorem r_isNoun_ {xt : mj_X} {d : Nat} {pre post : mj_H} {s : RS} {bf : Nat → Int} {ln n m hi i mk : Nat} {F : Nat → Int → Bool} {T : Nat → Tok} (hm : pre.length = 102) (hd : 2 ≤ d) (hT : T = tkI bf ln F) (hK : TOKS T mk ln) (hR : RD bf ln F n m hi s i) : pgP xt d 222 [.ref 102] (rS pre post s) (zz (decide (isNn T i))) := by
  obtain ⟨h38, h8, h40⟩ := RD_s hT hK hR
  have h40r : ¬ (tqS (T i) = 5 ∨ tqS (T i) = 6 ∨ tqS (T i) = 7) ∨ (s.1 40 = tqD (T i) ∧ 1 ≤ tqD (T i) ∧ tqD (T i) ≤ 126) := by
    by_cases z : tqS (T i) = 5 ∨ tqS (T i) = 6 ∨ tqS (T i) = 7
    · exact Or.inr (h40 z)
    · exact Or.inl z
  clear h40
  have h39 : s.1 39 = ((tqP (T i) : Nat) : Int) := by rw [hT]; exact (RD_38 hR).2
  have hPl := P_ln hK i
  have hln := hK.2.1
  refine x_enter pm_X12_isNoun (L0 := [(0, .ref 102)]) rfl (Nat.le_of_ble_eq_true rfl) (by omega) ?_
  refine me1 (pc' := 1) (L' := [(0, .ref 102)]) (S' := [.ref 102]) dm_X12_isNoun_0 rfl rfl rfl rfl ?_
  refine me3 (pc' := 4) (S' := [ii (s.1 38)]) dm_X12_isNoun_1 (q_geti (v := s.1 38) hm rfl (fun m i l => rg_38 m i l) rfl) rfl rfl rfl ?_
  refine me0 (pc' := 5) (S' := [ii 1, ii (s.1 38)]) dm_X12_isNoun_4 rfl rfl rfl rfl ?_
  refine y_2eq (a := s.1 38) (b := 1) (t := 42) (pc' := 8) dm_X12_isNoun_5 rfl rfl (by omega) (fun hb1 => ?_) (fun hb1 => ?_)
  · refine me0 (pc' := 43) (S' := [ii 1]) dm_X12_isNoun_42 rfl rfl rfl rfl ?_
    refine me2 (pc' := 47) (S' := [ii 1]) dm_X12_isNoun_43 rfl rfl rfl ?_
    refine y_ret (r := some (ii 1)) dm_X12_isNoun_47 rfl rfl rfl ?_
    exact ⟨congrArg some (zt (by omega)), rfl⟩
  · refine me1 (pc' := 9) (L' := [(0, .ref 102)]) (S' := [.ref 102]) dm_X12_isNoun_8 rfl rfl rfl rfl ?_
    refine me3 (pc' := 12) (S' := [ii (s.1 38)]) dm_X12_isNoun_9 (q_geti (v := s.1 38) hm rfl (fun m i l => rg_38 m i l) rfl) rfl rfl rfl ?_
    refine me0 (pc' := 13) (S' := [ii 2, ii (s.1 38)]) dm_X12_isNoun_12 rfl rfl rfl rfl ?_
    refine y_2eq (a := s.1 38) (b := 2) (t := 42) (pc' := 16) dm_X12_isNoun_13 rfl rfl (by omega) (fun hb2 => ?_) (fun hb2 => ?_)
    · refine me0 (pc' := 43) (S' := [ii 1]) dm_X12_isNoun_42 rfl rfl rfl rfl ?_
      refine me2 (pc' := 47) (S' := [ii 1]) dm_X12_isNoun_43 rfl rfl rfl ?_
      refine y_ret (r := some (ii 1)) dm_X12_isNoun_47 rfl rfl rfl ?_
      exact ⟨congrArg some (zt (by omega)), rfl⟩
    · refine me1 (pc' := 17) (L' := [(0, .ref 102)]) (S' := [.ref 102]) dm_X12_isNoun_16 rfl rfl rfl rfl ?_
      refine me3 (pc' := 20) (S' := [ii (s.1 38)]) dm_X12_isNoun_17 (q_geti (v := s.1 38) hm rfl (fun m i l => rg_38 m i l) rfl) rfl rfl rfl ?_
      refine me0 (pc' := 21) (S' := [ii 3, ii (s.1 38)]) dm_X12_isNoun_20 rfl rfl rfl rfl ?_
      refine y_2eq (a := s.1 38) (b := 3) (t := 42) (pc' := 24) dm_X12_isNoun_21 rfl rfl (by omega) (fun hb3 => ?_) (fun hb3 => ?_)
      · refine me0 (pc' := 43) (S' := [ii 1]) dm_X12_isNoun_42 rfl rfl rfl rfl ?_
        refine me2 (pc' := 47) (S' := [ii 1]) dm_X12_isNoun_43 rfl rfl rfl ?_
        refine y_ret (r := some (ii 1)) dm_X12_isNoun_47 rfl rfl rfl ?_
        exact ⟨congrArg some (zt (by omega)), rfl⟩
      · refine me1 (pc' := 25) (L' := [(0, .ref 102)]) (S' := [.ref 102]) dm_X12_isNoun_24 rfl rfl rfl rfl ?_
        refine me0 (pc' := 27) (S' := [ii 40, .ref 102]) dm_X12_isNoun_25 rfl rfl rfl rfl ?_
        refine x_cp (pc' := 30) (v := zz (decide (isMk T i 40))) (rest := []) dm_X12_isNoun_27 rfl (q_inv (As := [ii 40]) (S := []) hm rfl rfl rfl) rfl rfl rfl (r_mkd_ (i := i) hm (by omega) hT hK hR (by omega)) ?_
        refine y_zne (c := decide (isMk T i 40)) (t := 42) (pc' := 33) dm_X12_isNoun_30 rfl rfl (fun hb4 => ?_) (fun hb4 => ?_)
        · replace hb4 := dT hb4
          refine me0 (pc' := 43) (S' := [ii 1]) dm_X12_isNoun_42 rfl rfl rfl rfl ?_
          refine me2 (pc' := 47) (S' := [ii 1]) dm_X12_isNoun_43 rfl rfl rfl ?_
          refine y_ret (r := some (ii 1)) dm_X12_isNoun_47 rfl rfl rfl ?_
          exact ⟨congrArg some (zt (by omega)), rfl⟩
        · replace hb4 := dF hb4
          refine me1 (pc' := 34) (L' := [(0, .ref 102)]) (S' := [.ref 102]) dm_X12_isNoun_33 rfl rfl rfl rfl ?_
          refine me0 (pc' := 36) (S' := [ii 91, .ref 102]) dm_X12_isNoun_34 rfl rfl rfl rfl ?_
          refine x_cp (pc' := 39) (v := zz (decide (isMk T i 91))) (rest := []) dm_X12_isNoun_36 rfl (q_inv (As := [ii 91]) (S := []) hm rfl rfl rfl) rfl rfl rfl (r_mkd_ (i := i) hm (by omega) hT hK hR (by omega)) ?_
          refine y_zeq (c := decide (isMk T i 91)) (t := 46) (pc' := 42) dm_X12_isNoun_39 rfl rfl (fun hb5 => ?_) (fun hb5 => ?_)
          · replace hb5 := dF hb5
            refine me0 (pc' := 47) (S' := [ii 0]) dm_X12_isNoun_46 rfl rfl rfl rfl ?_
            refine y_ret (r := some (ii 0)) dm_X12_isNoun_47 rfl rfl rfl ?_
            exact ⟨congrArg some (zf (by omega)), rfl⟩
          · replace hb5 := dT hb5
            refine me0 (pc' := 43) (S' := [ii 1]) dm_X12_isNoun_42 rfl rfl rfl rfl ?_
            refine me2 (pc' := 47) (S' := [ii 1]) dm_X12_isNoun_43 rfl rfl rfl ?_
            refine y_ret (r := some (ii 1)) dm_X12_isNoun_47 rfl rfl rfl ?_
            exact ⟨congrArg some (zt (by omega)), rfl⟩
set_option maxRecDepth 20000 in
theorem pm_X12_isOpening : mj_mmof pg_ms 232 = some ((⟨"ArrayCalculatorModel", "isOpening", "()Z"⟩, prog_14_method_88_code, 2, (Option.some Jvm.ClassFile.FieldType.boolean)), 12, false, mj_dec prog_14_method_88_code) := rfl
theorem dm_X12_isOpening_0 : mj_dec prog_14_method_88_code 0 = some (.aload_n 0, 1) := by decide +kernel
theorem dm_X12_isOpening_1 : mj_dec prog_14_method_88_code 1 = some (.getfield 383, 3) := by decide +kernel
theorem dm_X12_isOpening_4 : mj_dec prog_14_method_88_code 4 = some (.istore_n 1, 1) := by decide +kernel
theorem dm_X12_isOpening_5 : mj_dec prog_14_method_88_code 5 = some (.aload_n 0, 1) := by decide +kernel
theorem dm_X12_isOpening_6 : mj_dec prog_14_method_88_code 6 = some (.iload_n 1, 1) := by decide +kernel
theorem dm_X12_isOpening_7 : mj_dec prog_14_method_88_code 7 = some (.invokevirtual 373, 3) := by decide +kernel
theorem dm_X12_isOpening_10 : mj_dec prog_14_method_88_code 10 = some (.bipush 32, 2) := by decide +kernel
theorem dm_X12_isOpening_12 : mj_dec prog_14_method_88_code 12 = some (.if_icmp .ne 9, 3) := by decide +kernel
theorem dm_X12_isOpening_15 : mj_dec prog_14_method_88_code 15 = some (.iinc 1 1, 3) := by decide +kernel
theorem dm_X12_isOpening_18 : mj_dec prog_14_method_88_code 18 = some (.goto (-13), 3) := by decide +kernel
theorem dm_X12_isOpening_21 : mj_dec prog_14_method_88_code 21 = some (.aload_n 0, 1) := by decide +kernel
theorem dm_X12_isOpening_22 : mj_dec prog_14_method_88_code 22 = some (.iload_n 1, 1) := by decide +kernel
theorem dm_X12_isOpening_23 : mj_dec prog_14_method_88_code 23 = some (.invokevirtual 373, 3) := by decide +kernel
theorem dm_X12_isOpening_26 : mj_dec prog_14_method_88_code 26 = some (.bipush 40, 2) := by decide +kernel
theorem dm_X12_isOpening_28 : mj_dec prog_14_method_88_code 28 = some (.if_icmp .ne 7, 3) := by decide +kernel
theorem dm_X12_isOpening_31 : mj_dec prog_14_method_88_code 31 = some (.iconst 1, 1) := by decide +kernel
theorem dm_X12_isOpening_32 : mj_dec prog_14_method_88_code 32 = some (.goto 4, 3) := by decide +kernel
theorem dm_X12_isOpening_35 : mj_dec prog_14_method_88_code 35 = some (.iconst 0, 1) := by decide +kernel
theorem dm_X12_isOpening_36 : mj_dec prog_14_method_88_code 36 = some (.ireturn, 1) := by decide +kernel
theorem r_isOpening_ {xt : mj_X} {d : Nat} {pre post : mj_H} {s : RS} {bf : Nat → Int} {ln n m hi i mk : Nat} {F : Nat → Int → Bool} {T : Nat → Tok} (hm : pre.length = 102) (hd : 2 ≤ d) (hT : T = tkI bf ln F) (hK : TOKS T mk ln) (hR : RD bf ln F n m hi s i) : pgP xt d 232 [.ref 102] (rS pre post s) (zz (decide (isMk T (i + 1) 40))) := by
  obtain ⟨a, h35, hqa, hal, hbl, -⟩ := RD_q hR
  have hln := hR.2.1.2.1
  refine x_enter pm_X12_isOpening (L0 := [(0, .ref 102)]) rfl (Nat.le_of_ble_eq_true rfl) (by omega) ?_
  refine me1 (pc' := 1) (L' := [(0, .ref 102)]) (S' := [.ref 102]) dm_X12_isOpening_0 rfl rfl rfl rfl ?_
  refine me3 (pc' := 4) (S' := [ii (s.1 35)]) dm_X12_isOpening_1 (q_geti (v := s.1 35) hm rfl (fun m i l => rg_35 m i l) rfl) rfl rfl rfl ?_
  refine pg_st0 (S' := [ii ((a : Nat) : Int)]) (congrArg (fun z => ii z :: []) (h35)) ?_
  refine me1 (pc' := 5) (L' := [(1, ii ((a : Nat) : Int)), (0, .ref 102)]) (S' := []) dm_X12_isOpening_4 rfl rfl rfl rfl ?_
  have lp5 : ∀ (n5 : Nat) (b : Nat), ln - b = n5 → ((tkQ bf ln F (i + 1)).1 ≤ b ∧ b ≤ ln) → (blR bf (tkQ bf ln F (i + 1)).1 b) → pgE xt (d - 1) 12 2 false (Option.some Jvm.ClassFile.FieldType.boolean) (mj_dec prog_14_method_88_code) 5 [(0, .ref 102), (1, ii ((b : Nat) : Int))] [] (rI pre post s.1 s.2.1 s.2.2.1 s.2.2.2) (fun r h' => r = some (zz (decide (isMk T (i + 1) 40))) ∧ h' = rS pre post s) := by
    intro n5
    induction n5 using Nat.strongRecOn with
    | ind n5 ih5 =>
      intro b hm5 hbn hbb
      have hbA := byO_A (bf := bf) (ln := ln) (i := b)
      refine me1 (pc' := 6) (L' := [(0, .ref 102), (1, ii ((b : Nat) : Int))]) (S' := [.ref 102]) dm_X12_isOpening_5 rfl rfl rfl rfl ?_
      refine me1 (pc' := 7) (L' := [(0, .ref 102), (1, ii ((b : Nat) : Int))]) (S' := [ii ((b : Nat) : Int), .ref 102]) dm_X12_isOpening_6 rfl rfl rfl rfl ?_
      have hy1P : tpR s bf ln := hR.2.1
      have hy1r := byR_r s ((b : Nat) : Int)
      have hy1 : byR s ((b : Nat) : Int) = byO bf ln b := by rw [show (((b : Nat) : Int) : Int) = ((b : Nat) : Int) by first | rfl | omega]; exact tpR_by hy1P
      refine x_cp (pc' := 10) (v := ii (byR s ((b : Nat) : Int))) (rest := []) dm_X12_isOpening_7 rfl (q_inv (As := [ii ((b : Nat) : Int)]) (S := []) hm rfl rfl rfl) rfl rfl rfl (r_byteAt_ (s := s) (i := ((b : Nat) : Int)) hm (by omega) (by omega) (by have := hy1P.1; have := hy1P.2.1; omega) hy1P.2.2.1) ?_
      refine me0 (pc' := 12) (S' := [ii 32, ii (byR s ((b : Nat) : Int))]) dm_X12_isOpening_10 rfl rfl rfl rfl ?_
      refine y_2ne (a := byR s ((b : Nat) : Int)) (b := 32) (t := 21) (pc' := 15) dm_X12_isOpening_12 rfl rfl (by omega) (fun hb1 => ?_) (fun hb1 => ?_)
      · have hsk : skB bf ln (tkQ bf ln F (i + 1)).1 = b := skB_eq hbn.1 hbn.2 hbb (fun z => by omega)
        have hiff : isMk T (i + 1) 40 ↔ byO bf ln b = 40 := by rw [hT]; exact tkI_m40 hsk
        clear hbA
        refine me1 (pc' := 22) (L' := [(0, .ref 102), (1, ii ((b : Nat) : Int))]) (S' := [.ref 102]) dm_X12_isOpening_21 rfl rfl rfl rfl ?_
        refine me1 (pc' := 23) (L' := [(0, .ref 102), (1, ii ((b : Nat) : Int))]) (S' := [ii ((b : Nat) : Int), .ref 102]) dm_X12_isOpening_22 rfl rfl rfl rfl ?_
        have hy2P : tpR s bf ln := hR.2.1
        have hy2r := byR_r s ((b : Nat) : Int)
        have hy2 : byR s ((b : Nat) : Int) = byO bf ln b := by rw [show (((b : Nat) : Int) : Int) = ((b : Nat) : Int) by first | rfl | omega]; exact tpR_by hy2P
        refine x_cp (pc' := 26) (v := ii (byR s ((b : Nat) : Int))) (rest := []) dm_X12_isOpening_23 rfl (q_inv (As := [ii ((b : Nat) : Int)]) (S := []) hm rfl rfl rfl) rfl rfl rfl (r_byteAt_ (s := s) (i := ((b : Nat) : Int)) hm (by omega) (by omega) (by have := hy2P.1; have := hy2P.2.1; omega) hy2P.2.2.1) ?_
        refine me0 (pc' := 28) (S' := [ii 40, ii (byR s ((b : Nat) : Int))]) dm_X12_isOpening_26 rfl rfl rfl rfl ?_
        refine y_2ne (a := byR s ((b : Nat) : Int)) (b := 40) (t := 35) (pc' := 31) dm_X12_isOpening_28 rfl rfl (by omega) (fun hb2 => ?_) (fun hb2 => ?_)
        · refine me0 (pc' := 36) (S' := [ii 0]) dm_X12_isOpening_35 rfl rfl rfl rfl ?_
          refine y_ret (r := some (ii 0)) dm_X12_isOpening_36 rfl rfl rfl ?_
          exact ⟨congrArg some (zf (by omega)), rfl⟩
        · refine me0 (pc' := 32) (S' := [ii 1]) dm_X12_isOpening_31 rfl rfl rfl rfl ?_
          refine me2 (pc' := 36) (S' := [ii 1]) dm_X12_isOpening_32 rfl rfl rfl ?_
          refine y_ret (r := some (ii 1)) dm_X12_isOpening_36 rfl rfl rfl ?_
          exact ⟨congrArg some (zt (by omega)), rfl⟩
      · refine y_iinc (pc' := 18) (L' := [(1, ii (((b : Nat) : Int) + 1)), (0, .ref 102)]) dm_X12_isOpening_15 (y_incp (a := ((b : Nat) : Int)) (c := 1) rfl rfl (by decide)) rfl ?_
        refine me2 (pc' := 5) (S' := []) dm_X12_isOpening_18 rfl rfl rfl ?_
        exact pg_sub (L := [(0, .ref 102), (1, ii (((b + 1) : Nat) : Int))]) rfl rfl rfl (ih5 (ln - (b + 1)) (by omega) (b + 1) rfl ⟨by omega, by omega⟩ (fun j x y => by by_cases z : j = b; (rw [z]; omega); exact hbb j x (by omega)))
  exact pg_sub (L := [(0, .ref 102), (1, ii ((a : Nat) : Int))]) rfl rfl rfl (lp5 _ a rfl ⟨hqa, hal⟩ hbl)
set_option maxRecDepth 20000 in
theorem pm_X12_begin : mj_mmof pg_ms 204 = some ((⟨"ArrayCalculatorModel", "begin", "(I)V"⟩, prog_14_method_89_code, 2, (Option.none : Option Jvm.ClassFile.FieldType)), 12, false, mj_dec prog_14_method_89_code) := rfl
theorem dm_X12_begin_0 : mj_dec prog_14_method_89_code 0 = some (.aload_n 0, 1) := by decide +kernel
theorem dm_X12_begin_1 : mj_dec prog_14_method_89_code 1 = some (.iload_n 1, 1) := by decide +kernel
theorem dm_X12_begin_2 : mj_dec prog_14_method_89_code 2 = some (.putfield 370, 3) := by decide +kernel
theorem dm_X12_begin_5 : mj_dec prog_14_method_89_code 5 = some (.aload_n 0, 1) := by decide +kernel
theorem dm_X12_begin_6 : mj_dec prog_14_method_89_code 6 = some (.iconst 0, 1) := by decide +kernel
theorem dm_X12_begin_7 : mj_dec prog_14_method_89_code 7 = some (.putfield 383, 3) := by decide +kernel
theorem dm_X12_begin_10 : mj_dec prog_14_method_89_code 10 = some (.aload_n 0, 1) := by decide +kernel
theorem dm_X12_begin_11 : mj_dec prog_14_method_89_code 11 = some (.iconst 0, 1) := by decide +kernel
theorem dm_X12_begin_12 : mj_dec prog_14_method_89_code 12 = some (.putfield 376, 3) := by decide +kernel
theorem dm_X12_begin_15 : mj_dec prog_14_method_89_code 15 = some (.aload_n 0, 1) := by decide +kernel
theorem dm_X12_begin_16 : mj_dec prog_14_method_89_code 16 = some (.iconst (-1), 1) := by decide +kernel
theorem dm_X12_begin_17 : mj_dec prog_14_method_89_code 17 = some (.putfield 402, 3) := by decide +kernel
theorem dm_X12_begin_20 : mj_dec prog_14_method_89_code 20 = some (.aload_n 0, 1) := by decide +kernel
theorem dm_X12_begin_21 : mj_dec prog_14_method_89_code 21 = some (.lconst 0, 1) := by decide +kernel
theorem dm_X12_begin_22 : mj_dec prog_14_method_89_code 22 = some (.putfield 421, 3) := by decide +kernel
theorem dm_X12_begin_25 : mj_dec prog_14_method_89_code 25 = some (.aload_n 0, 1) := by decide +kernel
theorem dm_X12_begin_26 : mj_dec prog_14_method_89_code 26 = some (.iconst 0, 1) := by decide +kernel
theorem dm_X12_begin_27 : mj_dec prog_14_method_89_code 27 = some (.putfield 430, 3) := by decide +kernel
theorem dm_X12_begin_30 : mj_dec prog_14_method_89_code 30 = some (.aload_n 0, 1) := by decide +kernel
theorem dm_X12_begin_31 : mj_dec prog_14_method_89_code 31 = some (.iconst (-1), 1) := by decide +kernel
theorem dm_X12_begin_32 : mj_dec prog_14_method_89_code 32 = some (.putfield 427, 3) := by decide +kernel
theorem dm_X12_begin_35 : mj_dec prog_14_method_89_code 35 = some (.aload_n 0, 1) := by decide +kernel
theorem dm_X12_begin_36 : mj_dec prog_14_method_89_code 36 = some (.invokevirtual 437, 3) := by decide +kernel
theorem dm_X12_begin_39 : mj_dec prog_14_method_89_code 39 = some (.return_, 1) := by decide +kernel
theorem r_begin_ {xt : mj_X} {d : Nat} {pre post : mj_H} {s : RS} {bf : Nat → Int} {ln n m hi : Nat} {F : Nat → Int → Bool} (hm : pre.length = 102) (hd : 5 ≤ d) (hTN : TN bf ln n m s) (hFN : ∀ j, j ≤ hi → FNp bf ln (F j) (beS s) m) : pgN xt d 204 [.ref 102, ii (ln : Int)] (rS pre post s) (fun h' => ∃ t, h' = rS pre post t ∧ BG bf ln F n m hi s t) := by
  refine x_enter pm_X12_begin (L0 := [(0, .ref 102), (1, ii (ln : Int))]) rfl (Nat.le_of_ble_eq_true rfl) (by omega) ?_
  refine me1 (pc' := 1) (L' := [(0, .ref 102), (1, ii (ln : Int))]) (S' := [.ref 102]) dm_X12_begin_0 rfl rfl rfl rfl ?_
  refine me1 (pc' := 2) (L' := [(0, .ref 102), (1, ii (ln : Int))]) (S' := [ii (ln : Int), .ref 102]) dm_X12_begin_1 rfl rfl rfl rfl ?_
  refine me3 (pc' := 5) (S' := []) (h1 := rI pre post (va_up s.1 34 (ln : Int)) s.2.1 s.2.2.1 s.2.2.2) dm_X12_begin_2 (q_puti hm rfl rfl (fun m i l v => rf_34 m i l v)) rfl rfl rfl ?_
  refine me1 (pc' := 6) (L' := [(0, .ref 102), (1, ii (ln : Int))]) (S' := [.ref 102]) dm_X12_begin_5 rfl rfl rfl rfl ?_
  refine me0 (pc' := 7) (S' := [ii 0, .ref 102]) dm_X12_begin_6 rfl rfl rfl rfl ?_
  refine me3 (pc' := 10) (S' := []) (h1 := rI pre post (va_up (va_up s.1 34 (ln : Int)) 35 0) s.2.1 s.2.2.1 s.2.2.2) dm_X12_begin_7 (q_puti hm rfl rfl (fun m i l v => rf_35 m i l v)) rfl rfl rfl ?_
  refine me1 (pc' := 11) (L' := [(0, .ref 102), (1, ii (ln : Int))]) (S' := [.ref 102]) dm_X12_begin_10 rfl rfl rfl rfl ?_
  refine me0 (pc' := 12) (S' := [ii 0, .ref 102]) dm_X12_begin_11 rfl rfl rfl rfl ?_
  refine me3 (pc' := 15) (S' := []) (h1 := rI pre post (va_up (va_up (va_up s.1 34 (ln : Int)) 35 0) 36 (zi false)) s.2.1 s.2.2.1 s.2.2.2) dm_X12_begin_12 (q_putz (c := false) hm rfl rfl (fun m i l v => rf_36 m i l v)) rfl rfl rfl ?_
  refine me1 (pc' := 16) (L' := [(0, .ref 102), (1, ii (ln : Int))]) (S' := [.ref 102]) dm_X12_begin_15 rfl rfl rfl rfl ?_
  refine me0 (pc' := 17) (S' := [ii (-1), .ref 102]) dm_X12_begin_16 rfl rfl rfl rfl ?_
  refine me3 (pc' := 20) (S' := []) (h1 := rI pre post (va_up (va_up (va_up (va_up s.1 34 (ln : Int)) 35 0) 36 (zi false)) 37 (-1)) s.2.1 s.2.2.1 s.2.2.2) dm_X12_begin_17 (q_puti hm rfl rfl (fun m i l v => rf_37 m i l v)) rfl rfl rfl ?_
  refine me1 (pc' := 21) (L' := [(0, .ref 102), (1, ii (ln : Int))]) (S' := [.ref 102]) dm_X12_begin_20 rfl rfl rfl rfl ?_
  refine me0 (pc' := 22) (S' := [.long (Int64.ofInt 0), .ref 102]) dm_X12_begin_21 rfl rfl rfl rfl ?_
  refine me3 (pc' := 25) (S' := []) (h1 := rI pre post (va_up (va_up (va_up (va_up s.1 34 (ln : Int)) 35 0) 36 (zi false)) 37 (-1)) (va_up s.2.1 42 (Int64.ofInt 0)) s.2.2.1 s.2.2.2) dm_X12_begin_22 (q_putl hm rfl rfl (fun m i l v => rf_42 m i l v)) rfl rfl rfl ?_
  refine me1 (pc' := 26) (L' := [(0, .ref 102), (1, ii (ln : Int))]) (S' := [.ref 102]) dm_X12_begin_25 rfl rfl rfl rfl ?_
  refine me0 (pc' := 27) (S' := [ii 0, .ref 102]) dm_X12_begin_26 rfl rfl rfl rfl ?_
  refine me3 (pc' := 30) (S' := []) (h1 := rI pre post (va_up (va_up (va_up (va_up (va_up s.1 34 (ln : Int)) 35 0) 36 (zi false)) 37 (-1)) 51 0) (va_up s.2.1 42 (Int64.ofInt 0)) s.2.2.1 s.2.2.2) dm_X12_begin_27 (q_puti hm rfl rfl (fun m i l v => rf_51 m i l v)) rfl rfl rfl ?_
  refine me1 (pc' := 31) (L' := [(0, .ref 102), (1, ii (ln : Int))]) (S' := [.ref 102]) dm_X12_begin_30 rfl rfl rfl rfl ?_
  refine me0 (pc' := 32) (S' := [ii (-1), .ref 102]) dm_X12_begin_31 rfl rfl rfl rfl ?_
  refine me3 (pc' := 35) (S' := []) (h1 := rI pre post (va_up (va_up (va_up (va_up (va_up (va_up s.1 34 (ln : Int)) 35 0) 36 (zi false)) 37 (-1)) 51 0) 52 (-1)) (va_up s.2.1 42 (Int64.ofInt 0)) s.2.2.1 s.2.2.2) dm_X12_begin_32 (q_puti hm rfl rfl (fun m i l v => rf_52 m i l v)) rfl rfl rfl ?_
  refine me1 (pc' := 36) (L' := [(0, .ref 102), (1, ii (ln : Int))]) (S' := [.ref 102]) dm_X12_begin_35 rfl rfl rfl rfl ?_
  refine x_cn (pc' := 39) (rest := []) dm_X12_begin_36 rfl (q_inv (As := []) (S := []) hm rfl rfl rfl) rfl rfl rfl (r_next_ (s := (va_up (va_up (va_up (va_up (va_up (va_up s.1 34 (ln : Int)) 35 0) 36 (zi false)) 37 (-1)) 51 0) 52 (-1), va_up s.2.1 42 (Int64.ofInt 0), s.2.2.1, s.2.2.2)) (bf := bf) (ln := ln) (fn := F 0) (q := tkQ bf ln F 0) (n := n) (m := m) hm (by omega) ⟨rfl, hTN.1, hTN.2.1, hTN.2.2.1⟩ hTN.2.2.2.1 hTN.2.2.2.2.1 hTN.2.2.2.2.2.1 hTN.2.2.2.2.2.2 (FNp_k (s := beS s) rfl rfl (hFN 0 (Nat.zero_le _))) (rtQ_0 rfl rfl rfl)) ?_
  rintro _ ⟨t1, rfl, hk1, hp1⟩
  refine y_ret (r := none) dm_X12_begin_39 rfl rfl rfl ?_
  have hrb : rbF s (va_up (va_up (va_up (va_up (va_up (va_up s.1 34 (ln : Int)) 35 0) 36 (zi false)) 37 (-1)) 51 0) 52 (-1), va_up s.2.1 42 (Int64.ofInt 0), s.2.2.1, s.2.2.2) := ⟨rfl, fun k hk => by show va_up (va_up (va_up (va_up (va_up (va_up s.1 34 _) 35 _) 36 _) 37 _) 51 _) 52 _ k = _; rw [up_ne _ _ (by omega), up_ne _ _ (by omega), up_ne _ _ (by omega), up_ne _ _ (by omega), up_ne _ _ (by omega), up_ne _ _ (by omega)], fun k _ h2 => up_ne _ _ h2⟩
  have hq := rbF_tr hrb (rbF_tk hk1)
  have hTq := TN_k hq hTN
  refine ⟨rfl, t1, rfl, ⟨hp1, ?_, ⟨hTq.2.2.2.1, hTq.2.2.2.2.1, hTq.2.2.2.2.2.1, hTq.2.2.2.2.2.2⟩, fun j _ h2 => FNp_k (s := beS s) ?_ ?_ (hFN j h2)⟩, ?_, ?_, ?_, hq⟩
  · exact tpR_k (s := (va_up (va_up (va_up (va_up (va_up (va_up s.1 34 (ln : Int)) 35 0) 36 (zi false)) 37 (-1)) 51 0) 52 (-1), va_up s.2.1 42 (Int64.ofInt 0), s.2.2.1, s.2.2.2)) ⟨rfl, hTN.1, hTN.2.1, hTN.2.2.1⟩ hk1
  · rw [hk1.2.1]; rfl
  · exact hk1.2.2.2 42 (by decide)
  · exact hk1.2.2.1 51 (by decide)
  · exact hk1.2.2.1 52 (by decide)
  · exact hk1.2.2.2 42 (by decide)
