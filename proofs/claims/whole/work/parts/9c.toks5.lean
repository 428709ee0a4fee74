/-! the spec of tokens: sort, place, number (of a name: the class's key), the reference's key, signs of a text, end -/
def vrL : List Int := [43, 45, 42, 37, 38, 124, 60, 62, 61, 126, 33, 44, 35, 63, 64, 36, 94, 46, 95]
def mrkL : List Int := [59, 40, 41, 91, 93, 123, 125, 58]
/-- the sort of the token that a sign is -/
def sobI (c : Int) : Int := if c ∈ vrL then 5 else if c = 47 ∨ c = 92 ∨ c = 39 then 6 else if c ∈ mrkL then 7 else 0
theorem sob_n : ∀ n : Nat, n < 256 → mj_sob (Int32.ofInt (n : Int)) = Int32.ofInt (sobI (n : Int)) := by decide +kernel
theorem sob_ii {c : Int} (h0 : -1 ≤ c) (h1 : c ≤ 255) : mj_sob (Int32.ofInt c) = Int32.ofInt (sobI c) := by
  by_cases z : c = -1
  · subst z; decide +kernel
  · have := sob_n c.toNat (by omega)
    rw [show ((c.toNat : Nat) : Int) = c by omega] at this
    exact this
theorem p_sob {S : List Value} {h : mj_H} {c : Int} (h0 : -1 ≤ c) (h1 : c ≤ 255) (hr : mj_room S = true) : mj_pr pg_tl 2 7 (ii c :: S) h = some (ii (sobI c) :: S, h) := by
  show (if mj_room S = true ∧ Int32.ofInt c < 256 then some (Value.int (mj_sob (Int32.ofInt c)) :: S, h) else none) = _
  rw [if_pos ⟨hr, by
    rw [Int32.lt_iff_toInt_lt, n_to (by omega) (by omega)]
    show c < 256
    omega⟩, sob_ii h0 h1]
theorem sobI_r (c : Int) : 0 ≤ sobI c ∧ sobI c ≤ 7 ∧ (sobI c = 0 ∨ 5 ≤ sobI c) := by
  unfold sobI
  split
  · omega
  · split
    · omega
    · split <;> omega
/-- the class's key of n letters from i on: five bits a letter, the first one lowest -/
def ckI (f : Nat → Int) (i : Nat) : Nat → Int
  | 0 => 0
  | n + 1 => ckI f i n + (f (i + n) - 96) * 32 ^ n
/-- the reference's key: eight bits a letter, the last one lowest -/
def rkI (f : Nat → Int) (i : Nat) : Nat → Int
  | 0 => 0
  | n + 1 => rkI f i n * 256 + f (i + n)
abbrev blB : Int → Bool := fun c => decide (c = 32)
/-- the first place from i on that is no blank -/
def skB (bf : Nat → Int) (ln i : Nat) : Nat := i + rnL blB bf ln ln i
abbrev Tok : Type := Nat × Nat × Int × Int × (Nat → Int) × Nat
/-- the token at place p, which is no blank; bh: the sort of the token that ends there -/
def tkB (bf : Nat → Int) (ln : Nat) (fn : Int → Bool) (p bh : Nat) : Tok :=
  if isDgI (bf p) ∨ isLtI (bf p) then
    if bh = 1 ∨ bh = 3 ∨ bh = 4 then (8, p, 0, 0, bf, p)
    else if isDgI (bf p) then (1, p, dvI bf p (rnL dgB bf ln 18 p), 0, bf, p + rnL dgB bf ln 18 p)
    else (if fn (ckI bf p (rnL ltB bf ln 8 p)) = true then 4 else 3, p, ckI bf p (rnL ltB bf ln 8 p), rkI bf p (rnL ltB bf ln 8 p), bf, p + rnL ltB bf ln 8 p)
  else if bf p = 95 ∧ isDgI (byA bf ln ((p + 1 : Nat) : Int)) then (1, p, - dvI bf (p + 1) (rnL dgB bf ln 18 (p + 1)), 0, bf, p + 1 + rnL dgB bf ln 18 (p + 1))
  else if bf p = 39 ∧ ¬ (bh = 4 ∨ bh = 5 ∨ bh = 6) then
    if 0 < rnL txB bf ln 60 (p + 1) ∧ byA bf ln ((p + 1 + rnL txB bf ln 60 (p + 1) : Nat) : Int) = 39 then (2, p, ((rnL txB bf ln 60 (p + 1) : Nat) : Int), 0, fun k => bf (p + 1 + k), p + 1 + rnL txB bf ln 60 (p + 1) + 1) else (8, p, 0, 0, bf, p)
  else if sobI (bf p) = 0 then (8, p, 0, 0, bf, p) else ((sobI (bf p)).toNat, p, bf p, 0, bf, p + 1)
abbrev tqS (t : Tok) : Nat := t.1
abbrev tqP (t : Tok) : Nat := t.2.1
abbrev tqD (t : Tok) : Int := t.2.2.1
abbrev tqR (t : Tok) : Int := t.2.2.2.1
abbrev tqX (t : Tok) : Nat → Int := t.2.2.2.2.1
abbrev tqE (t : Tok) : Nat := t.2.2.2.2.2
/-- the token from place a on; pv: the sort of the token that ends at a -/
def tkA (bf : Nat → Int) (ln : Nat) (fn : Int → Bool) (q : Nat × Nat) : Tok :=
  if skB bf ln q.1 < ln then tkB bf ln fn (skB bf ln q.1) (if skB bf ln q.1 = q.1 then q.2 else 0) else (0, skB bf ln q.1, 0, 0, bf, skB bf ln q.1)
/-- where the reading stands after a token: an end and a fault stay where they are -/
def tkN (q : Nat × Nat) (t : Tok) : Nat × Nat := if tqS t = 0 ∨ tqS t = 8 then q else (tqE t, tqS t)
def tkQ (bf : Nat → Int) (ln : Nat) (F : Nat → Int → Bool) : Nat → Nat × Nat
  | 0 => (0, 0)
  | i + 1 => tkN (tkQ bf ln F i) (tkA bf ln (F i) (tkQ bf ln F i))
/-- the line's i-th token -/
def tkI (bf : Nat → Int) (ln : Nat) (F : Nat → Int → Bool) (i : Nat) : Tok := tkA bf ln (F i) (tkQ bf ln F i)
theorem tkQ_s (bf : Nat → Int) (ln : Nat) (F : Nat → Int → Bool) (i : Nat) : tkQ bf ln F (i + 1) = tkN (tkQ bf ln F i) (tkI bf ln F i) := rfl
theorem tkQ_cg {bf : Nat → Int} {ln : Nat} {F G : Nat → Int → Bool} : ∀ i : Nat, (∀ j, j < i → F j = G j) → tkQ bf ln F i = tkQ bf ln G i := by
  intro i
  induction i with
  | zero => intro _; rfl
  | succ i ih =>
    intro h
    show tkN (tkQ bf ln F i) (tkA bf ln (F i) (tkQ bf ln F i)) = tkN (tkQ bf ln G i) (tkA bf ln (G i) (tkQ bf ln G i))
    rw [ih (fun j hj => h j (by omega)), h i (by omega)]
theorem tkI_cg {bf : Nat → Int} {ln : Nat} {F G : Nat → Int → Bool} {i : Nat} (h : ∀ j, j ≤ i → F j = G j) : tkI bf ln F i = tkI bf ln G i := by
  unfold tkI
  rw [tkQ_cg i (fun j hj => h j (by omega)), h i (Nat.le_refl _)]
/-- the line tells a function: name, colon, brace -/
def tlK (t0 t1 t2 : Tok) (k : Int) : Bool := decide ((tqS t0 = 3 ∨ tqS t0 = 4) ∧ tqD t0 = k ∧ (tqS t1 = 7 ∧ tqD t1 = 58) ∧ (tqS t2 = 7 ∧ tqD t2 = 123) ∧ k ≠ 24 ∧ k ≠ 25)
/-- which keys are a function's, for the i-th token -/
def tkG (bf : Nat → Int) (ln : Nat) (fn : Int → Bool) (i : Nat) (k : Int) : Bool := fn k || (decide (3 ≤ i) && tlK (tkI bf ln (fun _ => fn) 0) (tkI bf ln (fun _ => fn) 1) (tkI bf ln (fun _ => fn) 2) k)
theorem n_shlL {a : Int} {k : Nat} (hk : k < 63) : Int64.ofInt a <<< ((Int32.ofInt (k : Int)).toInt64 &&& 63) = Int64.ofInt (a * 2 ^ k) := by
  have e1 : ∀ k : Fin 63, (Int32.ofInt (k.val : Int)).toInt64 &&& 63 = Int64.ofInt (k.val : Int) := by decide +kernel
  rw [e1 ⟨k, hk⟩]
  apply Int64.toBitVec_inj.mp
  have e3 : (BitVec.ofNat 64 k).smod 64 = BitVec.ofNat 64 k := by
    have : ∀ k : Fin 63, (BitVec.ofNat 64 k.val).smod 64 = BitVec.ofNat 64 k.val := by decide +kernel
    exact this ⟨k, hk⟩
  rw [Int64.toBitVec_shiftLeft, Int64.toBitVec_ofInt, Int64.toBitVec_ofInt, Int64.toBitVec_ofInt, BitVec.ofInt_natCast, e3, BitVec.shiftLeft_eq', BitVec.toNat_ofNat, Nat.mod_eq_of_lt (a := k) (by omega), BitVec.shiftLeft_eq_mul_twoPow, BitVec.ofInt_mul]
  congr 1
  have e2 : (2 : Int) ^ k = ((2 ^ k : Nat) : Int) := by norm_cast
  rw [e2, BitVec.ofInt_natCast]
  apply BitVec.eq_of_toNat_eq
  rw [BitVec.toNat_twoPow, BitVec.toNat_ofNat]
theorem n_orL {a b : Int} {k : Nat} (h0 : 0 ≤ a) (h1 : a < 2 ^ k) (h2 : 0 ≤ b) (h3 : a + b * 2 ^ k ≤ 9223372036854775807) : Int64.ofInt a ||| Int64.ofInt (b * 2 ^ k) = Int64.ofInt (a + b * 2 ^ k) := by
  obtain ⟨n, rfl⟩ : ∃ n : Nat, a = (n : Int) := ⟨a.toNat, by omega⟩
  obtain ⟨m, rfl⟩ : ∃ m : Nat, b = (m : Int) := ⟨b.toNat, by omega⟩
  have e2 : (2 : Int) ^ k = ((2 ^ k : Nat) : Int) := by norm_cast
  rw [e2, ← Int.natCast_mul] at h3 ⊢
  rw [e2] at h1
  rw [← Int.natCast_add] at h3 ⊢
  apply Int64.toBitVec_inj.mp
  rw [Int64.toBitVec_or, Int64.toBitVec_ofInt, Int64.toBitVec_ofInt, Int64.toBitVec_ofInt, BitVec.ofInt_natCast, BitVec.ofInt_natCast, BitVec.ofInt_natCast]
  apply BitVec.eq_of_toNat_eq
  rw [BitVec.toNat_or, BitVec.toNat_ofNat, BitVec.toNat_ofNat, BitVec.toNat_ofNat, Nat.mod_eq_of_lt (a := n) (by omega), Nat.mod_eq_of_lt (a := m * 2 ^ k) (by omega), Nat.mod_eq_of_lt (by omega), Nat.or_comm, Nat.mul_comm m, ← Nat.two_pow_add_eq_or_of_lt (by omega), Nat.add_comm]
theorem y_lshl {xt : mj_X} {d own nL : Nat} {ini : Bool} {ret : Option FieldType} {cf : Nat → Option (Instr × Nat)} {pc pc' : Nat} {L : mj_L} {S : List Value} {h : mj_H} {P : Option Value → mj_H → Prop} {a n : Int} {k : Nat} (hc : cf pc = some (.lshl, 1)) (hp : pc + 1 = pc') (hn : n = (k : Int)) (hk : k < 63) (q : pgE xt d own nL ini ret cf pc' L (.long (Int64.ofInt (a * 2 ^ k)) :: S) h P) : pgE xt d own nL ini ret cf pc L (ii n :: .long (Int64.ofInt a) :: S) h P := by
  subst hn
  exact me0 hc (show mj_alu .lshl (ii (k : Int) :: .long (Int64.ofInt a) :: S) = some (.long (Int64.ofInt (a * 2 ^ k)) :: S) from congrArg (fun z => some (Value.long z :: S)) (n_shlL hk)) rfl rfl hp q
theorem p32 : ∀ k : Nat, k < 9 → (2 : Int) ^ (5 * k) = 32 ^ k := by decide +kernel
theorem ck_r {f : Nat → Int} {i : Nat} : ∀ n : Nat, (∀ j, j < n → isLtI (f (i + j))) → 0 ≤ ckI f i n ∧ ckI f i n < 32 ^ n := by
  intro n
  induction n with
  | zero => intro _; exact ⟨Int.le_refl _, (by show (0 : Int) < 32 ^ 0; decide)⟩
  | succ n ih =>
    intro h
    have a := ih (fun j hj => h j (by omega))
    have b := h n (by omega)
    show 0 ≤ ckI f i n + (f (i + n) - 96) * 32 ^ n ∧ ckI f i n + (f (i + n) - 96) * 32 ^ n < 32 ^ (n + 1)
    rw [Int.pow_succ]
    have hP : (0 : Int) ≤ 32 ^ n := by omega
    have c1 := Int.mul_le_mul_of_nonneg_right (show f (i + n) - 96 ≤ 26 by omega) hP
    have c2 := Int.mul_nonneg (show 0 ≤ f (i + n) - 96 by omega) hP
    generalize (32 : Int) ^ n = P at *
    generalize (f (i + n) - 96) * P = m at *
    omega
theorem rk_r {f : Nat → Int} {i : Nat} : ∀ n : Nat, (∀ j, j < n → isLtI (f (i + j))) → 0 ≤ rkI f i n ∧ rkI f i n < 256 ^ n := by
  intro n
  induction n with
  | zero => intro _; exact ⟨Int.le_refl _, (by show (0 : Int) < 256 ^ 0; decide)⟩
  | succ n ih =>
    intro h
    have a := ih (fun j hj => h j (by omega))
    have b := h n (by omega)
    show 0 ≤ rkI f i n * 256 + f (i + n) ∧ rkI f i n * 256 + f (i + n) < 256 ^ (n + 1)
    rw [Int.pow_succ]
    generalize (256 : Int) ^ n = P at *
    omega
theorem ck_b {f : Nat → Int} {i n : Nat} (hn : n ≤ 8) (h : ∀ j, j < n → isLtI (f (i + j))) : 0 ≤ ckI f i n ∧ ckI f i n < 1099511627776 := by
  have a := ck_r n h
  have b : ∀ k : Nat, k < 9 → (32 : Int) ^ k ≤ 1099511627776 := by decide +kernel
  have c := b n (by omega)
  omega
theorem ck_or {f : Nat → Int} {i k : Nat} {c : Int} (hk : k < 8) (hc : c = f (i + k)) (hl : ∀ j, j < k + 1 → isLtI (f (i + j))) : Int64.ofInt (ckI f i k) ||| Int64.ofInt ((c - 97 + 1) * 2 ^ (5 * k)) = Int64.ofInt (ckI f i (k + 1)) := by
  have a := ck_r k (fun j hj => hl j (by omega))
  have b := ck_b (n := k + 1) (by omega) hl
  have e : ckI f i (k + 1) = ckI f i k + (c - 97 + 1) * 2 ^ (5 * k) := by
    show ckI f i k + (f (i + k) - 96) * 32 ^ k = _
    rw [p32 k (by omega), hc, show f (i + k) - 97 + 1 = f (i + k) - 96 by omega]
  have l := hl k (by omega)
  rw [n_orL a.1 (by rw [p32 k (by omega)]; exact a.2) (by rw [hc]; omega) (by rw [← e]; omega), e]
theorem skB_eq {bf : Nat → Int} {ln i p : Nat} (hi : i ≤ p) (hp : p ≤ ln) (hb : ∀ j, i ≤ j → j < p → bf j = 32) (he : p < ln → bf p ≠ 32) : skB bf ln i = p := by
  unfold skB
  rw [rnL_eq ln i (p - i) (by omega) (fun j a b => ⟨by omega, decide_eq_true (hb j a (by omega))⟩) (Or.inr (fun z => by
    rw [show i + (p - i) = p by omega] at z
    exact he z.1 (of_decide_eq_true z.2)))]
  omega
/-- the names of the class -/
def NMS (h : mj_H) (n m : Nat) (kf jf : Nat → Int64) (vf of : Nat → Option Nat) : Prop := h[4]? = some (cO 2 [.ref 5, .ref 6, ii (n : Int), .ref 7, .ref 8, ii (m : Int)]) ∧ h[5]? = some (cJ 40 kf) ∧ h[6]? = some (cA 4 40 vf) ∧ h[7]? = some (cJ 40 jf) ∧ h[8]? = some (cA 5 40 of) ∧ n ≤ 40 ∧ m ≤ 40 ∧ (∀ j, j < n → ∃ q, vf j = some q) ∧ (∀ j, j < m → ∃ q, of j = some q)
/-- what the tokens made so far tell of a key -/
abbrev tlT (mk : Nat) (sf : Nat → Int) (df : Nat → Int64) (key : Int64) : Prop := 2 < mk ∧ (tokS mk sf 0 = 3 ∨ tokS mk sf 0 = 4) ∧ df 0 = key ∧ (sf 1 = 7 ∧ (df 1).toInt = 58) ∧ (sf 2 = 7 ∧ (df 2).toInt = 123) ∧ key ≠ Int64.ofInt 24 ∧ key ≠ Int64.ofInt 25
/-- which keys are a function's, where the tokens made so far are these -/
def fnT (mk : Nat) (sf : Nat → Int) (df jf : Nat → Int64) (m : Nat) (k : Int) : Bool := decide (fndK jf m (Int64.ofInt k) < m ∨ tlT mk sf df (Int64.ofInt k))
theorem fnT_y {mk : Nat} {sf : Nat → Int} {df jf : Nat → Int64} {m : Nat} {k : Int} (h : fndK jf m (Int64.ofInt k) < m ∨ tlT mk sf df (Int64.ofInt k)) : fnT mk sf df jf m k = true := decide_eq_true h
theorem fnT_n {mk : Nat} {sf : Nat → Int} {df jf : Nat → Int64} {m : Nat} {k : Int} (h : ¬ (fndK jf m (Int64.ofInt k) < m ∨ tlT mk sf df (Int64.ofInt k))) : fnT mk sf df jf m k = false := decide_eq_false h
section tkBs
variable {bf : Nat → Int} {ln : Nat} {fn : Int → Bool} {p bh : Nat}
theorem tkB_bad (h : isDgI (bf p) ∨ isLtI (bf p)) (hb : bh = 1 ∨ bh = 3 ∨ bh = 4) : tkB bf ln fn p bh = (8, p, 0, 0, bf, p) := by
  unfold tkB; rw [if_pos h, if_pos hb]
theorem tkB_dg (h : isDgI (bf p)) (hb : ¬ (bh = 1 ∨ bh = 3 ∨ bh = 4)) : tkB bf ln fn p bh = (1, p, dvI bf p (rnL dgB bf ln 18 p), 0, bf, p + rnL dgB bf ln 18 p) := by
  unfold tkB; rw [if_pos (Or.inl h), if_neg hb, if_pos h]
theorem tkB_lt (h : isLtI (bf p)) (hb : ¬ (bh = 1 ∨ bh = 3 ∨ bh = 4)) : tkB bf ln fn p bh = (if fn (ckI bf p (rnL ltB bf ln 8 p)) = true then 4 else 3, p, ckI bf p (rnL ltB bf ln 8 p), rkI bf p (rnL ltB bf ln 8 p), bf, p + rnL ltB bf ln 8 p) := by
  unfold tkB; rw [if_pos (Or.inr h), if_neg hb, if_neg (by omega)]
theorem tkB_ng (h : bf p = 95) (h2 : isDgI (byA bf ln ((p + 1 : Nat) : Int))) : tkB bf ln fn p bh = (1, p, - dvI bf (p + 1) (rnL dgB bf ln 18 (p + 1)), 0, bf, p + 1 + rnL dgB bf ln 18 (p + 1)) := by
  unfold tkB; rw [if_neg (by omega), if_pos ⟨h, h2⟩]
theorem tkB_tx (h : bf p = 39) (hb : ¬ (bh = 4 ∨ bh = 5 ∨ bh = 6)) (h2 : 0 < rnL txB bf ln 60 (p + 1) ∧ byA bf ln ((p + 1 + rnL txB bf ln 60 (p + 1) : Nat) : Int) = 39) : tkB bf ln fn p bh = (2, p, ((rnL txB bf ln 60 (p + 1) : Nat) : Int), 0, fun k => bf (p + 1 + k), p + 1 + rnL txB bf ln 60 (p + 1) + 1) := by
  unfold tkB; rw [if_neg (by omega), if_neg (by omega), if_pos ⟨h, hb⟩, if_pos h2]
theorem tkB_tn (h : bf p = 39) (hb : ¬ (bh = 4 ∨ bh = 5 ∨ bh = 6)) (h2 : ¬ (0 < rnL txB bf ln 60 (p + 1) ∧ byA bf ln ((p + 1 + rnL txB bf ln 60 (p + 1) : Nat) : Int) = 39)) : tkB bf ln fn p bh = (8, p, 0, 0, bf, p) := by
  unfold tkB; rw [if_neg (by omega), if_neg (by omega), if_pos ⟨h, hb⟩, if_neg h2]
theorem tkB_sg (h : ¬ (isDgI (bf p) ∨ isLtI (bf p))) (h2 : ¬ (bf p = 95 ∧ isDgI (byA bf ln ((p + 1 : Nat) : Int)))) (h3 : ¬ (bf p = 39 ∧ ¬ (bh = 4 ∨ bh = 5 ∨ bh = 6))) (h4 : sobI (bf p) ≠ 0) : tkB bf ln fn p bh = ((sobI (bf p)).toNat, p, bf p, 0, bf, p + 1) := by
  unfold tkB; rw [if_neg h, if_neg h2, if_neg h3, if_neg h4]
theorem tkB_no (h : ¬ (isDgI (bf p) ∨ isLtI (bf p))) (h2 : ¬ (bf p = 95 ∧ isDgI (byA bf ln ((p + 1 : Nat) : Int)))) (h3 : ¬ (bf p = 39 ∧ ¬ (bh = 4 ∨ bh = 5 ∨ bh = 6))) (h4 : sobI (bf p) = 0) : tkB bf ln fn p bh = (8, p, 0, 0, bf, p) := by
  unfold tkB; rw [if_neg h, if_neg h2, if_neg h3, if_pos h4]
/-- a token takes a byte at least, and ends in the line -/
theorem tkB_e (hp : p < ln) (h8 : tqS (tkB bf ln fn p bh) ≠ 8) : tqP (tkB bf ln fn p bh) = p ∧ p < tqE (tkB bf ln fn p bh) ∧ tqE (tkB bf ln fn p bh) ≤ ln ∧ 1 ≤ tqS (tkB bf ln fn p bh) ∧ tqS (tkB bf ln fn p bh) ≤ 7 := by
  by_cases z : isDgI (bf p) ∨ isLtI (bf p)
  · by_cases y : bh = 1 ∨ bh = 3 ∨ bh = 4
    · rw [tkB_bad z y] at h8; exact absurd rfl h8
    · by_cases x : isDgI (bf p)
      · rw [tkB_dg x y]
        have a := (rnL_le (P := dgB) (f := bf) (ln := ln) 18 p).2 (by omega)
        have b : 0 < rnL dgB bf ln 18 p := by
          show 0 < (if p < ln ∧ dgB (bf p) = true then rnL dgB bf ln 17 (p + 1) + 1 else 0)
          rw [if_pos ⟨hp, decide_eq_true x⟩]; omega
        exact ⟨rfl, show p < p + _ by omega, a, show (1 : Nat) ≤ 1 by decide, show (1 : Nat) ≤ 7 by decide⟩
      · have x2 : isLtI (bf p) := by omega
        rw [tkB_lt x2 y]
        have a := (rnL_le (P := ltB) (f := bf) (ln := ln) 8 p).2 (by omega)
        have b : 0 < rnL ltB bf ln 8 p := by
          show 0 < (if p < ln ∧ ltB (bf p) = true then rnL ltB bf ln 7 (p + 1) + 1 else 0)
          rw [if_pos ⟨hp, decide_eq_true x2⟩]; omega
        refine ⟨rfl, show p < p + _ by omega, a, ?_, ?_⟩
        · show 1 ≤ (if _ then 4 else 3); split <;> decide
        · show (if _ then 4 else 3) ≤ 7; split <;> decide
  · by_cases y : bf p = 95 ∧ isDgI (byA bf ln ((p + 1 : Nat) : Int))
    · rw [tkB_ng y.1 y.2]
      have hi : p + 1 < ln := Classical.byContradiction fun w => by have := byA_out (bf := bf) (Nat.le_of_not_lt w); omega
      have a := (rnL_le (P := dgB) (f := bf) (ln := ln) 18 (p + 1)).2 (by omega)
      exact ⟨rfl, show p < p + 1 + _ by omega, a, show (1 : Nat) ≤ 1 by decide, show (1 : Nat) ≤ 7 by decide⟩
    · by_cases x : bf p = 39 ∧ ¬ (bh = 4 ∨ bh = 5 ∨ bh = 6)
      · by_cases w : 0 < rnL txB bf ln 60 (p + 1) ∧ byA bf ln ((p + 1 + rnL txB bf ln 60 (p + 1) : Nat) : Int) = 39
        · rw [tkB_tx x.1 x.2 w]
          have hi : p + 1 + rnL txB bf ln 60 (p + 1) < ln := Classical.byContradiction fun u => by have := byA_out (bf := bf) (Nat.le_of_not_lt u); omega
          exact ⟨rfl, show p < p + 1 + _ + 1 by omega, hi, show (1 : Nat) ≤ 2 by decide, show (2 : Nat) ≤ 7 by decide⟩
        · rw [tkB_tn x.1 x.2 w] at h8; exact absurd rfl h8
      · by_cases w : sobI (bf p) = 0
        · rw [tkB_no z y x w] at h8; exact absurd rfl h8
        · rw [tkB_sg z y x w]
          have := sobI_r (bf p)
          exact ⟨rfl, show p < p + 1 by omega, hp, show 1 ≤ (sobI (bf p)).toNat by omega, show (sobI (bf p)).toNat ≤ 7 by omega⟩
theorem tkB_p : tqP (tkB bf ln fn p bh) = p := by
  unfold tkB
  repeat (first | rfl | split)
end tkBs
/-- what the class's next leaves: the token is put behind the others, or there is none -/
def nxP (h h' : mj_H) (mk ln : Nat) (gd : Bool) (sf pf bf : Nat → Int) (df : Nat → Int64) (t : Tok) (x : Value) : Prop := x = zz (decide (tqS t ≠ 8)) ∧ ((tqS t = 8 ∧ h' = h) ∨ (tqS t ≠ 8 ∧ TK h' (mk + 1) ((tqE t : Nat) : Int) ln gd (va_up sf mk ((tqS t : Nat) : Int)) (va_up pf mk ((tqP t : Nat) : Int)) bf (va_up df mk (Int64.ofInt (tqD t))) ∧ tkF h h'))
set_option maxRecDepth 20000 in
theorem pm_X8_addName : mj_mmof pg_ms 25 = some ((⟨"ArrayCalculator$Tokens", "addName", "(I)V"⟩, prog_10_method_15_code, 5, (Option.none : Option Jvm.ClassFile.FieldType)), 8, false, mj_dec prog_10_method_15_code) := rfl
theorem dm_X8_addName_0 : mj_dec prog_10_method_15_code 0 = some (.lconst 0, 1) := by decide +kernel
theorem dm_X8_addName_1 : mj_dec prog_10_method_15_code 1 = some (.lstore_n 2, 1) := by decide +kernel
theorem dm_X8_addName_2 : mj_dec prog_10_method_15_code 2 = some (.iload_n 1, 1) := by decide +kernel
theorem dm_X8_addName_3 : mj_dec prog_10_method_15_code 3 = some (.istore 4, 2) := by decide +kernel
theorem dm_X8_addName_5 : mj_dec prog_10_method_15_code 5 = some (.iload 4, 2) := by decide +kernel
theorem dm_X8_addName_7 : mj_dec prog_10_method_15_code 7 = some (.iload_n 1, 1) := by decide +kernel
theorem dm_X8_addName_8 : mj_dec prog_10_method_15_code 8 = some (.bipush 8, 2) := by decide +kernel
theorem dm_X8_addName_10 : mj_dec prog_10_method_15_code 10 = some (.iadd, 1) := by decide +kernel
theorem dm_X8_addName_11 : mj_dec prog_10_method_15_code 11 = some (.if_icmp .ge 43, 3) := by decide +kernel
theorem dm_X8_addName_14 : mj_dec prog_10_method_15_code 14 = some (.aload_n 0, 1) := by decide +kernel
theorem dm_X8_addName_15 : mj_dec prog_10_method_15_code 15 = some (.iload 4, 2) := by decide +kernel
theorem dm_X8_addName_17 : mj_dec prog_10_method_15_code 17 = some (.invokevirtual 74, 3) := by decide +kernel
theorem dm_X8_addName_20 : mj_dec prog_10_method_15_code 20 = some (.invokestatic 91, 3) := by decide +kernel
theorem dm_X8_addName_23 : mj_dec prog_10_method_15_code 23 = some (.ifCond .eq 31, 3) := by decide +kernel
theorem dm_X8_addName_26 : mj_dec prog_10_method_15_code 26 = some (.lload_n 2, 1) := by decide +kernel
theorem dm_X8_addName_27 : mj_dec prog_10_method_15_code 27 = some (.aload_n 0, 1) := by decide +kernel
theorem dm_X8_addName_28 : mj_dec prog_10_method_15_code 28 = some (.iload 4, 2) := by decide +kernel
theorem dm_X8_addName_30 : mj_dec prog_10_method_15_code 30 = some (.invokevirtual 74, 3) := by decide +kernel
theorem dm_X8_addName_33 : mj_dec prog_10_method_15_code 33 = some (.bipush 97, 2) := by decide +kernel
theorem dm_X8_addName_35 : mj_dec prog_10_method_15_code 35 = some (.isub, 1) := by decide +kernel
theorem dm_X8_addName_36 : mj_dec prog_10_method_15_code 36 = some (.iconst 1, 1) := by decide +kernel
theorem dm_X8_addName_37 : mj_dec prog_10_method_15_code 37 = some (.iadd, 1) := by decide +kernel
theorem dm_X8_addName_38 : mj_dec prog_10_method_15_code 38 = some (.i2l, 1) := by decide +kernel
theorem dm_X8_addName_39 : mj_dec prog_10_method_15_code 39 = some (.iload 4, 2) := by decide +kernel
theorem dm_X8_addName_41 : mj_dec prog_10_method_15_code 41 = some (.iload_n 1, 1) := by decide +kernel
theorem dm_X8_addName_42 : mj_dec prog_10_method_15_code 42 = some (.isub, 1) := by decide +kernel
theorem dm_X8_addName_43 : mj_dec prog_10_method_15_code 43 = some (.iconst 5, 1) := by decide +kernel
theorem dm_X8_addName_44 : mj_dec prog_10_method_15_code 44 = some (.imul, 1) := by decide +kernel
theorem dm_X8_addName_45 : mj_dec prog_10_method_15_code 45 = some (.lshl, 1) := by decide +kernel
theorem dm_X8_addName_46 : mj_dec prog_10_method_15_code 46 = some (.lor, 1) := by decide +kernel
theorem dm_X8_addName_47 : mj_dec prog_10_method_15_code 47 = some (.lstore_n 2, 1) := by decide +kernel
theorem dm_X8_addName_48 : mj_dec prog_10_method_15_code 48 = some (.iinc 4 1, 3) := by decide +kernel
theorem dm_X8_addName_51 : mj_dec prog_10_method_15_code 51 = some (.goto (-46), 3) := by decide +kernel
theorem dm_X8_addName_54 : mj_dec prog_10_method_15_code 54 = some (.aload_n 0, 1) := by decide +kernel
theorem dm_X8_addName_55 : mj_dec prog_10_method_15_code 55 = some (.aload_n 0, 1) := by decide +kernel
theorem dm_X8_addName_56 : mj_dec prog_10_method_15_code 56 = some (.getfield 25, 3) := by decide +kernel
theorem dm_X8_addName_59 : mj_dec prog_10_method_15_code 59 = some (.lload_n 2, 1) := by decide +kernel
theorem dm_X8_addName_60 : mj_dec prog_10_method_15_code 60 = some (.invokevirtual 119, 3) := by decide +kernel
theorem dm_X8_addName_63 : mj_dec prog_10_method_15_code 63 = some (.ifnonnull 11, 3) := by decide +kernel
theorem dm_X8_addName_74 : mj_dec prog_10_method_15_code 74 = some (.iconst 4, 1) := by decide +kernel
theorem dm_X8_addName_75 : mj_dec prog_10_method_15_code 75 = some (.goto 4, 3) := by decide +kernel
theorem dm_X8_addName_79 : mj_dec prog_10_method_15_code 79 = some (.iload_n 1, 1) := by decide +kernel
theorem dm_X8_addName_80 : mj_dec prog_10_method_15_code 80 = some (.lload_n 2, 1) := by decide +kernel
theorem dm_X8_addName_81 : mj_dec prog_10_method_15_code 81 = some (.iload 4, 2) := by decide +kernel
theorem dm_X8_addName_83 : mj_dec prog_10_method_15_code 83 = some (.invokevirtual 53, 3) := by decide +kernel
theorem dm_X8_addName_86 : mj_dec prog_10_method_15_code 86 = some (.return_, 1) := by decide +kernel
theorem x_addNameY {xt : mj_X} {d mk ln : Nat} {le_ : Int} {gd : Bool} {sf pf bf : Nat → Int} {df : Nat → Int64} {h : mj_H} (hd : 4 ≤ d) (hT : TK h mk le_ ln gd sf pf bf df) {pl : Nat} {n m : Nat} {kf jf : Nat → Int64} {vf of : Nat → Option Nat} (hN : NMS h n m kf jf vf of) (hr : mk < 201) (hp : pl ≤ 300) (hbf : ∀ j, 0 ≤ bf j ∧ bf j ≤ 255) (hs : ∀ j : Nat, -2147483648 ≤ sf j ∧ sf j ≤ 2147483647) (hi : fndK jf m (Int64.ofInt (ckI bf pl (rnL ltB bf ln 8 pl))) < m) : pgN xt d 25 [.ref 9, ii (pl : Int)] h (fun h' => TK h' (mk + 1) ((pl + (rnL ltB bf ln 8 pl) : Nat) : Int) ln gd (va_up sf mk (if (fnT mk sf df jf m) (ckI bf pl (rnL ltB bf ln 8 pl)) = true then 4 else 3)) (va_up pf mk (pl : Int)) bf (va_up df mk (Int64.ofInt (ckI bf pl (rnL ltB bf ln 8 pl)))) ∧ tkF h h') := by
  obtain ⟨h9, h10, h11, h12, h3, hmk, hln⟩ := id hT
  obtain ⟨q4, q5, q6, q7, q8, qn, qm, qv, qo⟩ := id hN
  refine x_enter pm_X8_addName (L0 := [(0, .ref 9), (1, ii (pl : Int))]) rfl (Nat.le_of_ble_eq_true rfl) (by omega) ?_
  refine me0 (pc' := 1) (S' := [.long (Int64.ofInt 0)]) dm_X8_addName_0 rfl rfl rfl rfl ?_
  refine me1 (pc' := 2) (L' := [(2, .long (Int64.ofInt 0)), (0, .ref 9), (1, ii (pl : Int))]) (S' := []) dm_X8_addName_1 rfl rfl rfl rfl ?_
  refine me1 (pc' := 3) (L' := [(2, .long (Int64.ofInt 0)), (0, .ref 9), (1, ii (pl : Int))]) (S' := [ii (pl : Int)]) dm_X8_addName_2 rfl rfl rfl rfl ?_
  refine me1 (pc' := 5) (L' := [(4, ii (pl : Int)), (2, .long (Int64.ofInt 0)), (0, .ref 9), (1, ii (pl : Int))]) (S' := []) dm_X8_addName_3 rfl rfl rfl rfl ?_
  have lp5 : ∀ (n5 : Nat) (k : Nat), 8 - k = n5 → (k ≤ 8) → (∀ j, pl ≤ j → j < pl + k → j < ln ∧ ltB (bf j) = true) → pgE xt (d - 1) 8 5 false (Option.none : Option Jvm.ClassFile.FieldType) (mj_dec prog_10_method_15_code) 5 [(0, .ref 9), (1, ii (pl : Int)), (2, .long (Int64.ofInt (ckI bf pl k))), (4, ii ((pl + k : Nat) : Int))] [] h (fun r h' => r = none ∧ TK h' (mk + 1) ((pl + (rnL ltB bf ln 8 pl) : Nat) : Int) ln gd (va_up sf mk (if (fnT mk sf df jf m) (ckI bf pl (rnL ltB bf ln 8 pl)) = true then 4 else 3)) (va_up pf mk (pl : Int)) bf (va_up df mk (Int64.ofInt (ckI bf pl (rnL ltB bf ln 8 pl)))) ∧ tkF h h') := by
    intro n5
    induction n5 using Nat.strongRecOn with
    | ind n5 ih5 =>
      intro k hm5 hk hrun
      have hbr := byA_r (ln := ln) hbf ((pl + k : Nat) : Int)
      refine me1 (pc' := 7) (L' := [(0, .ref 9), (1, ii (pl : Int)), (2, .long (Int64.ofInt (ckI bf pl k))), (4, ii ((pl + k : Nat) : Int))]) (S' := [ii ((pl + k : Nat) : Int)]) dm_X8_addName_5 rfl rfl rfl rfl ?_
      refine me1 (pc' := 8) (L' := [(0, .ref 9), (1, ii (pl : Int)), (2, .long (Int64.ofInt (ckI bf pl k))), (4, ii ((pl + k : Nat) : Int))]) (S' := [ii (pl : Int), ii ((pl + k : Nat) : Int)]) dm_X8_addName_7 rfl rfl rfl rfl ?_
      refine me0 (pc' := 10) (S' := [ii 8, ii (pl : Int), ii ((pl + k : Nat) : Int)]) dm_X8_addName_8 rfl rfl rfl rfl ?_
      refine y_iadd (a := (pl : Int)) (b := 8) dm_X8_addName_10 (pc' := 11) rfl ?_
      refine y_2ge (a := ((pl + k : Nat) : Int)) (b := (pl : Int) + 8) (t := 54) (pc' := 14) dm_X8_addName_11 rfl rfl (by omega) (fun hb1 => ?_) (fun hb1 => ?_)
      · have hn : (rnL ltB bf ln 8 pl) = k := rnL_eq 8 pl k hk hrun (Or.inl (by omega))
        refine me1 (pc' := 55) (L' := [(0, .ref 9), (1, ii (pl : Int)), (2, .long (Int64.ofInt (ckI bf pl k))), (4, ii ((pl + k : Nat) : Int))]) (S' := [.ref 9]) dm_X8_addName_54 rfl rfl rfl rfl ?_
        refine me1 (pc' := 56) (L' := [(0, .ref 9), (1, ii (pl : Int)), (2, .long (Int64.ofInt (ckI bf pl k))), (4, ii ((pl + k : Nat) : Int))]) (S' := [.ref 9, .ref 9]) dm_X8_addName_55 rfl rfl rfl rfl ?_
        refine me3 (pc' := 59) (S' := [.ref 4, .ref 9]) dm_X8_addName_56 (g_get (v := .ref 4) h9 rfl rfl (by decide)) rfl rfl rfl ?_
        refine me1 (pc' := 60) (L' := [(0, .ref 9), (1, ii (pl : Int)), (2, .long (Int64.ofInt (ckI bf pl k))), (4, ii ((pl + k : Nat) : Int))]) (S' := [.long (Int64.ofInt (ckI bf pl k)), .ref 4, .ref 9]) dm_X8_addName_59 rfl rfl rfl rfl ?_
        rw [hn] at hi
        obtain ⟨q, hq⟩ := qo _ hi
        refine x_cp (pc' := 63) (v := .ref q) (rest := [.ref 9]) dm_X8_addName_60 rfl (g_inv (As := [.long (Int64.ofInt (ckI bf pl k))]) (S := [.ref 9]) q4 rfl rfl rfl (by decide)) rfl rfl rfl (n_functionOfY (by omega) q4 q5 q6 q7 q8 (by omega) qn qm hi hq) ?_
        refine me2 (pc' := 74) (S' := [.ref 9]) dm_X8_addName_63 rfl rfl rfl ?_
        refine me0 (pc' := 75) (S' := [ii 4, .ref 9]) dm_X8_addName_74 rfl rfl rfl rfl ?_
        refine me2 (pc' := 79) (S' := [ii 4, .ref 9]) dm_X8_addName_75 rfl rfl rfl ?_
        refine me1 (pc' := 80) (L' := [(0, .ref 9), (1, ii (pl : Int)), (2, .long (Int64.ofInt (ckI bf pl k))), (4, ii ((pl + k : Nat) : Int))]) (S' := [ii (pl : Int), ii 4, .ref 9]) dm_X8_addName_79 rfl rfl rfl rfl ?_
        refine me1 (pc' := 81) (L' := [(0, .ref 9), (1, ii (pl : Int)), (2, .long (Int64.ofInt (ckI bf pl k))), (4, ii ((pl + k : Nat) : Int))]) (S' := [.long (Int64.ofInt (ckI bf pl k)), ii (pl : Int), ii 4, .ref 9]) dm_X8_addName_80 rfl rfl rfl rfl ?_
        refine me1 (pc' := 83) (L' := [(0, .ref 9), (1, ii (pl : Int)), (2, .long (Int64.ofInt (ckI bf pl k))), (4, ii ((pl + k : Nat) : Int))]) (S' := [ii ((pl + k : Nat) : Int), .long (Int64.ofInt (ckI bf pl k)), ii (pl : Int), ii 4, .ref 9]) dm_X8_addName_81 rfl rfl rfl rfl ?_
        refine x_cn (pc' := 86) (rest := []) dm_X8_addName_83 rfl (g_inv (As := [ii 4, ii (pl : Int), .long (Int64.ofInt (ckI bf pl k)), ii ((pl + k : Nat) : Int)]) (S := []) h9 rfl rfl rfl (by decide)) rfl rfl rfl (x_addT (so := 4) (pl := (pl : Int)) (en := ((pl + k : Nat) : Int)) (da := Int64.ofInt (ckI bf pl k)) (by omega) hT hr) ?_
        rintro h2 ⟨hT2, hF2⟩
        refine y_ret (r := none) dm_X8_addName_86 rfl rfl rfl ?_
        rw [hn]
        rw [if_pos (fnT_y (Or.inl hi))]
        exact ⟨rfl, hT2, hF2⟩
      · refine me1 (pc' := 15) (L' := [(0, .ref 9), (1, ii (pl : Int)), (2, .long (Int64.ofInt (ckI bf pl k))), (4, ii ((pl + k : Nat) : Int))]) (S' := [.ref 9]) dm_X8_addName_14 rfl rfl rfl rfl ?_
        refine me1 (pc' := 17) (L' := [(0, .ref 9), (1, ii (pl : Int)), (2, .long (Int64.ofInt (ckI bf pl k))), (4, ii ((pl + k : Nat) : Int))]) (S' := [ii ((pl + k : Nat) : Int), .ref 9]) dm_X8_addName_15 rfl rfl rfl rfl ?_
        refine x_cp (pc' := 20) (v := ii (byA bf ln ((pl + k : Nat) : Int))) (rest := []) dm_X8_addName_17 rfl (g_inv (As := [ii ((pl + k : Nat) : Int)]) (S := []) h9 rfl rfl rfl (by decide)) rfl rfl rfl (x_byteAtT (by omega) hT (by omega)) ?_
        refine x_cp (pc' := 23) (v := zz (decide (97 ≤ (byA bf ln ((pl + k : Nat) : Int)) ∧ (byA bf ln ((pl + k : Nat) : Int)) ≤ 122))) (rest := []) dm_X8_addName_20 rfl (g_invs (As := [ii (byA bf ln ((pl + k : Nat) : Int))]) (S := []) rfl rfl rfl) rfl rfl rfl (a_isLetter (by omega) (by omega)) ?_
        refine y_zeq (c := decide (97 ≤ (byA bf ln ((pl + k : Nat) : Int)) ∧ (byA bf ln ((pl + k : Nat) : Int)) ≤ 122)) (t := 54) (pc' := 26) dm_X8_addName_23 rfl rfl (fun hb2 => ?_) (fun hb2 => ?_)
        · replace hb2 := dF hb2
          have hn : (rnL ltB bf ln 8 pl) = k := rnL_eq 8 pl k hk hrun (Or.inr (fun z => by have z2 := of_decide_eq_true z.2; rw [← byA_in (bf := bf) z.1] at z2; exact hb2 z2))
          refine me1 (pc' := 55) (L' := [(0, .ref 9), (1, ii (pl : Int)), (2, .long (Int64.ofInt (ckI bf pl k))), (4, ii ((pl + k : Nat) : Int))]) (S' := [.ref 9]) dm_X8_addName_54 rfl rfl rfl rfl ?_
          refine me1 (pc' := 56) (L' := [(0, .ref 9), (1, ii (pl : Int)), (2, .long (Int64.ofInt (ckI bf pl k))), (4, ii ((pl + k : Nat) : Int))]) (S' := [.ref 9, .ref 9]) dm_X8_addName_55 rfl rfl rfl rfl ?_
          refine me3 (pc' := 59) (S' := [.ref 4, .ref 9]) dm_X8_addName_56 (g_get (v := .ref 4) h9 rfl rfl (by decide)) rfl rfl rfl ?_
          refine me1 (pc' := 60) (L' := [(0, .ref 9), (1, ii (pl : Int)), (2, .long (Int64.ofInt (ckI bf pl k))), (4, ii ((pl + k : Nat) : Int))]) (S' := [.long (Int64.ofInt (ckI bf pl k)), .ref 4, .ref 9]) dm_X8_addName_59 rfl rfl rfl rfl ?_
          rw [hn] at hi
          obtain ⟨q, hq⟩ := qo _ hi
          refine x_cp (pc' := 63) (v := .ref q) (rest := [.ref 9]) dm_X8_addName_60 rfl (g_inv (As := [.long (Int64.ofInt (ckI bf pl k))]) (S := [.ref 9]) q4 rfl rfl rfl (by decide)) rfl rfl rfl (n_functionOfY (by omega) q4 q5 q6 q7 q8 (by omega) qn qm hi hq) ?_
          refine me2 (pc' := 74) (S' := [.ref 9]) dm_X8_addName_63 rfl rfl rfl ?_
          refine me0 (pc' := 75) (S' := [ii 4, .ref 9]) dm_X8_addName_74 rfl rfl rfl rfl ?_
          refine me2 (pc' := 79) (S' := [ii 4, .ref 9]) dm_X8_addName_75 rfl rfl rfl ?_
          refine me1 (pc' := 80) (L' := [(0, .ref 9), (1, ii (pl : Int)), (2, .long (Int64.ofInt (ckI bf pl k))), (4, ii ((pl + k : Nat) : Int))]) (S' := [ii (pl : Int), ii 4, .ref 9]) dm_X8_addName_79 rfl rfl rfl rfl ?_
          refine me1 (pc' := 81) (L' := [(0, .ref 9), (1, ii (pl : Int)), (2, .long (Int64.ofInt (ckI bf pl k))), (4, ii ((pl + k : Nat) : Int))]) (S' := [.long (Int64.ofInt (ckI bf pl k)), ii (pl : Int), ii 4, .ref 9]) dm_X8_addName_80 rfl rfl rfl rfl ?_
          refine me1 (pc' := 83) (L' := [(0, .ref 9), (1, ii (pl : Int)), (2, .long (Int64.ofInt (ckI bf pl k))), (4, ii ((pl + k : Nat) : Int))]) (S' := [ii ((pl + k : Nat) : Int), .long (Int64.ofInt (ckI bf pl k)), ii (pl : Int), ii 4, .ref 9]) dm_X8_addName_81 rfl rfl rfl rfl ?_
          refine x_cn (pc' := 86) (rest := []) dm_X8_addName_83 rfl (g_inv (As := [ii 4, ii (pl : Int), .long (Int64.ofInt (ckI bf pl k)), ii ((pl + k : Nat) : Int)]) (S := []) h9 rfl rfl rfl (by decide)) rfl rfl rfl (x_addT (so := 4) (pl := (pl : Int)) (en := ((pl + k : Nat) : Int)) (da := Int64.ofInt (ckI bf pl k)) (by omega) hT hr) ?_
          rintro h2 ⟨hT2, hF2⟩
          refine y_ret (r := none) dm_X8_addName_86 rfl rfl rfl ?_
          rw [hn]
          rw [if_pos (fnT_y (Or.inl hi))]
          exact ⟨rfl, hT2, hF2⟩
        · replace hb2 := dT hb2
          have hin : pl + k < ln := Classical.byContradiction fun z => by have z2 := byA_out (bf := bf) (Nat.le_of_not_lt z); omega
          have hby := byA_in (bf := bf) hin
          have hrun1 : ∀ j, pl ≤ j → j < pl + (k + 1) → j < ln ∧ ltB (bf j) = true := fun j h1 h2 => by by_cases z : j = pl + k; (rw [z]; exact ⟨hin, decide_eq_true (by rw [← hby]; constructor <;> omega)⟩); exact hrun j h1 (by omega)
          have hlr : ∀ j, j < k + 1 → isLtI (bf (pl + j)) := fun j hj => of_decide_eq_true (hrun1 (pl + j) (by omega) (by omega)).2
          refine me1 (pc' := 27) (L' := [(0, .ref 9), (1, ii (pl : Int)), (2, .long (Int64.ofInt (ckI bf pl k))), (4, ii ((pl + k : Nat) : Int))]) (S' := [.long (Int64.ofInt (ckI bf pl k))]) dm_X8_addName_26 rfl rfl rfl rfl ?_
          refine me1 (pc' := 28) (L' := [(0, .ref 9), (1, ii (pl : Int)), (2, .long (Int64.ofInt (ckI bf pl k))), (4, ii ((pl + k : Nat) : Int))]) (S' := [.ref 9, .long (Int64.ofInt (ckI bf pl k))]) dm_X8_addName_27 rfl rfl rfl rfl ?_
          refine me1 (pc' := 30) (L' := [(0, .ref 9), (1, ii (pl : Int)), (2, .long (Int64.ofInt (ckI bf pl k))), (4, ii ((pl + k : Nat) : Int))]) (S' := [ii ((pl + k : Nat) : Int), .ref 9, .long (Int64.ofInt (ckI bf pl k))]) dm_X8_addName_28 rfl rfl rfl rfl ?_
          refine x_cp (pc' := 33) (v := ii (byA bf ln ((pl + k : Nat) : Int))) (rest := [.long (Int64.ofInt (ckI bf pl k))]) dm_X8_addName_30 rfl (g_inv (As := [ii ((pl + k : Nat) : Int)]) (S := [.long (Int64.ofInt (ckI bf pl k))]) h9 rfl rfl rfl (by decide)) rfl rfl rfl (x_byteAtT (by omega) hT (by omega)) ?_
          refine me0 (pc' := 35) (S' := [ii 97, ii (byA bf ln ((pl + k : Nat) : Int)), .long (Int64.ofInt (ckI bf pl k))]) dm_X8_addName_33 rfl rfl rfl rfl ?_
          refine y_isub (a := byA bf ln ((pl + k : Nat) : Int)) (b := 97) dm_X8_addName_35 (pc' := 36) rfl ?_
          refine me0 (pc' := 37) (S' := [ii 1, ii ((byA bf ln ((pl + k : Nat) : Int)) - 97), .long (Int64.ofInt (ckI bf pl k))]) dm_X8_addName_36 rfl rfl rfl rfl ?_
          refine y_iadd (a := (byA bf ln ((pl + k : Nat) : Int)) - 97) (b := 1) dm_X8_addName_37 (pc' := 38) rfl ?_
          refine y_i2l (a := ((byA bf ln ((pl + k : Nat) : Int)) - 97) + 1) dm_X8_addName_38 (pc' := 39) rfl (by omega) (by omega) ?_
          refine me1 (pc' := 41) (L' := [(0, .ref 9), (1, ii (pl : Int)), (2, .long (Int64.ofInt (ckI bf pl k))), (4, ii ((pl + k : Nat) : Int))]) (S' := [ii ((pl + k : Nat) : Int), .long (Int64.ofInt (((byA bf ln ((pl + k : Nat) : Int)) - 97) + 1)), .long (Int64.ofInt (ckI bf pl k))]) dm_X8_addName_39 rfl rfl rfl rfl ?_
          refine me1 (pc' := 42) (L' := [(0, .ref 9), (1, ii (pl : Int)), (2, .long (Int64.ofInt (ckI bf pl k))), (4, ii ((pl + k : Nat) : Int))]) (S' := [ii (pl : Int), ii ((pl + k : Nat) : Int), .long (Int64.ofInt (((byA bf ln ((pl + k : Nat) : Int)) - 97) + 1)), .long (Int64.ofInt (ckI bf pl k))]) dm_X8_addName_41 rfl rfl rfl rfl ?_
          refine y_isub (a := ((pl + k : Nat) : Int)) (b := (pl : Int)) dm_X8_addName_42 (pc' := 43) rfl ?_
          refine me0 (pc' := 44) (S' := [ii 5, ii (((pl + k : Nat) : Int) - (pl : Int)), .long (Int64.ofInt (((byA bf ln ((pl + k : Nat) : Int)) - 97) + 1)), .long (Int64.ofInt (ckI bf pl k))]) dm_X8_addName_43 rfl rfl rfl rfl ?_
          refine y_imul (a := ((pl + k : Nat) : Int) - (pl : Int)) (b := 5) dm_X8_addName_44 (pc' := 45) rfl ?_
          refine y_lshl (a := byA bf ln ((pl + k : Nat) : Int) - 97 + 1) (n := (((pl + k : Nat) : Int) - (pl : Int)) * 5) (k := 5 * k) dm_X8_addName_45 (pc' := 46) rfl (by omega) (by omega) ?_
          refine me0 (pc' := 47) (S' := [.long ((Int64.ofInt (ckI bf pl k)) ||| (Int64.ofInt ((byA bf ln ((pl + k : Nat) : Int) - 97 + 1) * 2 ^ (5 * k))))]) dm_X8_addName_46 rfl rfl rfl rfl ?_
          refine pg_st (S' := [.long (Int64.ofInt (ckI bf pl (k + 1)))]) (congrArg (fun z => Value.long z :: []) (ck_or (by omega) hby hlr)) ?_
          refine me1 (pc' := 48) (L' := [(2, .long (Int64.ofInt (ckI bf pl (k + 1)))), (0, .ref 9), (1, ii (pl : Int)), (4, ii ((pl + k : Nat) : Int))]) (S' := []) dm_X8_addName_47 rfl rfl rfl rfl ?_
          refine y_iinc (pc' := 51) (L' := [(4, ii (((pl + k : Nat) : Int) + 1)), (2, .long (Int64.ofInt (ckI bf pl (k + 1)))), (0, .ref 9), (1, ii (pl : Int))]) dm_X8_addName_48 (y_incp (a := ((pl + k : Nat) : Int)) (c := 1) rfl rfl (by decide)) rfl ?_
          refine me2 (pc' := 5) (S' := []) dm_X8_addName_51 rfl rfl rfl ?_
          exact pg_sub (L := [(0, .ref 9), (1, ii (pl : Int)), (2, .long (Int64.ofInt (ckI bf pl (k + 1)))), (4, ii ((pl + (k + 1) : Nat) : Int))]) rfl rfl rfl (ih5 (8 - (k + 1)) (by omega) (k + 1) rfl (by omega) hrun1)
  exact pg_sub (L := [(0, .ref 9), (1, ii (pl : Int)), (2, .long (Int64.ofInt (ckI bf pl 0))), (4, ii ((pl + 0 : Nat) : Int))]) rfl rfl rfl (lp5 _ 0 rfl (by decide) (fun j h1 h2 => absurd h2 (by omega)))
theorem dm_X8_addName_66 : mj_dec prog_10_method_15_code 66 = some (.aload_n 0, 1) := by decide +kernel
theorem dm_X8_addName_67 : mj_dec prog_10_method_15_code 67 = some (.lload_n 2, 1) := by decide +kernel
theorem dm_X8_addName_68 : mj_dec prog_10_method_15_code 68 = some (.invokevirtual 125, 3) := by decide +kernel
theorem dm_X8_addName_71 : mj_dec prog_10_method_15_code 71 = some (.ifCond .eq 7, 3) := by decide +kernel
theorem dm_X8_addName_78 : mj_dec prog_10_method_15_code 78 = some (.iconst 3, 1) := by decide +kernel
theorem x_addNameN {xt : mj_X} {d mk ln : Nat} {le_ : Int} {gd : Bool} {sf pf bf : Nat → Int} {df : Nat → Int64} {h : mj_H} (hd : 4 ≤ d) (hT : TK h mk le_ ln gd sf pf bf df) {pl : Nat} {n m : Nat} {kf jf : Nat → Int64} {vf of : Nat → Option Nat} (hN : NMS h n m kf jf vf of) (hr : mk < 201) (hp : pl ≤ 300) (hbf : ∀ j, 0 ≤ bf j ∧ bf j ≤ 255) (hs : ∀ j : Nat, -2147483648 ≤ sf j ∧ sf j ≤ 2147483647) (hi : fndK jf m (Int64.ofInt (ckI bf pl (rnL ltB bf ln 8 pl))) = m) : pgN xt d 25 [.ref 9, ii (pl : Int)] h (fun h' => TK h' (mk + 1) ((pl + (rnL ltB bf ln 8 pl) : Nat) : Int) ln gd (va_up sf mk (if (fnT mk sf df jf m) (ckI bf pl (rnL ltB bf ln 8 pl)) = true then 4 else 3)) (va_up pf mk (pl : Int)) bf (va_up df mk (Int64.ofInt (ckI bf pl (rnL ltB bf ln 8 pl)))) ∧ tkF h h') := by
  obtain ⟨h9, h10, h11, h12, h3, hmk, hln⟩ := id hT
  obtain ⟨q4, q5, q6, q7, q8, qn, qm, qv, qo⟩ := id hN
  refine x_enter pm_X8_addName (L0 := [(0, .ref 9), (1, ii (pl : Int))]) rfl (Nat.le_of_ble_eq_true rfl) (by omega) ?_
  refine me0 (pc' := 1) (S' := [.long (Int64.ofInt 0)]) dm_X8_addName_0 rfl rfl rfl rfl ?_
  refine me1 (pc' := 2) (L' := [(2, .long (Int64.ofInt 0)), (0, .ref 9), (1, ii (pl : Int))]) (S' := []) dm_X8_addName_1 rfl rfl rfl rfl ?_
  refine me1 (pc' := 3) (L' := [(2, .long (Int64.ofInt 0)), (0, .ref 9), (1, ii (pl : Int))]) (S' := [ii (pl : Int)]) dm_X8_addName_2 rfl rfl rfl rfl ?_
  refine me1 (pc' := 5) (L' := [(4, ii (pl : Int)), (2, .long (Int64.ofInt 0)), (0, .ref 9), (1, ii (pl : Int))]) (S' := []) dm_X8_addName_3 rfl rfl rfl rfl ?_
  have lp5 : ∀ (n5 : Nat) (k : Nat), 8 - k = n5 → (k ≤ 8) → (∀ j, pl ≤ j → j < pl + k → j < ln ∧ ltB (bf j) = true) → pgE xt (d - 1) 8 5 false (Option.none : Option Jvm.ClassFile.FieldType) (mj_dec prog_10_method_15_code) 5 [(0, .ref 9), (1, ii (pl : Int)), (2, .long (Int64.ofInt (ckI bf pl k))), (4, ii ((pl + k : Nat) : Int))] [] h (fun r h' => r = none ∧ TK h' (mk + 1) ((pl + (rnL ltB bf ln 8 pl) : Nat) : Int) ln gd (va_up sf mk (if (fnT mk sf df jf m) (ckI bf pl (rnL ltB bf ln 8 pl)) = true then 4 else 3)) (va_up pf mk (pl : Int)) bf (va_up df mk (Int64.ofInt (ckI bf pl (rnL ltB bf ln 8 pl)))) ∧ tkF h h') := by
    intro n5
    induction n5 using Nat.strongRecOn with
    | ind n5 ih5 =>
      intro k hm5 hk hrun
      have hbr := byA_r (ln := ln) hbf ((pl + k : Nat) : Int)
      refine me1 (pc' := 7) (L' := [(0, .ref 9), (1, ii (pl : Int)), (2, .long (Int64.ofInt (ckI bf pl k))), (4, ii ((pl + k : Nat) : Int))]) (S' := [ii ((pl + k : Nat) : Int)]) dm_X8_addName_5 rfl rfl rfl rfl ?_
      refine me1 (pc' := 8) (L' := [(0, .ref 9), (1, ii (pl : Int)), (2, .long (Int64.ofInt (ckI bf pl k))), (4, ii ((pl + k : Nat) : Int))]) (S' := [ii (pl : Int), ii ((pl + k : Nat) : Int)]) dm_X8_addName_7 rfl rfl rfl rfl ?_
      refine me0 (pc' := 10) (S' := [ii 8, ii (pl : Int), ii ((pl + k : Nat) : Int)]) dm_X8_addName_8 rfl rfl rfl rfl ?_
      refine y_iadd (a := (pl : Int)) (b := 8) dm_X8_addName_10 (pc' := 11) rfl ?_
      refine y_2ge (a := ((pl + k : Nat) : Int)) (b := (pl : Int) + 8) (t := 54) (pc' := 14) dm_X8_addName_11 rfl rfl (by omega) (fun hb1 => ?_) (fun hb1 => ?_)
      · have hn : (rnL ltB bf ln 8 pl) = k := rnL_eq 8 pl k hk hrun (Or.inl (by omega))
        refine me1 (pc' := 55) (L' := [(0, .ref 9), (1, ii (pl : Int)), (2, .long (Int64.ofInt (ckI bf pl k))), (4, ii ((pl + k : Nat) : Int))]) (S' := [.ref 9]) dm_X8_addName_54 rfl rfl rfl rfl ?_
        refine me1 (pc' := 56) (L' := [(0, .ref 9), (1, ii (pl : Int)), (2, .long (Int64.ofInt (ckI bf pl k))), (4, ii ((pl + k : Nat) : Int))]) (S' := [.ref 9, .ref 9]) dm_X8_addName_55 rfl rfl rfl rfl ?_
        refine me3 (pc' := 59) (S' := [.ref 4, .ref 9]) dm_X8_addName_56 (g_get (v := .ref 4) h9 rfl rfl (by decide)) rfl rfl rfl ?_
        refine me1 (pc' := 60) (L' := [(0, .ref 9), (1, ii (pl : Int)), (2, .long (Int64.ofInt (ckI bf pl k))), (4, ii ((pl + k : Nat) : Int))]) (S' := [.long (Int64.ofInt (ckI bf pl k)), .ref 4, .ref 9]) dm_X8_addName_59 rfl rfl rfl rfl ?_
        rw [hn] at hi
        refine x_cp (pc' := 63) (v := .null) (rest := [.ref 9]) dm_X8_addName_60 rfl (g_inv (As := [.long (Int64.ofInt (ckI bf pl k))]) (S := [.ref 9]) q4 rfl rfl rfl (by decide)) rfl rfl rfl (n_functionOfN (by omega) q4 q5 q6 q7 q8 (by omega) qn qm hi) ?_
        refine me2 (pc' := 66) (S' := [.ref 9]) dm_X8_addName_63 rfl rfl rfl ?_
        refine me1 (pc' := 67) (L' := [(0, .ref 9), (1, ii (pl : Int)), (2, .long (Int64.ofInt (ckI bf pl k))), (4, ii ((pl + k : Nat) : Int))]) (S' := [.ref 9, .ref 9]) dm_X8_addName_66 rfl rfl rfl rfl ?_
        refine me1 (pc' := 68) (L' := [(0, .ref 9), (1, ii (pl : Int)), (2, .long (Int64.ofInt (ckI bf pl k))), (4, ii ((pl + k : Nat) : Int))]) (S' := [.long (Int64.ofInt (ckI bf pl k)), .ref 9, .ref 9]) dm_X8_addName_67 rfl rfl rfl rfl ?_
        refine x_cp (pc' := 71) (v := zz (decide (2 < mk ∧ (tokS mk sf 0 = 3 ∨ tokS mk sf 0 = 4) ∧ df 0 = Int64.ofInt (ckI bf pl k) ∧ (sf 1 = 7 ∧ (df 1).toInt = 58) ∧ (sf 2 = 7 ∧ (df 2).toInt = 123) ∧ Int64.ofInt (ckI bf pl k) ≠ Int64.ofInt 24 ∧ Int64.ofInt (ckI bf pl k) ≠ Int64.ofInt 25))) (rest := [.ref 9]) dm_X8_addName_68 rfl (g_inv (As := [.long (Int64.ofInt (ckI bf pl k))]) (S := [.ref 9]) h9 rfl rfl rfl (by decide)) rfl rfl rfl (x_isToldT (by omega) hT hs) ?_
        refine y_zeq (c := decide (2 < mk ∧ (tokS mk sf 0 = 3 ∨ tokS mk sf 0 = 4) ∧ df 0 = Int64.ofInt (ckI bf pl k) ∧ (sf 1 = 7 ∧ (df 1).toInt = 58) ∧ (sf 2 = 7 ∧ (df 2).toInt = 123) ∧ Int64.ofInt (ckI bf pl k) ≠ Int64.ofInt 24 ∧ Int64.ofInt (ckI bf pl k) ≠ Int64.ofInt 25)) (t := 78) (pc' := 74) dm_X8_addName_71 rfl rfl (fun hb2 => ?_) (fun hb2 => ?_)
        · replace hb2 := dF hb2
          refine me0 (pc' := 79) (S' := [ii 3, .ref 9]) dm_X8_addName_78 rfl rfl rfl rfl ?_
          refine me1 (pc' := 80) (L' := [(0, .ref 9), (1, ii (pl : Int)), (2, .long (Int64.ofInt (ckI bf pl k))), (4, ii ((pl + k : Nat) : Int))]) (S' := [ii (pl : Int), ii 3, .ref 9]) dm_X8_addName_79 rfl rfl rfl rfl ?_
          refine me1 (pc' := 81) (L' := [(0, .ref 9), (1, ii (pl : Int)), (2, .long (Int64.ofInt (ckI bf pl k))), (4, ii ((pl + k : Nat) : Int))]) (S' := [.long (Int64.ofInt (ckI bf pl k)), ii (pl : Int), ii 3, .ref 9]) dm_X8_addName_80 rfl rfl rfl rfl ?_
          refine me1 (pc' := 83) (L' := [(0, .ref 9), (1, ii (pl : Int)), (2, .long (Int64.ofInt (ckI bf pl k))), (4, ii ((pl + k : Nat) : Int))]) (S' := [ii ((pl + k : Nat) : Int), .long (Int64.ofInt (ckI bf pl k)), ii (pl : Int), ii 3, .ref 9]) dm_X8_addName_81 rfl rfl rfl rfl ?_
          refine x_cn (pc' := 86) (rest := []) dm_X8_addName_83 rfl (g_inv (As := [ii 3, ii (pl : Int), .long (Int64.ofInt (ckI bf pl k)), ii ((pl + k : Nat) : Int)]) (S := []) h9 rfl rfl rfl (by decide)) rfl rfl rfl (x_addT (so := 3) (pl := (pl : Int)) (en := ((pl + k : Nat) : Int)) (da := Int64.ofInt (ckI bf pl k)) (by omega) hT hr) ?_
          rintro h2 ⟨hT2, hF2⟩
          refine y_ret (r := none) dm_X8_addName_86 rfl rfl rfl ?_
          rw [hn]
          first | (rw [if_pos (fnT_y (Or.inr (by assumption)))]; exact ⟨rfl, hT2, hF2⟩) | (rw [if_neg (by rw [fnT_n (fun z => z.elim (fun y => by omega) (fun y => absurd y (by assumption)))]; exact Bool.false_ne_true)]; exact ⟨rfl, hT2, hF2⟩)
        · replace hb2 := dT hb2
          refine me0 (pc' := 75) (S' := [ii 4, .ref 9]) dm_X8_addName_74 rfl rfl rfl rfl ?_
          refine me2 (pc' := 79) (S' := [ii 4, .ref 9]) dm_X8_addName_75 rfl rfl rfl ?_
          refine me1 (pc' := 80) (L' := [(0, .ref 9), (1, ii (pl : Int)), (2, .long (Int64.ofInt (ckI bf pl k))), (4, ii ((pl + k : Nat) : Int))]) (S' := [ii (pl : Int), ii 4, .ref 9]) dm_X8_addName_79 rfl rfl rfl rfl ?_
          refine me1 (pc' := 81) (L' := [(0, .ref 9), (1, ii (pl : Int)), (2, .long (Int64.ofInt (ckI bf pl k))), (4, ii ((pl + k : Nat) : Int))]) (S' := [.long (Int64.ofInt (ckI bf pl k)), ii (pl : Int), ii 4, .ref 9]) dm_X8_addName_80 rfl rfl rfl rfl ?_
          refine me1 (pc' := 83) (L' := [(0, .ref 9), (1, ii (pl : Int)), (2, .long (Int64.ofInt (ckI bf pl k))), (4, ii ((pl + k : Nat) : Int))]) (S' := [ii ((pl + k : Nat) : Int), .long (Int64.ofInt (ckI bf pl k)), ii (pl : Int), ii 4, .ref 9]) dm_X8_addName_81 rfl rfl rfl rfl ?_
          refine x_cn (pc' := 86) (rest := []) dm_X8_addName_83 rfl (g_inv (As := [ii 4, ii (pl : Int), .long (Int64.ofInt (ckI bf pl k)), ii ((pl + k : Nat) : Int)]) (S := []) h9 rfl rfl rfl (by decide)) rfl rfl rfl (x_addT (so := 4) (pl := (pl : Int)) (en := ((pl + k : Nat) : Int)) (da := Int64.ofInt (ckI bf pl k)) (by omega) hT hr) ?_
          rintro h2 ⟨hT2, hF2⟩
          refine y_ret (r := none) dm_X8_addName_86 rfl rfl rfl ?_
          rw [hn]
          first | (rw [if_pos (fnT_y (Or.inr (by assumption)))]; exact ⟨rfl, hT2, hF2⟩) | (rw [if_neg (by rw [fnT_n (fun z => z.elim (fun y => by omega) (fun y => absurd y (by assumption)))]; exact Bool.false_ne_true)]; exact ⟨rfl, hT2, hF2⟩)
      · refine me1 (pc' := 15) (L' := [(0, .ref 9), (1, ii (pl : Int)), (2, .long (Int64.ofInt (ckI bf pl k))), (4, ii ((pl + k : Nat) : Int))]) (S' := [.ref 9]) dm_X8_addName_14 rfl rfl rfl rfl ?_
        refine me1 (pc' := 17) (L' := [(0, .ref 9), (1, ii (pl : Int)), (2, .long (Int64.ofInt (ckI bf pl k))), (4, ii ((pl + k : Nat) : Int))]) (S' := [ii ((pl + k : Nat) : Int), .ref 9]) dm_X8_addName_15 rfl rfl rfl rfl ?_
        refine x_cp (pc' := 20) (v := ii (byA bf ln ((pl + k : Nat) : Int))) (rest := []) dm_X8_addName_17 rfl (g_inv (As := [ii ((pl + k : Nat) : Int)]) (S := []) h9 rfl rfl rfl (by decide)) rfl rfl rfl (x_byteAtT (by omega) hT (by omega)) ?_
        refine x_cp (pc' := 23) (v := zz (decide (97 ≤ (byA bf ln ((pl + k : Nat) : Int)) ∧ (byA bf ln ((pl + k : Nat) : Int)) ≤ 122))) (rest := []) dm_X8_addName_20 rfl (g_invs (As := [ii (byA bf ln ((pl + k : Nat) : Int))]) (S := []) rfl rfl rfl) rfl rfl rfl (a_isLetter (by omega) (by omega)) ?_
        refine y_zeq (c := decide (97 ≤ (byA bf ln ((pl + k : Nat) : Int)) ∧ (byA bf ln ((pl + k : Nat) : Int)) ≤ 122)) (t := 54) (pc' := 26) dm_X8_addName_23 rfl rfl (fun hb3 => ?_) (fun hb3 => ?_)
        · replace hb3 := dF hb3
          have hn : (rnL ltB bf ln 8 pl) = k := rnL_eq 8 pl k hk hrun (Or.inr (fun z => by have z2 := of_decide_eq_true z.2; rw [← byA_in (bf := bf) z.1] at z2; exact hb3 z2))
          refine me1 (pc' := 55) (L' := [(0, .ref 9), (1, ii (pl : Int)), (2, .long (Int64.ofInt (ckI bf pl k))), (4, ii ((pl + k : Nat) : Int))]) (S' := [.ref 9]) dm_X8_addName_54 rfl rfl rfl rfl ?_
          refine me1 (pc' := 56) (L' := [(0, .ref 9), (1, ii (pl : Int)), (2, .long (Int64.ofInt (ckI bf pl k))), (4, ii ((pl + k : Nat) : Int))]) (S' := [.ref 9, .ref 9]) dm_X8_addName_55 rfl rfl rfl rfl ?_
          refine me3 (pc' := 59) (S' := [.ref 4, .ref 9]) dm_X8_addName_56 (g_get (v := .ref 4) h9 rfl rfl (by decide)) rfl rfl rfl ?_
          refine me1 (pc' := 60) (L' := [(0, .ref 9), (1, ii (pl : Int)), (2, .long (Int64.ofInt (ckI bf pl k))), (4, ii ((pl + k : Nat) : Int))]) (S' := [.long (Int64.ofInt (ckI bf pl k)), .ref 4, .ref 9]) dm_X8_addName_59 rfl rfl rfl rfl ?_
          rw [hn] at hi
          refine x_cp (pc' := 63) (v := .null) (rest := [.ref 9]) dm_X8_addName_60 rfl (g_inv (As := [.long (Int64.ofInt (ckI bf pl k))]) (S := [.ref 9]) q4 rfl rfl rfl (by decide)) rfl rfl rfl (n_functionOfN (by omega) q4 q5 q6 q7 q8 (by omega) qn qm hi) ?_
          refine me2 (pc' := 66) (S' := [.ref 9]) dm_X8_addName_63 rfl rfl rfl ?_
          refine me1 (pc' := 67) (L' := [(0, .ref 9), (1, ii (pl : Int)), (2, .long (Int64.ofInt (ckI bf pl k))), (4, ii ((pl + k : Nat) : Int))]) (S' := [.ref 9, .ref 9]) dm_X8_addName_66 rfl rfl rfl rfl ?_
          refine me1 (pc' := 68) (L' := [(0, .ref 9), (1, ii (pl : Int)), (2, .long (Int64.ofInt (ckI bf pl k))), (4, ii ((pl + k : Nat) : Int))]) (S' := [.long (Int64.ofInt (ckI bf pl k)), .ref 9, .ref 9]) dm_X8_addName_67 rfl rfl rfl rfl ?_
          refine x_cp (pc' := 71) (v := zz (decide (2 < mk ∧ (tokS mk sf 0 = 3 ∨ tokS mk sf 0 = 4) ∧ df 0 = Int64.ofInt (ckI bf pl k) ∧ (sf 1 = 7 ∧ (df 1).toInt = 58) ∧ (sf 2 = 7 ∧ (df 2).toInt = 123) ∧ Int64.ofInt (ckI bf pl k) ≠ Int64.ofInt 24 ∧ Int64.ofInt (ckI bf pl k) ≠ Int64.ofInt 25))) (rest := [.ref 9]) dm_X8_addName_68 rfl (g_inv (As := [.long (Int64.ofInt (ckI bf pl k))]) (S := [.ref 9]) h9 rfl rfl rfl (by decide)) rfl rfl rfl (x_isToldT (by omega) hT hs) ?_
          refine y_zeq (c := decide (2 < mk ∧ (tokS mk sf 0 = 3 ∨ tokS mk sf 0 = 4) ∧ df 0 = Int64.ofInt (ckI bf pl k) ∧ (sf 1 = 7 ∧ (df 1).toInt = 58) ∧ (sf 2 = 7 ∧ (df 2).toInt = 123) ∧ Int64.ofInt (ckI bf pl k) ≠ Int64.ofInt 24 ∧ Int64.ofInt (ckI bf pl k) ≠ Int64.ofInt 25)) (t := 78) (pc' := 74) dm_X8_addName_71 rfl rfl (fun hb4 => ?_) (fun hb4 => ?_)
          · replace hb4 := dF hb4
            refine me0 (pc' := 79) (S' := [ii 3, .ref 9]) dm_X8_addName_78 rfl rfl rfl rfl ?_
            refine me1 (pc' := 80) (L' := [(0, .ref 9), (1, ii (pl : Int)), (2, .long (Int64.ofInt (ckI bf pl k))), (4, ii ((pl + k : Nat) : Int))]) (S' := [ii (pl : Int), ii 3, .ref 9]) dm_X8_addName_79 rfl rfl rfl rfl ?_
            refine me1 (pc' := 81) (L' := [(0, .ref 9), (1, ii (pl : Int)), (2, .long (Int64.ofInt (ckI bf pl k))), (4, ii ((pl + k : Nat) : Int))]) (S' := [.long (Int64.ofInt (ckI bf pl k)), ii (pl : Int), ii 3, .ref 9]) dm_X8_addName_80 rfl rfl rfl rfl ?_
            refine me1 (pc' := 83) (L' := [(0, .ref 9), (1, ii (pl : Int)), (2, .long (Int64.ofInt (ckI bf pl k))), (4, ii ((pl + k : Nat) : Int))]) (S' := [ii ((pl + k : Nat) : Int), .long (Int64.ofInt (ckI bf pl k)), ii (pl : Int), ii 3, .ref 9]) dm_X8_addName_81 rfl rfl rfl rfl ?_
            refine x_cn (pc' := 86) (rest := []) dm_X8_addName_83 rfl (g_inv (As := [ii 3, ii (pl : Int), .long (Int64.ofInt (ckI bf pl k)), ii ((pl + k : Nat) : Int)]) (S := []) h9 rfl rfl rfl (by decide)) rfl rfl rfl (x_addT (so := 3) (pl := (pl : Int)) (en := ((pl + k : Nat) : Int)) (da := Int64.ofInt (ckI bf pl k)) (by omega) hT hr) ?_
            rintro h2 ⟨hT2, hF2⟩
            refine y_ret (r := none) dm_X8_addName_86 rfl rfl rfl ?_
            rw [hn]
            first | (rw [if_pos (fnT_y (Or.inr (by assumption)))]; exact ⟨rfl, hT2, hF2⟩) | (rw [if_neg (by rw [fnT_n (fun z => z.elim (fun y => by omega) (fun y => absurd y (by assumption)))]; exact Bool.false_ne_true)]; exact ⟨rfl, hT2, hF2⟩)
          · replace hb4 := dT hb4
            refine me0 (pc' := 75) (S' := [ii 4, .ref 9]) dm_X8_addName_74 rfl rfl rfl rfl ?_
            refine me2 (pc' := 79) (S' := [ii 4, .ref 9]) dm_X8_addName_75 rfl rfl rfl ?_
            refine me1 (pc' := 80) (L' := [(0, .ref 9), (1, ii (pl : Int)), (2, .long (Int64.ofInt (ckI bf pl k))), (4, ii ((pl + k : Nat) : Int))]) (S' := [ii (pl : Int), ii 4, .ref 9]) dm_X8_addName_79 rfl rfl rfl rfl ?_
            refine me1 (pc' := 81) (L' := [(0, .ref 9), (1, ii (pl : Int)), (2, .long (Int64.ofInt (ckI bf pl k))), (4, ii ((pl + k : Nat) : Int))]) (S' := [.long (Int64.ofInt (ckI bf pl k)), ii (pl : Int), ii 4, .ref 9]) dm_X8_addName_80 rfl rfl rfl rfl ?_
            refine me1 (pc' := 83) (L' := [(0, .ref 9), (1, ii (pl : Int)), (2, .long (Int64.ofInt (ckI bf pl k))), (4, ii ((pl + k : Nat) : Int))]) (S' := [ii ((pl + k : Nat) : Int), .long (Int64.ofInt (ckI bf pl k)), ii (pl : Int), ii 4, .ref 9]) dm_X8_addName_81 rfl rfl rfl rfl ?_
            refine x_cn (pc' := 86) (rest := []) dm_X8_addName_83 rfl (g_inv (As := [ii 4, ii (pl : Int), .long (Int64.ofInt (ckI bf pl k)), ii ((pl + k : Nat) : Int)]) (S := []) h9 rfl rfl rfl (by decide)) rfl rfl rfl (x_addT (so := 4) (pl := (pl : Int)) (en := ((pl + k : Nat) : Int)) (da := Int64.ofInt (ckI bf pl k)) (by omega) hT hr) ?_
            rintro h2 ⟨hT2, hF2⟩
            refine y_ret (r := none) dm_X8_addName_86 rfl rfl rfl ?_
            rw [hn]
            first | (rw [if_pos (fnT_y (Or.inr (by assumption)))]; exact ⟨rfl, hT2, hF2⟩) | (rw [if_neg (by rw [fnT_n (fun z => z.elim (fun y => by omega) (fun y => absurd y (by assumption)))]; exact Bool.false_ne_true)]; exact ⟨rfl, hT2, hF2⟩)
        · replace hb3 := dT hb3
          have hin : pl + k < ln := Classical.byContradiction fun z => by have z2 := byA_out (bf := bf) (Nat.le_of_not_lt z); omega
          have hby := byA_in (bf := bf) hin
          have hrun1 : ∀ j, pl ≤ j → j < pl + (k + 1) → j < ln ∧ ltB (bf j) = true := fun j h1 h2 => by by_cases z : j = pl + k; (rw [z]; exact ⟨hin, decide_eq_true (by rw [← hby]; constructor <;> omega)⟩); exact hrun j h1 (by omega)
          have hlr : ∀ j, j < k + 1 → isLtI (bf (pl + j)) := fun j hj => of_decide_eq_true (hrun1 (pl + j) (by omega) (by omega)).2
          refine me1 (pc' := 27) (L' := [(0, .ref 9), (1, ii (pl : Int)), (2, .long (Int64.ofInt (ckI bf pl k))), (4, ii ((pl + k : Nat) : Int))]) (S' := [.long (Int64.ofInt (ckI bf pl k))]) dm_X8_addName_26 rfl rfl rfl rfl ?_
          refine me1 (pc' := 28) (L' := [(0, .ref 9), (1, ii (pl : Int)), (2, .long (Int64.ofInt (ckI bf pl k))), (4, ii ((pl + k : Nat) : Int))]) (S' := [.ref 9, .long (Int64.ofInt (ckI bf pl k))]) dm_X8_addName_27 rfl rfl rfl rfl ?_
          refine me1 (pc' := 30) (L' := [(0, .ref 9), (1, ii (pl : Int)), (2, .long (Int64.ofInt (ckI bf pl k))), (4, ii ((pl + k : Nat) : Int))]) (S' := [ii ((pl + k : Nat) : Int), .ref 9, .long (Int64.ofInt (ckI bf pl k))]) dm_X8_addName_28 rfl rfl rfl rfl ?_
          refine x_cp (pc' := 33) (v := ii (byA bf ln ((pl + k : Nat) : Int))) (rest := [.long (Int64.ofInt (ckI bf pl k))]) dm_X8_addName_30 rfl (g_inv (As := [ii ((pl + k : Nat) : Int)]) (S := [.long (Int64.ofInt (ckI bf pl k))]) h9 rfl rfl rfl (by decide)) rfl rfl rfl (x_byteAtT (by omega) hT (by omega)) ?_
          refine me0 (pc' := 35) (S' := [ii 97, ii (byA bf ln ((pl + k : Nat) : Int)), .long (Int64.ofInt (ckI bf pl k))]) dm_X8_addName_33 rfl rfl rfl rfl ?_
          refine y_isub (a := byA bf ln ((pl + k : Nat) : Int)) (b := 97) dm_X8_addName_35 (pc' := 36) rfl ?_
          refine me0 (pc' := 37) (S' := [ii 1, ii ((byA bf ln ((pl + k : Nat) : Int)) - 97), .long (Int64.ofInt (ckI bf pl k))]) dm_X8_addName_36 rfl rfl rfl rfl ?_
          refine y_iadd (a := (byA bf ln ((pl + k : Nat) : Int)) - 97) (b := 1) dm_X8_addName_37 (pc' := 38) rfl ?_
          refine y_i2l (a := ((byA bf ln ((pl + k : Nat) : Int)) - 97) + 1) dm_X8_addName_38 (pc' := 39) rfl (by omega) (by omega) ?_
          refine me1 (pc' := 41) (L' := [(0, .ref 9), (1, ii (pl : Int)), (2, .long (Int64.ofInt (ckI bf pl k))), (4, ii ((pl + k : Nat) : Int))]) (S' := [ii ((pl + k : Nat) : Int), .long (Int64.ofInt (((byA bf ln ((pl + k : Nat) : Int)) - 97) + 1)), .long (Int64.ofInt (ckI bf pl k))]) dm_X8_addName_39 rfl rfl rfl rfl ?_
          refine me1 (pc' := 42) (L' := [(0, .ref 9), (1, ii (pl : Int)), (2, .long (Int64.ofInt (ckI bf pl k))), (4, ii ((pl + k : Nat) : Int))]) (S' := [ii (pl : Int), ii ((pl + k : Nat) : Int), .long (Int64.ofInt (((byA bf ln ((pl + k : Nat) : Int)) - 97) + 1)), .long (Int64.ofInt (ckI bf pl k))]) dm_X8_addName_41 rfl rfl rfl rfl ?_
          refine y_isub (a := ((pl + k : Nat) : Int)) (b := (pl : Int)) dm_X8_addName_42 (pc' := 43) rfl ?_
          refine me0 (pc' := 44) (S' := [ii 5, ii (((pl + k : Nat) : Int) - (pl : Int)), .long (Int64.ofInt (((byA bf ln ((pl + k : Nat) : Int)) - 97) + 1)), .long (Int64.ofInt (ckI bf pl k))]) dm_X8_addName_43 rfl rfl rfl rfl ?_
          refine y_imul (a := ((pl + k : Nat) : Int) - (pl : Int)) (b := 5) dm_X8_addName_44 (pc' := 45) rfl ?_
          refine y_lshl (a := byA bf ln ((pl + k : Nat) : Int) - 97 + 1) (n := (((pl + k : Nat) : Int) - (pl : Int)) * 5) (k := 5 * k) dm_X8_addName_45 (pc' := 46) rfl (by omega) (by omega) ?_
          refine me0 (pc' := 47) (S' := [.long ((Int64.ofInt (ckI bf pl k)) ||| (Int64.ofInt ((byA bf ln ((pl + k : Nat) : Int) - 97 + 1) * 2 ^ (5 * k))))]) dm_X8_addName_46 rfl rfl rfl rfl ?_
          refine pg_st (S' := [.long (Int64.ofInt (ckI bf pl (k + 1)))]) (congrArg (fun z => Value.long z :: []) (ck_or (by omega) hby hlr)) ?_
          refine me1 (pc' := 48) (L' := [(2, .long (Int64.ofInt (ckI bf pl (k + 1)))), (0, .ref 9), (1, ii (pl : Int)), (4, ii ((pl + k : Nat) : Int))]) (S' := []) dm_X8_addName_47 rfl rfl rfl rfl ?_
          refine y_iinc (pc' := 51) (L' := [(4, ii (((pl + k : Nat) : Int) + 1)), (2, .long (Int64.ofInt (ckI bf pl (k + 1)))), (0, .ref 9), (1, ii (pl : Int))]) dm_X8_addName_48 (y_incp (a := ((pl + k : Nat) : Int)) (c := 1) rfl rfl (by decide)) rfl ?_
          refine me2 (pc' := 5) (S' := []) dm_X8_addName_51 rfl rfl rfl ?_
          exact pg_sub (L := [(0, .ref 9), (1, ii (pl : Int)), (2, .long (Int64.ofInt (ckI bf pl (k + 1)))), (4, ii ((pl + (k + 1) : Nat) : Int))]) rfl rfl rfl (ih5 (8 - (k + 1)) (by omega) (k + 1) rfl (by omega) hrun1)
  exact pg_sub (L := [(0, .ref 9), (1, ii (pl : Int)), (2, .long (Int64.ofInt (ckI bf pl 0))), (4, ii ((pl + 0 : Nat) : Int))]) rfl rfl rfl (lp5 _ 0 rfl (by decide) (fun j h1 h2 => absurd h2 (by omega)))
theorem x_addNameT {xt : mj_X} {d mk ln : Nat} {le_ : Int} {gd : Bool} {sf pf bf : Nat → Int} {df : Nat → Int64} {h : mj_H} (hd : 4 ≤ d) (hT : TK h mk le_ ln gd sf pf bf df) {pl : Nat} {n m : Nat} {kf jf : Nat → Int64} {vf of : Nat → Option Nat} (hN : NMS h n m kf jf vf of) (hr : mk < 201) (hp : pl ≤ 300) (hbf : ∀ j, 0 ≤ bf j ∧ bf j ≤ 255) (hs : ∀ j : Nat, -2147483648 ≤ sf j ∧ sf j ≤ 2147483647) : pgN xt d 25 [.ref 9, ii (pl : Int)] h (fun h' => TK h' (mk + 1) ((pl + (rnL ltB bf ln 8 pl) : Nat) : Int) ln gd (va_up sf mk (if (fnT mk sf df jf m) (ckI bf pl (rnL ltB bf ln 8 pl)) = true then 4 else 3)) (va_up pf mk (pl : Int)) bf (va_up df mk (Int64.ofInt (ckI bf pl (rnL ltB bf ln 8 pl)))) ∧ tkF h h') := by
  rcases Nat.lt_or_ge (fndK jf m (Int64.ofInt (ckI bf pl (rnL ltB bf ln 8 pl)))) m with z | z
  · exact x_addNameY hd hT hN hr hp hbf hs z
  · exact x_addNameN hd hT hN hr hp hbf hs (Nat.le_antisymm (fstN_le _ _) z)
theorem tokS_r {sf : Nat → Int} (hs : ∀ j : Nat, 0 ≤ sf j ∧ sf j ≤ 7) (mk : Nat) (i : Int) : 0 ≤ tokS mk sf i ∧ tokS mk sf i ≤ 7 := by
  unfold tokS; split
  · exact hs _
  · omega
set_option maxRecDepth 20000 in
theorem pm_X8_next : mj_mmof pg_ms 18 = some ((⟨"ArrayCalculator$Tokens", "next", "(I)Z"⟩, prog_10_method_12_code, 5, (Option.some Jvm.ClassFile.FieldType.boolean)), 8, false, mj_dec prog_10_method_12_code) := rfl
theorem dm_X8_next_0 : mj_dec prog_10_method_12_code 0 = some (.aload_n 0, 1) := by decide +kernel
theorem dm_X8_next_1 : mj_dec prog_10_method_12_code 1 = some (.iload_n 1, 1) := by decide +kernel
theorem dm_X8_next_2 : mj_dec prog_10_method_12_code 2 = some (.invokevirtual 74, 3) := by decide +kernel
theorem dm_X8_next_5 : mj_dec prog_10_method_12_code 5 = some (.istore_n 2, 1) := by decide +kernel
theorem dm_X8_next_6 : mj_dec prog_10_method_12_code 6 = some (.aload_n 0, 1) := by decide +kernel
theorem dm_X8_next_7 : mj_dec prog_10_method_12_code 7 = some (.getfield 39, 3) := by decide +kernel
theorem dm_X8_next_10 : mj_dec prog_10_method_12_code 10 = some (.ifCond .le 24, 3) := by decide +kernel
theorem dm_X8_next_13 : mj_dec prog_10_method_12_code 13 = some (.aload_n 0, 1) := by decide +kernel
theorem dm_X8_next_14 : mj_dec prog_10_method_12_code 14 = some (.getfield 42, 3) := by decide +kernel
theorem dm_X8_next_17 : mj_dec prog_10_method_12_code 17 = some (.iload_n 1, 1) := by decide +kernel
theorem dm_X8_next_18 : mj_dec prog_10_method_12_code 18 = some (.if_icmp .ne 16, 3) := by decide +kernel
theorem dm_X8_next_21 : mj_dec prog_10_method_12_code 21 = some (.aload_n 0, 1) := by decide +kernel
theorem dm_X8_next_22 : mj_dec prog_10_method_12_code 22 = some (.aload_n 0, 1) := by decide +kernel
theorem dm_X8_next_23 : mj_dec prog_10_method_12_code 23 = some (.getfield 39, 3) := by decide +kernel
theorem dm_X8_next_26 : mj_dec prog_10_method_12_code 26 = some (.iconst 1, 1) := by decide +kernel
theorem dm_X8_next_27 : mj_dec prog_10_method_12_code 27 = some (.isub, 1) := by decide +kernel
theorem dm_X8_next_28 : mj_dec prog_10_method_12_code 28 = some (.invokevirtual 57, 3) := by decide +kernel
theorem dm_X8_next_31 : mj_dec prog_10_method_12_code 31 = some (.goto 4, 3) := by decide +kernel
theorem dm_X8_next_34 : mj_dec prog_10_method_12_code 34 = some (.iconst 0, 1) := by decide +kernel
theorem dm_X8_next_35 : mj_dec prog_10_method_12_code 35 = some (.istore_n 3, 1) := by decide +kernel
theorem dm_X8_next_36 : mj_dec prog_10_method_12_code 36 = some (.iload_n 2, 1) := by decide +kernel
theorem dm_X8_next_37 : mj_dec prog_10_method_12_code 37 = some (.i2l, 1) := by decide +kernel
theorem dm_X8_next_38 : mj_dec prog_10_method_12_code 38 = some (.invokestatic 87, 3) := by decide +kernel
theorem dm_X8_next_41 : mj_dec prog_10_method_12_code 41 = some (.ifCond .ne 10, 3) := by decide +kernel
theorem dm_X8_next_44 : mj_dec prog_10_method_12_code 44 = some (.iload_n 2, 1) := by decide +kernel
theorem dm_X8_next_45 : mj_dec prog_10_method_12_code 45 = some (.invokestatic 91, 3) := by decide +kernel
theorem dm_X8_next_48 : mj_dec prog_10_method_12_code 48 = some (.ifCond .eq 44, 3) := by decide +kernel
theorem dm_X8_next_51 : mj_dec prog_10_method_12_code 51 = some (.iload_n 3, 1) := by decide +kernel
theorem dm_X8_next_52 : mj_dec prog_10_method_12_code 52 = some (.iconst 1, 1) := by decide +kernel
theorem dm_X8_next_53 : mj_dec prog_10_method_12_code 53 = some (.if_icmp .eq 13, 3) := by decide +kernel
theorem dm_X8_next_56 : mj_dec prog_10_method_12_code 56 = some (.iload_n 3, 1) := by decide +kernel
theorem dm_X8_next_57 : mj_dec prog_10_method_12_code 57 = some (.iconst 3, 1) := by decide +kernel
theorem dm_X8_next_58 : mj_dec prog_10_method_12_code 58 = some (.if_icmp .eq 8, 3) := by decide +kernel
theorem dm_X8_next_61 : mj_dec prog_10_method_12_code 61 = some (.iload_n 3, 1) := by decide +kernel
theorem dm_X8_next_62 : mj_dec prog_10_method_12_code 62 = some (.iconst 4, 1) := by decide +kernel
theorem dm_X8_next_63 : mj_dec prog_10_method_12_code 63 = some (.if_icmp .ne 5, 3) := by decide +kernel
theorem dm_X8_next_66 : mj_dec prog_10_method_12_code 66 = some (.iconst 0, 1) := by decide +kernel
theorem dm_X8_next_67 : mj_dec prog_10_method_12_code 67 = some (.ireturn, 1) := by decide +kernel
theorem dm_X8_next_68 : mj_dec prog_10_method_12_code 68 = some (.iload_n 2, 1) := by decide +kernel
theorem dm_X8_next_69 : mj_dec prog_10_method_12_code 69 = some (.i2l, 1) := by decide +kernel
theorem dm_X8_next_70 : mj_dec prog_10_method_12_code 70 = some (.invokestatic 87, 3) := by decide +kernel
theorem dm_X8_next_73 : mj_dec prog_10_method_12_code 73 = some (.ifCond .eq 12, 3) := by decide +kernel
theorem dm_X8_next_76 : mj_dec prog_10_method_12_code 76 = some (.aload_n 0, 1) := by decide +kernel
theorem dm_X8_next_77 : mj_dec prog_10_method_12_code 77 = some (.iload_n 1, 1) := by decide +kernel
theorem dm_X8_next_78 : mj_dec prog_10_method_12_code 78 = some (.iload_n 1, 1) := by decide +kernel
theorem dm_X8_next_79 : mj_dec prog_10_method_12_code 79 = some (.invokevirtual 94, 3) := by decide +kernel
theorem dm_X8_next_82 : mj_dec prog_10_method_12_code 82 = some (.goto 8, 3) := by decide +kernel
theorem dm_X8_next_85 : mj_dec prog_10_method_12_code 85 = some (.aload_n 0, 1) := by decide +kernel
theorem dm_X8_next_86 : mj_dec prog_10_method_12_code 86 = some (.iload_n 1, 1) := by decide +kernel
theorem dm_X8_next_87 : mj_dec prog_10_method_12_code 87 = some (.invokevirtual 98, 3) := by decide +kernel
theorem dm_X8_next_90 : mj_dec prog_10_method_12_code 90 = some (.iconst 1, 1) := by decide +kernel
theorem dm_X8_next_91 : mj_dec prog_10_method_12_code 91 = some (.ireturn, 1) := by decide +kernel
theorem dm_X8_next_92 : mj_dec prog_10_method_12_code 92 = some (.iload_n 2, 1) := by decide +kernel
theorem dm_X8_next_93 : mj_dec prog_10_method_12_code 93 = some (.bipush 95, 2) := by decide +kernel
theorem dm_X8_next_95 : mj_dec prog_10_method_12_code 95 = some (.if_icmp .ne 27, 3) := by decide +kernel
theorem dm_X8_next_98 : mj_dec prog_10_method_12_code 98 = some (.aload_n 0, 1) := by decide +kernel
theorem dm_X8_next_99 : mj_dec prog_10_method_12_code 99 = some (.iload_n 1, 1) := by decide +kernel
theorem dm_X8_next_100 : mj_dec prog_10_method_12_code 100 = some (.iconst 1, 1) := by decide +kernel
theorem dm_X8_next_101 : mj_dec prog_10_method_12_code 101 = some (.iadd, 1) := by decide +kernel
theorem dm_X8_next_102 : mj_dec prog_10_method_12_code 102 = some (.invokevirtual 74, 3) := by decide +kernel
theorem dm_X8_next_105 : mj_dec prog_10_method_12_code 105 = some (.i2l, 1) := by decide +kernel
theorem dm_X8_next_106 : mj_dec prog_10_method_12_code 106 = some (.invokestatic 87, 3) := by decide +kernel
theorem dm_X8_next_109 : mj_dec prog_10_method_12_code 109 = some (.ifCond .eq 13, 3) := by decide +kernel
theorem dm_X8_next_112 : mj_dec prog_10_method_12_code 112 = some (.aload_n 0, 1) := by decide +kernel
theorem dm_X8_next_113 : mj_dec prog_10_method_12_code 113 = some (.iload_n 1, 1) := by decide +kernel
theorem dm_X8_next_114 : mj_dec prog_10_method_12_code 114 = some (.iload_n 1, 1) := by decide +kernel
theorem dm_X8_next_115 : mj_dec prog_10_method_12_code 115 = some (.iconst 1, 1) := by decide +kernel
theorem dm_X8_next_116 : mj_dec prog_10_method_12_code 116 = some (.iadd, 1) := by decide +kernel
theorem dm_X8_next_117 : mj_dec prog_10_method_12_code 117 = some (.invokevirtual 94, 3) := by decide +kernel
theorem dm_X8_next_120 : mj_dec prog_10_method_12_code 120 = some (.iconst 1, 1) := by decide +kernel
theorem dm_X8_next_121 : mj_dec prog_10_method_12_code 121 = some (.ireturn, 1) := by decide +kernel
theorem dm_X8_next_122 : mj_dec prog_10_method_12_code 122 = some (.iload_n 2, 1) := by decide +kernel
theorem dm_X8_next_123 : mj_dec prog_10_method_12_code 123 = some (.bipush 39, 2) := by decide +kernel
theorem dm_X8_next_125 : mj_dec prog_10_method_12_code 125 = some (.if_icmp .ne 25, 3) := by decide +kernel
theorem dm_X8_next_128 : mj_dec prog_10_method_12_code 128 = some (.iload_n 3, 1) := by decide +kernel
theorem dm_X8_next_129 : mj_dec prog_10_method_12_code 129 = some (.iconst 5, 1) := by decide +kernel
theorem dm_X8_next_130 : mj_dec prog_10_method_12_code 130 = some (.if_icmp .eq 20, 3) := by decide +kernel
theorem dm_X8_next_133 : mj_dec prog_10_method_12_code 133 = some (.iload_n 3, 1) := by decide +kernel
theorem dm_X8_next_134 : mj_dec prog_10_method_12_code 134 = some (.bipush 6, 2) := by decide +kernel
theorem dm_X8_next_136 : mj_dec prog_10_method_12_code 136 = some (.if_icmp .eq 14, 3) := by decide +kernel
theorem dm_X8_next_139 : mj_dec prog_10_method_12_code 139 = some (.iload_n 3, 1) := by decide +kernel
theorem dm_X8_next_140 : mj_dec prog_10_method_12_code 140 = some (.iconst 4, 1) := by decide +kernel
theorem dm_X8_next_141 : mj_dec prog_10_method_12_code 141 = some (.if_icmp .eq 9, 3) := by decide +kernel
theorem dm_X8_next_144 : mj_dec prog_10_method_12_code 144 = some (.aload_n 0, 1) := by decide +kernel
theorem dm_X8_next_145 : mj_dec prog_10_method_12_code 145 = some (.iload_n 1, 1) := by decide +kernel
theorem dm_X8_next_146 : mj_dec prog_10_method_12_code 146 = some (.invokevirtual 102, 3) := by decide +kernel
theorem dm_X8_next_149 : mj_dec prog_10_method_12_code 149 = some (.ireturn, 1) := by decide +kernel
theorem dm_X8_next_150 : mj_dec prog_10_method_12_code 150 = some (.iload_n 2, 1) := by decide +kernel
theorem dm_X8_next_151 : mj_dec prog_10_method_12_code 151 = some (.invokestatic 105, 3) := by decide +kernel
theorem dm_X8_next_154 : mj_dec prog_10_method_12_code 154 = some (.istore 4, 2) := by decide +kernel
theorem dm_X8_next_156 : mj_dec prog_10_method_12_code 156 = some (.iload 4, 2) := by decide +kernel
theorem dm_X8_next_158 : mj_dec prog_10_method_12_code 158 = some (.ifCond .eq 15, 3) := by decide +kernel
theorem dm_X8_next_161 : mj_dec prog_10_method_12_code 161 = some (.aload_n 0, 1) := by decide +kernel
theorem dm_X8_next_162 : mj_dec prog_10_method_12_code 162 = some (.iload 4, 2) := by decide +kernel
theorem dm_X8_next_164 : mj_dec prog_10_method_12_code 164 = some (.iload_n 1, 1) := by decide +kernel
theorem dm_X8_next_165 : mj_dec prog_10_method_12_code 165 = some (.iload_n 2, 1) := by decide +kernel
theorem dm_X8_next_166 : mj_dec prog_10_method_12_code 166 = some (.i2l, 1) := by decide +kernel
theorem dm_X8_next_167 : mj_dec prog_10_method_12_code 167 = some (.iload_n 1, 1) := by decide +kernel
theorem dm_X8_next_168 : mj_dec prog_10_method_12_code 168 = some (.iconst 1, 1) := by decide +kernel
theorem dm_X8_next_169 : mj_dec prog_10_method_12_code 169 = some (.iadd, 1) := by decide +kernel
theorem dm_X8_next_170 : mj_dec prog_10_method_12_code 170 = some (.invokevirtual 53, 3) := by decide +kernel
theorem dm_X8_next_173 : mj_dec prog_10_method_12_code 173 = some (.iload 4, 2) := by decide +kernel
theorem dm_X8_next_175 : mj_dec prog_10_method_12_code 175 = some (.ifCond .eq 7, 3) := by decide +kernel
theorem dm_X8_next_178 : mj_dec prog_10_method_12_code 178 = some (.iconst 1, 1) := by decide +kernel
theorem dm_X8_next_179 : mj_dec prog_10_method_12_code 179 = some (.goto 4, 3) := by decide +kernel
theorem dm_X8_next_182 : mj_dec prog_10_method_12_code 182 = some (.iconst 0, 1) := by decide +kernel
theorem dm_X8_next_183 : mj_dec prog_10_method_12_code 183 = some (.ireturn, 1) := by decide +kernel
theorem x_nextT {xt : mj_X} {d mk ln : Nat} {le_ : Int} {gd : Bool} {sf pf bf : Nat → Int} {df : Nat → Int64} {h : mj_H} (hd : 5 ≤ d) (hT : TK h mk le_ ln gd sf pf bf df) {p bh : Nat} {n m : Nat} {kf jf : Nat → Int64} {vf of : Nat → Option Nat} (hN : NMS h n m kf jf vf of) (hr : mk < 201) (hp : p < ln) (hbf : ∀ j, 0 ≤ bf j ∧ bf j ≤ 255) (hs : ∀ j : Nat, 0 ≤ sf j ∧ sf j ≤ 7) (hsI : ∀ j : Nat, -2147483648 ≤ sf j ∧ sf j ≤ 2147483647) (hle : 0 ≤ le_ ∧ le_ ≤ 300) (hbh : (bh : Int) = if 0 < mk ∧ le_ = (p : Int) then tokS mk sf ((mk : Int) - 1) else 0) : pgV xt d 18 [.ref 9, ii (p : Int)] h (fun x h' => nxP h h' mk ln gd sf pf bf df (tkB bf ln (fnT mk sf df jf m) p bh) x) := by
  obtain ⟨h9, h10, h11, h12, h3, hmk, hln⟩ := id hT
  have hbr := byA_r (ln := ln) hbf ((p + 1 : Nat) : Int)
  have hbp : byA bf ln (p : Int) = bf p := byA_in hp
  have hbq := hbf p
  have hbs := sobI_r (bf p)
  have hc1 : (Int64.ofInt (byA bf ln (p : Int))).toInt = bf p := by rw [hbp]; exact n_toL (by omega) (by omega)
  have hc2 : (Int64.ofInt (byA bf ln ((p + 1 : Nat) : Int))).toInt = byA bf ln ((p + 1 : Nat) : Int) := n_toL (by omega) (by omega)
  have hts := tokS_r hs mk ((mk : Int) - 1)
  refine x_enter pm_X8_next (L0 := [(0, .ref 9), (1, ii (p : Int))]) rfl (Nat.le_of_ble_eq_true rfl) (by omega) ?_
  have cut36 : pgE xt (d - 1) 8 5 false (Option.some Jvm.ClassFile.FieldType.boolean) (mj_dec prog_10_method_12_code) 36 [(3, ii (bh : Int)), (2, ii (byA bf ln (p : Int))), (0, .ref 9), (1, ii (p : Int))] [] h (fun r h' => ∃ x, r = some x ∧ nxP h h' mk ln gd sf pf bf df (tkB bf ln (fnT mk sf df jf m) p bh) x) := by
    refine me1 (pc' := 37) (L' := [(3, ii (bh : Int)), (2, ii (byA bf ln (p : Int))), (0, .ref 9), (1, ii (p : Int))]) (S' := [ii (byA bf ln (p : Int))]) dm_X8_next_36 rfl rfl rfl rfl ?_
    refine y_i2l (a := byA bf ln (p : Int)) dm_X8_next_37 (pc' := 38) rfl (by omega) (by omega) ?_
    refine x_cp (pc' := 41) (v := zz (decide (48 ≤ (Int64.ofInt (byA bf ln (p : Int))).toInt ∧ (Int64.ofInt (byA bf ln (p : Int))).toInt ≤ 57))) (rest := []) dm_X8_next_38 rfl (g_invs (As := [.long (Int64.ofInt (byA bf ln (p : Int)))]) (S := []) rfl rfl rfl) rfl rfl rfl (a_isDigit (by omega)) ?_
    refine y_zne (c := decide (48 ≤ (Int64.ofInt (byA bf ln (p : Int))).toInt ∧ (Int64.ofInt (byA bf ln (p : Int))).toInt ≤ 57)) (t := 51) (pc' := 44) dm_X8_next_41 rfl rfl (fun hb1 => ?_) (fun hb1 => ?_)
    · replace hb1 := dT hb1
      refine me1 (pc' := 52) (L' := [(3, ii (bh : Int)), (2, ii (byA bf ln (p : Int))), (0, .ref 9), (1, ii (p : Int))]) (S' := [ii (bh : Int)]) dm_X8_next_51 rfl rfl rfl rfl ?_
      refine me0 (pc' := 53) (S' := [ii 1, ii (bh : Int)]) dm_X8_next_52 rfl rfl rfl rfl ?_
      refine y_2eq (a := (bh : Int)) (b := 1) (t := 66) (pc' := 56) dm_X8_next_53 rfl rfl (by omega) (fun hb2 => ?_) (fun hb2 => ?_)
      · refine me0 (pc' := 67) (S' := [ii 0]) dm_X8_next_66 rfl rfl rfl rfl ?_
        refine y_ret (r := some (ii 0)) dm_X8_next_67 rfl rfl rfl ?_
        refine ⟨_, rfl, ?_⟩
        rw [tkB_bad (by omega) (by omega)]
        exact ⟨rfl, Or.inl ⟨rfl, rfl⟩⟩
      · refine me1 (pc' := 57) (L' := [(3, ii (bh : Int)), (2, ii (byA bf ln (p : Int))), (0, .ref 9), (1, ii (p : Int))]) (S' := [ii (bh : Int)]) dm_X8_next_56 rfl rfl rfl rfl ?_
        refine me0 (pc' := 58) (S' := [ii 3, ii (bh : Int)]) dm_X8_next_57 rfl rfl rfl rfl ?_
        refine y_2eq (a := (bh : Int)) (b := 3) (t := 66) (pc' := 61) dm_X8_next_58 rfl rfl (by omega) (fun hb3 => ?_) (fun hb3 => ?_)
        · refine me0 (pc' := 67) (S' := [ii 0]) dm_X8_next_66 rfl rfl rfl rfl ?_
          refine y_ret (r := some (ii 0)) dm_X8_next_67 rfl rfl rfl ?_
          refine ⟨_, rfl, ?_⟩
          rw [tkB_bad (by omega) (by omega)]
          exact ⟨rfl, Or.inl ⟨rfl, rfl⟩⟩
        · refine me1 (pc' := 62) (L' := [(3, ii (bh : Int)), (2, ii (byA bf ln (p : Int))), (0, .ref 9), (1, ii (p : Int))]) (S' := [ii (bh : Int)]) dm_X8_next_61 rfl rfl rfl rfl ?_
          refine me0 (pc' := 63) (S' := [ii 4, ii (bh : Int)]) dm_X8_next_62 rfl rfl rfl rfl ?_
          refine y_2ne (a := (bh : Int)) (b := 4) (t := 68) (pc' := 66) dm_X8_next_63 rfl rfl (by omega) (fun hb4 => ?_) (fun hb4 => ?_)
          · refine me1 (pc' := 69) (L' := [(3, ii (bh : Int)), (2, ii (byA bf ln (p : Int))), (0, .ref 9), (1, ii (p : Int))]) (S' := [ii (byA bf ln (p : Int))]) dm_X8_next_68 rfl rfl rfl rfl ?_
            refine y_i2l (a := byA bf ln (p : Int)) dm_X8_next_69 (pc' := 70) rfl (by omega) (by omega) ?_
            refine x_cp (pc' := 73) (v := zz (decide (48 ≤ (Int64.ofInt (byA bf ln (p : Int))).toInt ∧ (Int64.ofInt (byA bf ln (p : Int))).toInt ≤ 57))) (rest := []) dm_X8_next_70 rfl (g_invs (As := [.long (Int64.ofInt (byA bf ln (p : Int)))]) (S := []) rfl rfl rfl) rfl rfl rfl (a_isDigit (by omega)) ?_
            refine y_zeq (c := decide (48 ≤ (Int64.ofInt (byA bf ln (p : Int))).toInt ∧ (Int64.ofInt (byA bf ln (p : Int))).toInt ≤ 57)) (t := 85) (pc' := 76) dm_X8_next_73 rfl rfl (fun hb5 => ?_) (fun hb5 => ?_)
            · replace hb5 := dF hb5
              refine me1 (pc' := 86) (L' := [(3, ii (bh : Int)), (2, ii (byA bf ln (p : Int))), (0, .ref 9), (1, ii (p : Int))]) (S' := [.ref 9]) dm_X8_next_85 rfl rfl rfl rfl ?_
              refine me1 (pc' := 87) (L' := [(3, ii (bh : Int)), (2, ii (byA bf ln (p : Int))), (0, .ref 9), (1, ii (p : Int))]) (S' := [ii (p : Int), .ref 9]) dm_X8_next_86 rfl rfl rfl rfl ?_
              refine x_cn (pc' := 90) (rest := []) dm_X8_next_87 rfl (g_inv (As := [ii (p : Int)]) (S := []) h9 rfl rfl rfl (by decide)) rfl rfl rfl (x_addNameT (pl := p) (by omega) hT hN hr (by omega) hbf hsI) ?_
              rintro h2 ⟨hT2, hF2⟩
              refine me0 (pc' := 91) (S' := [ii 1]) dm_X8_next_90 rfl rfl rfl rfl ?_
              refine y_ret (r := some (ii 1)) dm_X8_next_91 rfl rfl rfl ?_
              refine ⟨_, rfl, ?_⟩
              rw [tkB_lt (by omega) (by omega)]
              have h48 : (if (fnT mk sf df jf m) (ckI bf p (rnL ltB bf ln 8 p)) = true then 4 else 3 : Nat) ≠ 8 := by split <;> decide
              refine ⟨zt h48, Or.inr ⟨h48, ?_, hF2⟩⟩
              · rw [show (((if (fnT mk sf df jf m) (ckI bf p (rnL ltB bf ln 8 p)) = true then 4 else 3 : Nat) : Nat) : Int) = if (fnT mk sf df jf m) (ckI bf p (rnL ltB bf ln 8 p)) = true then 4 else 3 by split <;> rfl]; exact hT2
            · replace hb5 := dT hb5
              refine me1 (pc' := 77) (L' := [(3, ii (bh : Int)), (2, ii (byA bf ln (p : Int))), (0, .ref 9), (1, ii (p : Int))]) (S' := [.ref 9]) dm_X8_next_76 rfl rfl rfl rfl ?_
              refine me1 (pc' := 78) (L' := [(3, ii (bh : Int)), (2, ii (byA bf ln (p : Int))), (0, .ref 9), (1, ii (p : Int))]) (S' := [ii (p : Int), .ref 9]) dm_X8_next_77 rfl rfl rfl rfl ?_
              refine me1 (pc' := 79) (L' := [(3, ii (bh : Int)), (2, ii (byA bf ln (p : Int))), (0, .ref 9), (1, ii (p : Int))]) (S' := [ii (p : Int), ii (p : Int), .ref 9]) dm_X8_next_78 rfl rfl rfl rfl ?_
              refine x_cn (pc' := 82) (rest := []) dm_X8_next_79 rfl (g_inv (As := [ii (p : Int), ii (p : Int)]) (S := []) h9 rfl rfl rfl (by decide)) rfl rfl rfl (x_addNumberT (pl := p) (fr := p) (by omega) hT hr (by omega) hbf) ?_
              rintro h2 ⟨hT2, hF2⟩
              rw [if_pos (by omega)] at hT2
              refine me2 (pc' := 90) (S' := []) dm_X8_next_82 rfl rfl rfl ?_
              refine me0 (pc' := 91) (S' := [ii 1]) dm_X8_next_90 rfl rfl rfl rfl ?_
              refine y_ret (r := some (ii 1)) dm_X8_next_91 rfl rfl rfl ?_
              refine ⟨_, rfl, ?_⟩
              rw [tkB_dg (by omega) (by omega)]
              exact ⟨rfl, Or.inr ⟨(show (1 : Nat) ≠ 8 by decide), hT2, hF2⟩⟩
          · refine me0 (pc' := 67) (S' := [ii 0]) dm_X8_next_66 rfl rfl rfl rfl ?_
            refine y_ret (r := some (ii 0)) dm_X8_next_67 rfl rfl rfl ?_
            refine ⟨_, rfl, ?_⟩
            rw [tkB_bad (by omega) (by omega)]
            exact ⟨rfl, Or.inl ⟨rfl, rfl⟩⟩
    · replace hb1 := dF hb1
      refine me1 (pc' := 45) (L' := [(3, ii (bh : Int)), (2, ii (byA bf ln (p : Int))), (0, .ref 9), (1, ii (p : Int))]) (S' := [ii (byA bf ln (p : Int))]) dm_X8_next_44 rfl rfl rfl rfl ?_
      refine x_cp (pc' := 48) (v := zz (decide (97 ≤ (byA bf ln (p : Int)) ∧ (byA bf ln (p : Int)) ≤ 122))) (rest := []) dm_X8_next_45 rfl (g_invs (As := [ii (byA bf ln (p : Int))]) (S := []) rfl rfl rfl) rfl rfl rfl (a_isLetter (by omega) (by omega)) ?_
      refine y_zeq (c := decide (97 ≤ (byA bf ln (p : Int)) ∧ (byA bf ln (p : Int)) ≤ 122)) (t := 92) (pc' := 51) dm_X8_next_48 rfl rfl (fun hb6 => ?_) (fun hb6 => ?_)
      · replace hb6 := dF hb6
        refine me1 (pc' := 93) (L' := [(3, ii (bh : Int)), (2, ii (byA bf ln (p : Int))), (0, .ref 9), (1, ii (p : Int))]) (S' := [ii (byA bf ln (p : Int))]) dm_X8_next_92 rfl rfl rfl rfl ?_
        refine me0 (pc' := 95) (S' := [ii 95, ii (byA bf ln (p : Int))]) dm_X8_next_93 rfl rfl rfl rfl ?_
        refine y_2ne (a := byA bf ln (p : Int)) (b := 95) (t := 122) (pc' := 98) dm_X8_next_95 rfl rfl (by omega) (fun hb7 => ?_) (fun hb7 => ?_)
        · refine me1 (pc' := 123) (L' := [(3, ii (bh : Int)), (2, ii (byA bf ln (p : Int))), (0, .ref 9), (1, ii (p : Int))]) (S' := [ii (byA bf ln (p : Int))]) dm_X8_next_122 rfl rfl rfl rfl ?_
          refine me0 (pc' := 125) (S' := [ii 39, ii (byA bf ln (p : Int))]) dm_X8_next_123 rfl rfl rfl rfl ?_
          refine y_2ne (a := byA bf ln (p : Int)) (b := 39) (t := 150) (pc' := 128) dm_X8_next_125 rfl rfl (by omega) (fun hb8 => ?_) (fun hb8 => ?_)
          · refine me1 (pc' := 151) (L' := [(3, ii (bh : Int)), (2, ii (byA bf ln (p : Int))), (0, .ref 9), (1, ii (p : Int))]) (S' := [ii (byA bf ln (p : Int))]) dm_X8_next_150 rfl rfl rfl rfl ?_
            refine pg_st (S' := [ii (bf p)]) (congrArg (fun z => ii z :: []) (hbp)) ?_
            refine y_pr (i := .iadd) (pc' := 154) (S' := [ii (sobI (bf p))]) dm_X8_next_151 rfl (p_sob (by omega) (by omega) rfl) (by omega) rfl ?_
            refine me1 (pc' := 156) (L' := [(4, ii (sobI (bf p))), (3, ii (bh : Int)), (2, ii (byA bf ln (p : Int))), (0, .ref 9), (1, ii (p : Int))]) (S' := []) dm_X8_next_154 rfl rfl rfl rfl ?_
            refine me1 (pc' := 158) (L' := [(4, ii (sobI (bf p))), (3, ii (bh : Int)), (2, ii (byA bf ln (p : Int))), (0, .ref 9), (1, ii (p : Int))]) (S' := [ii (sobI (bf p))]) dm_X8_next_156 rfl rfl rfl rfl ?_
            refine y_1eq (a := sobI (bf p)) (t := 173) (pc' := 161) dm_X8_next_158 rfl rfl (by omega) (fun hb9 => ?_) (fun hb9 => ?_)
            · refine me1 (pc' := 175) (L' := [(4, ii (sobI (bf p))), (3, ii (bh : Int)), (2, ii (byA bf ln (p : Int))), (0, .ref 9), (1, ii (p : Int))]) (S' := [ii (sobI (bf p))]) dm_X8_next_173 rfl rfl rfl rfl ?_
              refine y_1eq (a := sobI (bf p)) (t := 182) (pc' := 178) dm_X8_next_175 rfl rfl (by omega) (fun hb10 => ?_) (fun hb10 => ?_)
              · refine me0 (pc' := 183) (S' := [ii 0]) dm_X8_next_182 rfl rfl rfl rfl ?_
                refine y_ret (r := some (ii 0)) dm_X8_next_183 rfl rfl rfl ?_
                refine ⟨_, rfl, ?_⟩
                rw [tkB_no (by omega) (by omega) (by omega) (by omega)]
                exact ⟨rfl, Or.inl ⟨rfl, rfl⟩⟩
              · exfalso; omega
            · refine me1 (pc' := 162) (L' := [(4, ii (sobI (bf p))), (3, ii (bh : Int)), (2, ii (byA bf ln (p : Int))), (0, .ref 9), (1, ii (p : Int))]) (S' := [.ref 9]) dm_X8_next_161 rfl rfl rfl rfl ?_
              refine me1 (pc' := 164) (L' := [(4, ii (sobI (bf p))), (3, ii (bh : Int)), (2, ii (byA bf ln (p : Int))), (0, .ref 9), (1, ii (p : Int))]) (S' := [ii (sobI (bf p)), .ref 9]) dm_X8_next_162 rfl rfl rfl rfl ?_
              refine me1 (pc' := 165) (L' := [(4, ii (sobI (bf p))), (3, ii (bh : Int)), (2, ii (byA bf ln (p : Int))), (0, .ref 9), (1, ii (p : Int))]) (S' := [ii (p : Int), ii (sobI (bf p)), .ref 9]) dm_X8_next_164 rfl rfl rfl rfl ?_
              refine me1 (pc' := 166) (L' := [(4, ii (sobI (bf p))), (3, ii (bh : Int)), (2, ii (byA bf ln (p : Int))), (0, .ref 9), (1, ii (p : Int))]) (S' := [ii (byA bf ln (p : Int)), ii (p : Int), ii (sobI (bf p)), .ref 9]) dm_X8_next_165 rfl rfl rfl rfl ?_
              refine pg_st (S' := [ii (bf p), ii (p : Int), ii (sobI (bf p)), .ref 9]) (congrArg (fun z => ii z :: [ii (p : Int), ii (sobI (bf p)), .ref 9]) (hbp)) ?_
              refine y_i2l (a := bf p) dm_X8_next_166 (pc' := 167) rfl (by omega) (by omega) ?_
              refine me1 (pc' := 168) (L' := [(4, ii (sobI (bf p))), (3, ii (bh : Int)), (2, ii (byA bf ln (p : Int))), (0, .ref 9), (1, ii (p : Int))]) (S' := [ii (p : Int), .long (Int64.ofInt (bf p)), ii (p : Int), ii (sobI (bf p)), .ref 9]) dm_X8_next_167 rfl rfl rfl rfl ?_
              refine me0 (pc' := 169) (S' := [ii 1, ii (p : Int), .long (Int64.ofInt (bf p)), ii (p : Int), ii (sobI (bf p)), .ref 9]) dm_X8_next_168 rfl rfl rfl rfl ?_
              refine y_iadd (a := (p : Int)) (b := 1) dm_X8_next_169 (pc' := 170) rfl ?_
              refine pg_st (S' := [ii ((p + 1 : Nat) : Int), .long (Int64.ofInt (bf p)), ii (p : Int), ii (sobI (bf p)), .ref 9]) (congrArg (fun z => ii z :: [.long (Int64.ofInt (bf p)), ii (p : Int), ii (sobI (bf p)), .ref 9]) (by omega)) ?_
              refine x_cn (pc' := 173) (rest := []) dm_X8_next_170 rfl (g_inv (As := [ii (sobI (bf p)), ii (p : Int), .long (Int64.ofInt (bf p)), ii ((p + 1 : Nat) : Int)]) (S := []) h9 rfl rfl rfl (by decide)) rfl rfl rfl (x_addT (so := sobI (bf p)) (pl := (p : Int)) (en := ((p + 1 : Nat) : Int)) (da := Int64.ofInt (bf p)) (by omega) hT hr) ?_
              rintro h2 ⟨hT2, hF2⟩
              refine me1 (pc' := 175) (L' := [(4, ii (sobI (bf p))), (3, ii (bh : Int)), (2, ii (byA bf ln (p : Int))), (0, .ref 9), (1, ii (p : Int))]) (S' := [ii (sobI (bf p))]) dm_X8_next_173 rfl rfl rfl rfl ?_
              refine y_1eq (a := sobI (bf p)) (t := 182) (pc' := 178) dm_X8_next_175 rfl rfl (by omega) (fun hb11 => ?_) (fun hb11 => ?_)
              · exfalso; omega
              · refine me0 (pc' := 179) (S' := [ii 1]) dm_X8_next_178 rfl rfl rfl rfl ?_
                refine me2 (pc' := 183) (S' := [ii 1]) dm_X8_next_179 rfl rfl rfl ?_
                refine y_ret (r := some (ii 1)) dm_X8_next_183 rfl rfl rfl ?_
                refine ⟨_, rfl, ?_⟩
                rw [tkB_sg (by omega) (by omega) (by omega) (by omega)]
                have h78 : (sobI (bf p)).toNat ≠ 8 := by omega
                refine ⟨zt h78, Or.inr ⟨h78, ?_, hF2⟩⟩
                show TK h2 (mk + 1) ((p + 1 : Nat) : Int) ln gd (va_up sf mk (((sobI (bf p)).toNat : Nat) : Int)) (va_up pf mk (p : Int)) bf (va_up df mk (Int64.ofInt (bf p)))
                rw [show (((sobI (bf p)).toNat : Nat) : Int) = sobI (bf p) by omega]
                exact hT2
          · refine me1 (pc' := 129) (L' := [(3, ii (bh : Int)), (2, ii (byA bf ln (p : Int))), (0, .ref 9), (1, ii (p : Int))]) (S' := [ii (bh : Int)]) dm_X8_next_128 rfl rfl rfl rfl ?_
            refine me0 (pc' := 130) (S' := [ii 5, ii (bh : Int)]) dm_X8_next_129 rfl rfl rfl rfl ?_
            refine y_2eq (a := (bh : Int)) (b := 5) (t := 150) (pc' := 133) dm_X8_next_130 rfl rfl (by omega) (fun hb12 => ?_) (fun hb12 => ?_)
            · refine me1 (pc' := 151) (L' := [(3, ii (bh : Int)), (2, ii (byA bf ln (p : Int))), (0, .ref 9), (1, ii (p : Int))]) (S' := [ii (byA bf ln (p : Int))]) dm_X8_next_150 rfl rfl rfl rfl ?_
              refine pg_st (S' := [ii (bf p)]) (congrArg (fun z => ii z :: []) (hbp)) ?_
              refine y_pr (i := .iadd) (pc' := 154) (S' := [ii (sobI (bf p))]) dm_X8_next_151 rfl (p_sob (by omega) (by omega) rfl) (by omega) rfl ?_
              refine me1 (pc' := 156) (L' := [(4, ii (sobI (bf p))), (3, ii (bh : Int)), (2, ii (byA bf ln (p : Int))), (0, .ref 9), (1, ii (p : Int))]) (S' := []) dm_X8_next_154 rfl rfl rfl rfl ?_
              refine me1 (pc' := 158) (L' := [(4, ii (sobI (bf p))), (3, ii (bh : Int)), (2, ii (byA bf ln (p : Int))), (0, .ref 9), (1, ii (p : Int))]) (S' := [ii (sobI (bf p))]) dm_X8_next_156 rfl rfl rfl rfl ?_
              refine y_1eq (a := sobI (bf p)) (t := 173) (pc' := 161) dm_X8_next_158 rfl rfl (by omega) (fun hb13 => ?_) (fun hb13 => ?_)
              · refine me1 (pc' := 175) (L' := [(4, ii (sobI (bf p))), (3, ii (bh : Int)), (2, ii (byA bf ln (p : Int))), (0, .ref 9), (1, ii (p : Int))]) (S' := [ii (sobI (bf p))]) dm_X8_next_173 rfl rfl rfl rfl ?_
                refine y_1eq (a := sobI (bf p)) (t := 182) (pc' := 178) dm_X8_next_175 rfl rfl (by omega) (fun hb14 => ?_) (fun hb14 => ?_)
                · refine me0 (pc' := 183) (S' := [ii 0]) dm_X8_next_182 rfl rfl rfl rfl ?_
                  refine y_ret (r := some (ii 0)) dm_X8_next_183 rfl rfl rfl ?_
                  refine ⟨_, rfl, ?_⟩
                  rw [tkB_no (by omega) (by omega) (by omega) (by omega)]
                  exact ⟨rfl, Or.inl ⟨rfl, rfl⟩⟩
                · exfalso; omega
              · refine me1 (pc' := 162) (L' := [(4, ii (sobI (bf p))), (3, ii (bh : Int)), (2, ii (byA bf ln (p : Int))), (0, .ref 9), (1, ii (p : Int))]) (S' := [.ref 9]) dm_X8_next_161 rfl rfl rfl rfl ?_
                refine me1 (pc' := 164) (L' := [(4, ii (sobI (bf p))), (3, ii (bh : Int)), (2, ii (byA bf ln (p : Int))), (0, .ref 9), (1, ii (p : Int))]) (S' := [ii (sobI (bf p)), .ref 9]) dm_X8_next_162 rfl rfl rfl rfl ?_
                refine me1 (pc' := 165) (L' := [(4, ii (sobI (bf p))), (3, ii (bh : Int)), (2, ii (byA bf ln (p : Int))), (0, .ref 9), (1, ii (p : Int))]) (S' := [ii (p : Int), ii (sobI (bf p)), .ref 9]) dm_X8_next_164 rfl rfl rfl rfl ?_
                refine me1 (pc' := 166) (L' := [(4, ii (sobI (bf p))), (3, ii (bh : Int)), (2, ii (byA bf ln (p : Int))), (0, .ref 9), (1, ii (p : Int))]) (S' := [ii (byA bf ln (p : Int)), ii (p : Int), ii (sobI (bf p)), .ref 9]) dm_X8_next_165 rfl rfl rfl rfl ?_
                refine pg_st (S' := [ii (bf p), ii (p : Int), ii (sobI (bf p)), .ref 9]) (congrArg (fun z => ii z :: [ii (p : Int), ii (sobI (bf p)), .ref 9]) (hbp)) ?_
                refine y_i2l (a := bf p) dm_X8_next_166 (pc' := 167) rfl (by omega) (by omega) ?_
                refine me1 (pc' := 168) (L' := [(4, ii (sobI (bf p))), (3, ii (bh : Int)), (2, ii (byA bf ln (p : Int))), (0, .ref 9), (1, ii (p : Int))]) (S' := [ii (p : Int), .long (Int64.ofInt (bf p)), ii (p : Int), ii (sobI (bf p)), .ref 9]) dm_X8_next_167 rfl rfl rfl rfl ?_
                refine me0 (pc' := 169) (S' := [ii 1, ii (p : Int), .long (Int64.ofInt (bf p)), ii (p : Int), ii (sobI (bf p)), .ref 9]) dm_X8_next_168 rfl rfl rfl rfl ?_
                refine y_iadd (a := (p : Int)) (b := 1) dm_X8_next_169 (pc' := 170) rfl ?_
                refine pg_st (S' := [ii ((p + 1 : Nat) : Int), .long (Int64.ofInt (bf p)), ii (p : Int), ii (sobI (bf p)), .ref 9]) (congrArg (fun z => ii z :: [.long (Int64.ofInt (bf p)), ii (p : Int), ii (sobI (bf p)), .ref 9]) (by omega)) ?_
                refine x_cn (pc' := 173) (rest := []) dm_X8_next_170 rfl (g_inv (As := [ii (sobI (bf p)), ii (p : Int), .long (Int64.ofInt (bf p)), ii ((p + 1 : Nat) : Int)]) (S := []) h9 rfl rfl rfl (by decide)) rfl rfl rfl (x_addT (so := sobI (bf p)) (pl := (p : Int)) (en := ((p + 1 : Nat) : Int)) (da := Int64.ofInt (bf p)) (by omega) hT hr) ?_
                rintro h2 ⟨hT2, hF2⟩
                refine me1 (pc' := 175) (L' := [(4, ii (sobI (bf p))), (3, ii (bh : Int)), (2, ii (byA bf ln (p : Int))), (0, .ref 9), (1, ii (p : Int))]) (S' := [ii (sobI (bf p))]) dm_X8_next_173 rfl rfl rfl rfl ?_
                refine y_1eq (a := sobI (bf p)) (t := 182) (pc' := 178) dm_X8_next_175 rfl rfl (by omega) (fun hb15 => ?_) (fun hb15 => ?_)
                · exfalso; omega
                · refine me0 (pc' := 179) (S' := [ii 1]) dm_X8_next_178 rfl rfl rfl rfl ?_
                  refine me2 (pc' := 183) (S' := [ii 1]) dm_X8_next_179 rfl rfl rfl ?_
                  refine y_ret (r := some (ii 1)) dm_X8_next_183 rfl rfl rfl ?_
                  refine ⟨_, rfl, ?_⟩
                  rw [tkB_sg (by omega) (by omega) (by omega) (by omega)]
                  have h78 : (sobI (bf p)).toNat ≠ 8 := by omega
                  refine ⟨zt h78, Or.inr ⟨h78, ?_, hF2⟩⟩
                  show TK h2 (mk + 1) ((p + 1 : Nat) : Int) ln gd (va_up sf mk (((sobI (bf p)).toNat : Nat) : Int)) (va_up pf mk (p : Int)) bf (va_up df mk (Int64.ofInt (bf p)))
                  rw [show (((sobI (bf p)).toNat : Nat) : Int) = sobI (bf p) by omega]
                  exact hT2
            · refine me1 (pc' := 134) (L' := [(3, ii (bh : Int)), (2, ii (byA bf ln (p : Int))), (0, .ref 9), (1, ii (p : Int))]) (S' := [ii (bh : Int)]) dm_X8_next_133 rfl rfl rfl rfl ?_
              refine me0 (pc' := 136) (S' := [ii 6, ii (bh : Int)]) dm_X8_next_134 rfl rfl rfl rfl ?_
              refine y_2eq (a := (bh : Int)) (b := 6) (t := 150) (pc' := 139) dm_X8_next_136 rfl rfl (by omega) (fun hb16 => ?_) (fun hb16 => ?_)
              · refine me1 (pc' := 151) (L' := [(3, ii (bh : Int)), (2, ii (byA bf ln (p : Int))), (0, .ref 9), (1, ii (p : Int))]) (S' := [ii (byA bf ln (p : Int))]) dm_X8_next_150 rfl rfl rfl rfl ?_
                refine pg_st (S' := [ii (bf p)]) (congrArg (fun z => ii z :: []) (hbp)) ?_
                refine y_pr (i := .iadd) (pc' := 154) (S' := [ii (sobI (bf p))]) dm_X8_next_151 rfl (p_sob (by omega) (by omega) rfl) (by omega) rfl ?_
                refine me1 (pc' := 156) (L' := [(4, ii (sobI (bf p))), (3, ii (bh : Int)), (2, ii (byA bf ln (p : Int))), (0, .ref 9), (1, ii (p : Int))]) (S' := []) dm_X8_next_154 rfl rfl rfl rfl ?_
                refine me1 (pc' := 158) (L' := [(4, ii (sobI (bf p))), (3, ii (bh : Int)), (2, ii (byA bf ln (p : Int))), (0, .ref 9), (1, ii (p : Int))]) (S' := [ii (sobI (bf p))]) dm_X8_next_156 rfl rfl rfl rfl ?_
                refine y_1eq (a := sobI (bf p)) (t := 173) (pc' := 161) dm_X8_next_158 rfl rfl (by omega) (fun hb17 => ?_) (fun hb17 => ?_)
                · refine me1 (pc' := 175) (L' := [(4, ii (sobI (bf p))), (3, ii (bh : Int)), (2, ii (byA bf ln (p : Int))), (0, .ref 9), (1, ii (p : Int))]) (S' := [ii (sobI (bf p))]) dm_X8_next_173 rfl rfl rfl rfl ?_
                  refine y_1eq (a := sobI (bf p)) (t := 182) (pc' := 178) dm_X8_next_175 rfl rfl (by omega) (fun hb18 => ?_) (fun hb18 => ?_)
                  · refine me0 (pc' := 183) (S' := [ii 0]) dm_X8_next_182 rfl rfl rfl rfl ?_
                    refine y_ret (r := some (ii 0)) dm_X8_next_183 rfl rfl rfl ?_
                    refine ⟨_, rfl, ?_⟩
                    rw [tkB_no (by omega) (by omega) (by omega) (by omega)]
                    exact ⟨rfl, Or.inl ⟨rfl, rfl⟩⟩
                  · exfalso; omega
                · refine me1 (pc' := 162) (L' := [(4, ii (sobI (bf p))), (3, ii (bh : Int)), (2, ii (byA bf ln (p : Int))), (0, .ref 9), (1, ii (p : Int))]) (S' := [.ref 9]) dm_X8_next_161 rfl rfl rfl rfl ?_
                  refine me1 (pc' := 164) (L' := [(4, ii (sobI (bf p))), (3, ii (bh : Int)), (2, ii (byA bf ln (p : Int))), (0, .ref 9), (1, ii (p : Int))]) (S' := [ii (sobI (bf p)), .ref 9]) dm_X8_next_162 rfl rfl rfl rfl ?_
                  refine me1 (pc' := 165) (L' := [(4, ii (sobI (bf p))), (3, ii (bh : Int)), (2, ii (byA bf ln (p : Int))), (0, .ref 9), (1, ii (p : Int))]) (S' := [ii (p : Int), ii (sobI (bf p)), .ref 9]) dm_X8_next_164 rfl rfl rfl rfl ?_
                  refine me1 (pc' := 166) (L' := [(4, ii (sobI (bf p))), (3, ii (bh : Int)), (2, ii (byA bf ln (p : Int))), (0, .ref 9), (1, ii (p : Int))]) (S' := [ii (byA bf ln (p : Int)), ii (p : Int), ii (sobI (bf p)), .ref 9]) dm_X8_next_165 rfl rfl rfl rfl ?_
                  refine pg_st (S' := [ii (bf p), ii (p : Int), ii (sobI (bf p)), .ref 9]) (congrArg (fun z => ii z :: [ii (p : Int), ii (sobI (bf p)), .ref 9]) (hbp)) ?_
                  refine y_i2l (a := bf p) dm_X8_next_166 (pc' := 167) rfl (by omega) (by omega) ?_
                  refine me1 (pc' := 168) (L' := [(4, ii (sobI (bf p))), (3, ii (bh : Int)), (2, ii (byA bf ln (p : Int))), (0, .ref 9), (1, ii (p : Int))]) (S' := [ii (p : Int), .long (Int64.ofInt (bf p)), ii (p : Int), ii (sobI (bf p)), .ref 9]) dm_X8_next_167 rfl rfl rfl rfl ?_
                  refine me0 (pc' := 169) (S' := [ii 1, ii (p : Int), .long (Int64.ofInt (bf p)), ii (p : Int), ii (sobI (bf p)), .ref 9]) dm_X8_next_168 rfl rfl rfl rfl ?_
                  refine y_iadd (a := (p : Int)) (b := 1) dm_X8_next_169 (pc' := 170) rfl ?_
                  refine pg_st (S' := [ii ((p + 1 : Nat) : Int), .long (Int64.ofInt (bf p)), ii (p : Int), ii (sobI (bf p)), .ref 9]) (congrArg (fun z => ii z :: [.long (Int64.ofInt (bf p)), ii (p : Int), ii (sobI (bf p)), .ref 9]) (by omega)) ?_
                  refine x_cn (pc' := 173) (rest := []) dm_X8_next_170 rfl (g_inv (As := [ii (sobI (bf p)), ii (p : Int), .long (Int64.ofInt (bf p)), ii ((p + 1 : Nat) : Int)]) (S := []) h9 rfl rfl rfl (by decide)) rfl rfl rfl (x_addT (so := sobI (bf p)) (pl := (p : Int)) (en := ((p + 1 : Nat) : Int)) (da := Int64.ofInt (bf p)) (by omega) hT hr) ?_
                  rintro h2 ⟨hT2, hF2⟩
                  refine me1 (pc' := 175) (L' := [(4, ii (sobI (bf p))), (3, ii (bh : Int)), (2, ii (byA bf ln (p : Int))), (0, .ref 9), (1, ii (p : Int))]) (S' := [ii (sobI (bf p))]) dm_X8_next_173 rfl rfl rfl rfl ?_
                  refine y_1eq (a := sobI (bf p)) (t := 182) (pc' := 178) dm_X8_next_175 rfl rfl (by omega) (fun hb19 => ?_) (fun hb19 => ?_)
                  · exfalso; omega
                  · refine me0 (pc' := 179) (S' := [ii 1]) dm_X8_next_178 rfl rfl rfl rfl ?_
                    refine me2 (pc' := 183) (S' := [ii 1]) dm_X8_next_179 rfl rfl rfl ?_
                    refine y_ret (r := some (ii 1)) dm_X8_next_183 rfl rfl rfl ?_
                    refine ⟨_, rfl, ?_⟩
                    rw [tkB_sg (by omega) (by omega) (by omega) (by omega)]
                    have h78 : (sobI (bf p)).toNat ≠ 8 := by omega
                    refine ⟨zt h78, Or.inr ⟨h78, ?_, hF2⟩⟩
                    show TK h2 (mk + 1) ((p + 1 : Nat) : Int) ln gd (va_up sf mk (((sobI (bf p)).toNat : Nat) : Int)) (va_up pf mk (p : Int)) bf (va_up df mk (Int64.ofInt (bf p)))
                    rw [show (((sobI (bf p)).toNat : Nat) : Int) = sobI (bf p) by omega]
                    exact hT2
              · refine me1 (pc' := 140) (L' := [(3, ii (bh : Int)), (2, ii (byA bf ln (p : Int))), (0, .ref 9), (1, ii (p : Int))]) (S' := [ii (bh : Int)]) dm_X8_next_139 rfl rfl rfl rfl ?_
                refine me0 (pc' := 141) (S' := [ii 4, ii (bh : Int)]) dm_X8_next_140 rfl rfl rfl rfl ?_
                refine y_2eq (a := (bh : Int)) (b := 4) (t := 150) (pc' := 144) dm_X8_next_141 rfl rfl (by omega) (fun hb20 => ?_) (fun hb20 => ?_)
                · refine me1 (pc' := 151) (L' := [(3, ii (bh : Int)), (2, ii (byA bf ln (p : Int))), (0, .ref 9), (1, ii (p : Int))]) (S' := [ii (byA bf ln (p : Int))]) dm_X8_next_150 rfl rfl rfl rfl ?_
                  refine pg_st (S' := [ii (bf p)]) (congrArg (fun z => ii z :: []) (hbp)) ?_
                  refine y_pr (i := .iadd) (pc' := 154) (S' := [ii (sobI (bf p))]) dm_X8_next_151 rfl (p_sob (by omega) (by omega) rfl) (by omega) rfl ?_
                  refine me1 (pc' := 156) (L' := [(4, ii (sobI (bf p))), (3, ii (bh : Int)), (2, ii (byA bf ln (p : Int))), (0, .ref 9), (1, ii (p : Int))]) (S' := []) dm_X8_next_154 rfl rfl rfl rfl ?_
                  refine me1 (pc' := 158) (L' := [(4, ii (sobI (bf p))), (3, ii (bh : Int)), (2, ii (byA bf ln (p : Int))), (0, .ref 9), (1, ii (p : Int))]) (S' := [ii (sobI (bf p))]) dm_X8_next_156 rfl rfl rfl rfl ?_
                  refine y_1eq (a := sobI (bf p)) (t := 173) (pc' := 161) dm_X8_next_158 rfl rfl (by omega) (fun hb21 => ?_) (fun hb21 => ?_)
                  · refine me1 (pc' := 175) (L' := [(4, ii (sobI (bf p))), (3, ii (bh : Int)), (2, ii (byA bf ln (p : Int))), (0, .ref 9), (1, ii (p : Int))]) (S' := [ii (sobI (bf p))]) dm_X8_next_173 rfl rfl rfl rfl ?_
                    refine y_1eq (a := sobI (bf p)) (t := 182) (pc' := 178) dm_X8_next_175 rfl rfl (by omega) (fun hb22 => ?_) (fun hb22 => ?_)
                    · refine me0 (pc' := 183) (S' := [ii 0]) dm_X8_next_182 rfl rfl rfl rfl ?_
                      refine y_ret (r := some (ii 0)) dm_X8_next_183 rfl rfl rfl ?_
                      refine ⟨_, rfl, ?_⟩
                      rw [tkB_no (by omega) (by omega) (by omega) (by omega)]
                      exact ⟨rfl, Or.inl ⟨rfl, rfl⟩⟩
                    · exfalso; omega
                  · refine me1 (pc' := 162) (L' := [(4, ii (sobI (bf p))), (3, ii (bh : Int)), (2, ii (byA bf ln (p : Int))), (0, .ref 9), (1, ii (p : Int))]) (S' := [.ref 9]) dm_X8_next_161 rfl rfl rfl rfl ?_
                    refine me1 (pc' := 164) (L' := [(4, ii (sobI (bf p))), (3, ii (bh : Int)), (2, ii (byA bf ln (p : Int))), (0, .ref 9), (1, ii (p : Int))]) (S' := [ii (sobI (bf p)), .ref 9]) dm_X8_next_162 rfl rfl rfl rfl ?_
                    refine me1 (pc' := 165) (L' := [(4, ii (sobI (bf p))), (3, ii (bh : Int)), (2, ii (byA bf ln (p : Int))), (0, .ref 9), (1, ii (p : Int))]) (S' := [ii (p : Int), ii (sobI (bf p)), .ref 9]) dm_X8_next_164 rfl rfl rfl rfl ?_
                    refine me1 (pc' := 166) (L' := [(4, ii (sobI (bf p))), (3, ii (bh : Int)), (2, ii (byA bf ln (p : Int))), (0, .ref 9), (1, ii (p : Int))]) (S' := [ii (byA bf ln (p : Int)), ii (p : Int), ii (sobI (bf p)), .ref 9]) dm_X8_next_165 rfl rfl rfl rfl ?_
                    refine pg_st (S' := [ii (bf p), ii (p : Int), ii (sobI (bf p)), .ref 9]) (congrArg (fun z => ii z :: [ii (p : Int), ii (sobI (bf p)), .ref 9]) (hbp)) ?_
                    refine y_i2l (a := bf p) dm_X8_next_166 (pc' := 167) rfl (by omega) (by omega) ?_
                    refine me1 (pc' := 168) (L' := [(4, ii (sobI (bf p))), (3, ii (bh : Int)), (2, ii (byA bf ln (p : Int))), (0, .ref 9), (1, ii (p : Int))]) (S' := [ii (p : Int), .long (Int64.ofInt (bf p)), ii (p : Int), ii (sobI (bf p)), .ref 9]) dm_X8_next_167 rfl rfl rfl rfl ?_
                    refine me0 (pc' := 169) (S' := [ii 1, ii (p : Int), .long (Int64.ofInt (bf p)), ii (p : Int), ii (sobI (bf p)), .ref 9]) dm_X8_next_168 rfl rfl rfl rfl ?_
                    refine y_iadd (a := (p : Int)) (b := 1) dm_X8_next_169 (pc' := 170) rfl ?_
                    refine pg_st (S' := [ii ((p + 1 : Nat) : Int), .long (Int64.ofInt (bf p)), ii (p : Int), ii (sobI (bf p)), .ref 9]) (congrArg (fun z => ii z :: [.long (Int64.ofInt (bf p)), ii (p : Int), ii (sobI (bf p)), .ref 9]) (by omega)) ?_
                    refine x_cn (pc' := 173) (rest := []) dm_X8_next_170 rfl (g_inv (As := [ii (sobI (bf p)), ii (p : Int), .long (Int64.ofInt (bf p)), ii ((p + 1 : Nat) : Int)]) (S := []) h9 rfl rfl rfl (by decide)) rfl rfl rfl (x_addT (so := sobI (bf p)) (pl := (p : Int)) (en := ((p + 1 : Nat) : Int)) (da := Int64.ofInt (bf p)) (by omega) hT hr) ?_
                    rintro h2 ⟨hT2, hF2⟩
                    refine me1 (pc' := 175) (L' := [(4, ii (sobI (bf p))), (3, ii (bh : Int)), (2, ii (byA bf ln (p : Int))), (0, .ref 9), (1, ii (p : Int))]) (S' := [ii (sobI (bf p))]) dm_X8_next_173 rfl rfl rfl rfl ?_
                    refine y_1eq (a := sobI (bf p)) (t := 182) (pc' := 178) dm_X8_next_175 rfl rfl (by omega) (fun hb23 => ?_) (fun hb23 => ?_)
                    · exfalso; omega
                    · refine me0 (pc' := 179) (S' := [ii 1]) dm_X8_next_178 rfl rfl rfl rfl ?_
                      refine me2 (pc' := 183) (S' := [ii 1]) dm_X8_next_179 rfl rfl rfl ?_
                      refine y_ret (r := some (ii 1)) dm_X8_next_183 rfl rfl rfl ?_
                      refine ⟨_, rfl, ?_⟩
                      rw [tkB_sg (by omega) (by omega) (by omega) (by omega)]
                      have h78 : (sobI (bf p)).toNat ≠ 8 := by omega
                      refine ⟨zt h78, Or.inr ⟨h78, ?_, hF2⟩⟩
                      show TK h2 (mk + 1) ((p + 1 : Nat) : Int) ln gd (va_up sf mk (((sobI (bf p)).toNat : Nat) : Int)) (va_up pf mk (p : Int)) bf (va_up df mk (Int64.ofInt (bf p)))
                      rw [show (((sobI (bf p)).toNat : Nat) : Int) = sobI (bf p) by omega]
                      exact hT2
                · refine me1 (pc' := 145) (L' := [(3, ii (bh : Int)), (2, ii (byA bf ln (p : Int))), (0, .ref 9), (1, ii (p : Int))]) (S' := [.ref 9]) dm_X8_next_144 rfl rfl rfl rfl ?_
                  refine me1 (pc' := 146) (L' := [(3, ii (bh : Int)), (2, ii (byA bf ln (p : Int))), (0, .ref 9), (1, ii (p : Int))]) (S' := [ii (p : Int), .ref 9]) dm_X8_next_145 rfl rfl rfl rfl ?_
                  refine x_cv (pc' := 149) (rest := []) dm_X8_next_146 rfl (g_inv (As := [ii (p : Int)]) (S := []) h9 rfl rfl rfl (by decide)) rfl rfl rfl (x_addTextT (pl := p) (by omega) hT hr (by omega) hbf) ?_
                  rintro _ h2 ⟨rfl, hx2⟩
                  refine y_ret (r := some (zz (decide (0 < rnL txB bf ln 60 (p + 1) ∧ byA bf ln ((p + 1 + rnL txB bf ln 60 (p + 1) : Nat) : Int) = 39)))) dm_X8_next_149 (y_retz _) rfl rfl ?_
                  refine ⟨_, rfl, ?_⟩
                  by_cases z : 0 < rnL txB bf ln 60 (p + 1) ∧ byA bf ln ((p + 1 + rnL txB bf ln 60 (p + 1) : Nat) : Int) = 39
                  · rw [if_pos z] at hx2; rw [tkB_tx (by omega) (by omega) z, decide_eq_true z]; exact ⟨rfl, Or.inr ⟨(show (2 : Nat) ≠ 8 by decide), hx2.1, hx2.2⟩⟩
                  · rw [if_neg z] at hx2; rw [tkB_tn (by omega) (by omega) z, decide_eq_false z]; exact ⟨rfl, Or.inl ⟨rfl, hx2⟩⟩
        · refine me1 (pc' := 99) (L' := [(3, ii (bh : Int)), (2, ii (byA bf ln (p : Int))), (0, .ref 9), (1, ii (p : Int))]) (S' := [.ref 9]) dm_X8_next_98 rfl rfl rfl rfl ?_
          refine me1 (pc' := 100) (L' := [(3, ii (bh : Int)), (2, ii (byA bf ln (p : Int))), (0, .ref 9), (1, ii (p : Int))]) (S' := [ii (p : Int), .ref 9]) dm_X8_next_99 rfl rfl rfl rfl ?_
          refine me0 (pc' := 101) (S' := [ii 1, ii (p : Int), .ref 9]) dm_X8_next_100 rfl rfl rfl rfl ?_
          refine y_iadd (a := (p : Int)) (b := 1) dm_X8_next_101 (pc' := 102) rfl ?_
          refine x_cp (pc' := 105) (v := ii (byA bf ln ((p + 1 : Nat) : Int))) (rest := []) dm_X8_next_102 rfl (g_inv (As := [ii ((p : Int) + 1)]) (S := []) h9 rfl rfl rfl (by decide)) rfl rfl rfl ((show _ = ((p + 1 : Nat) : Int) from rfl) ▸ x_byteAtT (i := ((p + 1 : Nat) : Int)) (by omega) hT (by omega)) ?_
          refine y_i2l (a := byA bf ln ((p + 1 : Nat) : Int)) dm_X8_next_105 (pc' := 106) rfl (by omega) (by omega) ?_
          refine x_cp (pc' := 109) (v := zz (decide (48 ≤ (Int64.ofInt (byA bf ln ((p + 1 : Nat) : Int))).toInt ∧ (Int64.ofInt (byA bf ln ((p + 1 : Nat) : Int))).toInt ≤ 57))) (rest := []) dm_X8_next_106 rfl (g_invs (As := [.long (Int64.ofInt (byA bf ln ((p + 1 : Nat) : Int)))]) (S := []) rfl rfl rfl) rfl rfl rfl (a_isDigit (by omega)) ?_
          refine y_zeq (c := decide (48 ≤ (Int64.ofInt (byA bf ln ((p + 1 : Nat) : Int))).toInt ∧ (Int64.ofInt (byA bf ln ((p + 1 : Nat) : Int))).toInt ≤ 57)) (t := 122) (pc' := 112) dm_X8_next_109 rfl rfl (fun hb24 => ?_) (fun hb24 => ?_)
          · replace hb24 := dF hb24
            refine me1 (pc' := 123) (L' := [(3, ii (bh : Int)), (2, ii (byA bf ln (p : Int))), (0, .ref 9), (1, ii (p : Int))]) (S' := [ii (byA bf ln (p : Int))]) dm_X8_next_122 rfl rfl rfl rfl ?_
            refine me0 (pc' := 125) (S' := [ii 39, ii (byA bf ln (p : Int))]) dm_X8_next_123 rfl rfl rfl rfl ?_
            refine y_2ne (a := byA bf ln (p : Int)) (b := 39) (t := 150) (pc' := 128) dm_X8_next_125 rfl rfl (by omega) (fun hb25 => ?_) (fun hb25 => ?_)
            · refine me1 (pc' := 151) (L' := [(3, ii (bh : Int)), (2, ii (byA bf ln (p : Int))), (0, .ref 9), (1, ii (p : Int))]) (S' := [ii (byA bf ln (p : Int))]) dm_X8_next_150 rfl rfl rfl rfl ?_
              refine pg_st (S' := [ii (bf p)]) (congrArg (fun z => ii z :: []) (hbp)) ?_
              refine y_pr (i := .iadd) (pc' := 154) (S' := [ii (sobI (bf p))]) dm_X8_next_151 rfl (p_sob (by omega) (by omega) rfl) (by omega) rfl ?_
              refine me1 (pc' := 156) (L' := [(4, ii (sobI (bf p))), (3, ii (bh : Int)), (2, ii (byA bf ln (p : Int))), (0, .ref 9), (1, ii (p : Int))]) (S' := []) dm_X8_next_154 rfl rfl rfl rfl ?_
              refine me1 (pc' := 158) (L' := [(4, ii (sobI (bf p))), (3, ii (bh : Int)), (2, ii (byA bf ln (p : Int))), (0, .ref 9), (1, ii (p : Int))]) (S' := [ii (sobI (bf p))]) dm_X8_next_156 rfl rfl rfl rfl ?_
              refine y_1eq (a := sobI (bf p)) (t := 173) (pc' := 161) dm_X8_next_158 rfl rfl (by omega) (fun hb26 => ?_) (fun hb26 => ?_)
              · refine me1 (pc' := 175) (L' := [(4, ii (sobI (bf p))), (3, ii (bh : Int)), (2, ii (byA bf ln (p : Int))), (0, .ref 9), (1, ii (p : Int))]) (S' := [ii (sobI (bf p))]) dm_X8_next_173 rfl rfl rfl rfl ?_
                refine y_1eq (a := sobI (bf p)) (t := 182) (pc' := 178) dm_X8_next_175 rfl rfl (by omega) (fun hb27 => ?_) (fun hb27 => ?_)
                · refine me0 (pc' := 183) (S' := [ii 0]) dm_X8_next_182 rfl rfl rfl rfl ?_
                  refine y_ret (r := some (ii 0)) dm_X8_next_183 rfl rfl rfl ?_
                  refine ⟨_, rfl, ?_⟩
                  rw [tkB_no (by omega) (by omega) (by omega) (by omega)]
                  exact ⟨rfl, Or.inl ⟨rfl, rfl⟩⟩
                · exfalso; omega
              · refine me1 (pc' := 162) (L' := [(4, ii (sobI (bf p))), (3, ii (bh : Int)), (2, ii (byA bf ln (p : Int))), (0, .ref 9), (1, ii (p : Int))]) (S' := [.ref 9]) dm_X8_next_161 rfl rfl rfl rfl ?_
                refine me1 (pc' := 164) (L' := [(4, ii (sobI (bf p))), (3, ii (bh : Int)), (2, ii (byA bf ln (p : Int))), (0, .ref 9), (1, ii (p : Int))]) (S' := [ii (sobI (bf p)), .ref 9]) dm_X8_next_162 rfl rfl rfl rfl ?_
                refine me1 (pc' := 165) (L' := [(4, ii (sobI (bf p))), (3, ii (bh : Int)), (2, ii (byA bf ln (p : Int))), (0, .ref 9), (1, ii (p : Int))]) (S' := [ii (p : Int), ii (sobI (bf p)), .ref 9]) dm_X8_next_164 rfl rfl rfl rfl ?_
                refine me1 (pc' := 166) (L' := [(4, ii (sobI (bf p))), (3, ii (bh : Int)), (2, ii (byA bf ln (p : Int))), (0, .ref 9), (1, ii (p : Int))]) (S' := [ii (byA bf ln (p : Int)), ii (p : Int), ii (sobI (bf p)), .ref 9]) dm_X8_next_165 rfl rfl rfl rfl ?_
                refine pg_st (S' := [ii (bf p), ii (p : Int), ii (sobI (bf p)), .ref 9]) (congrArg (fun z => ii z :: [ii (p : Int), ii (sobI (bf p)), .ref 9]) (hbp)) ?_
                refine y_i2l (a := bf p) dm_X8_next_166 (pc' := 167) rfl (by omega) (by omega) ?_
                refine me1 (pc' := 168) (L' := [(4, ii (sobI (bf p))), (3, ii (bh : Int)), (2, ii (byA bf ln (p : Int))), (0, .ref 9), (1, ii (p : Int))]) (S' := [ii (p : Int), .long (Int64.ofInt (bf p)), ii (p : Int), ii (sobI (bf p)), .ref 9]) dm_X8_next_167 rfl rfl rfl rfl ?_
                refine me0 (pc' := 169) (S' := [ii 1, ii (p : Int), .long (Int64.ofInt (bf p)), ii (p : Int), ii (sobI (bf p)), .ref 9]) dm_X8_next_168 rfl rfl rfl rfl ?_
                refine y_iadd (a := (p : Int)) (b := 1) dm_X8_next_169 (pc' := 170) rfl ?_
                refine pg_st (S' := [ii ((p + 1 : Nat) : Int), .long (Int64.ofInt (bf p)), ii (p : Int), ii (sobI (bf p)), .ref 9]) (congrArg (fun z => ii z :: [.long (Int64.ofInt (bf p)), ii (p : Int), ii (sobI (bf p)), .ref 9]) (by omega)) ?_
                refine x_cn (pc' := 173) (rest := []) dm_X8_next_170 rfl (g_inv (As := [ii (sobI (bf p)), ii (p : Int), .long (Int64.ofInt (bf p)), ii ((p + 1 : Nat) : Int)]) (S := []) h9 rfl rfl rfl (by decide)) rfl rfl rfl (x_addT (so := sobI (bf p)) (pl := (p : Int)) (en := ((p + 1 : Nat) : Int)) (da := Int64.ofInt (bf p)) (by omega) hT hr) ?_
                rintro h2 ⟨hT2, hF2⟩
                refine me1 (pc' := 175) (L' := [(4, ii (sobI (bf p))), (3, ii (bh : Int)), (2, ii (byA bf ln (p : Int))), (0, .ref 9), (1, ii (p : Int))]) (S' := [ii (sobI (bf p))]) dm_X8_next_173 rfl rfl rfl rfl ?_
                refine y_1eq (a := sobI (bf p)) (t := 182) (pc' := 178) dm_X8_next_175 rfl rfl (by omega) (fun hb28 => ?_) (fun hb28 => ?_)
                · exfalso; omega
                · refine me0 (pc' := 179) (S' := [ii 1]) dm_X8_next_178 rfl rfl rfl rfl ?_
                  refine me2 (pc' := 183) (S' := [ii 1]) dm_X8_next_179 rfl rfl rfl ?_
                  refine y_ret (r := some (ii 1)) dm_X8_next_183 rfl rfl rfl ?_
                  refine ⟨_, rfl, ?_⟩
                  rw [tkB_sg (by omega) (by omega) (by omega) (by omega)]
                  have h78 : (sobI (bf p)).toNat ≠ 8 := by omega
                  refine ⟨zt h78, Or.inr ⟨h78, ?_, hF2⟩⟩
                  show TK h2 (mk + 1) ((p + 1 : Nat) : Int) ln gd (va_up sf mk (((sobI (bf p)).toNat : Nat) : Int)) (va_up pf mk (p : Int)) bf (va_up df mk (Int64.ofInt (bf p)))
                  rw [show (((sobI (bf p)).toNat : Nat) : Int) = sobI (bf p) by omega]
                  exact hT2
            · refine me1 (pc' := 129) (L' := [(3, ii (bh : Int)), (2, ii (byA bf ln (p : Int))), (0, .ref 9), (1, ii (p : Int))]) (S' := [ii (bh : Int)]) dm_X8_next_128 rfl rfl rfl rfl ?_
              refine me0 (pc' := 130) (S' := [ii 5, ii (bh : Int)]) dm_X8_next_129 rfl rfl rfl rfl ?_
              refine y_2eq (a := (bh : Int)) (b := 5) (t := 150) (pc' := 133) dm_X8_next_130 rfl rfl (by omega) (fun hb29 => ?_) (fun hb29 => ?_)
              · refine me1 (pc' := 151) (L' := [(3, ii (bh : Int)), (2, ii (byA bf ln (p : Int))), (0, .ref 9), (1, ii (p : Int))]) (S' := [ii (byA bf ln (p : Int))]) dm_X8_next_150 rfl rfl rfl rfl ?_
                refine pg_st (S' := [ii (bf p)]) (congrArg (fun z => ii z :: []) (hbp)) ?_
                refine y_pr (i := .iadd) (pc' := 154) (S' := [ii (sobI (bf p))]) dm_X8_next_151 rfl (p_sob (by omega) (by omega) rfl) (by omega) rfl ?_
                refine me1 (pc' := 156) (L' := [(4, ii (sobI (bf p))), (3, ii (bh : Int)), (2, ii (byA bf ln (p : Int))), (0, .ref 9), (1, ii (p : Int))]) (S' := []) dm_X8_next_154 rfl rfl rfl rfl ?_
                refine me1 (pc' := 158) (L' := [(4, ii (sobI (bf p))), (3, ii (bh : Int)), (2, ii (byA bf ln (p : Int))), (0, .ref 9), (1, ii (p : Int))]) (S' := [ii (sobI (bf p))]) dm_X8_next_156 rfl rfl rfl rfl ?_
                refine y_1eq (a := sobI (bf p)) (t := 173) (pc' := 161) dm_X8_next_158 rfl rfl (by omega) (fun hb30 => ?_) (fun hb30 => ?_)
                · refine me1 (pc' := 175) (L' := [(4, ii (sobI (bf p))), (3, ii (bh : Int)), (2, ii (byA bf ln (p : Int))), (0, .ref 9), (1, ii (p : Int))]) (S' := [ii (sobI (bf p))]) dm_X8_next_173 rfl rfl rfl rfl ?_
                  refine y_1eq (a := sobI (bf p)) (t := 182) (pc' := 178) dm_X8_next_175 rfl rfl (by omega) (fun hb31 => ?_) (fun hb31 => ?_)
                  · refine me0 (pc' := 183) (S' := [ii 0]) dm_X8_next_182 rfl rfl rfl rfl ?_
                    refine y_ret (r := some (ii 0)) dm_X8_next_183 rfl rfl rfl ?_
                    refine ⟨_, rfl, ?_⟩
                    rw [tkB_no (by omega) (by omega) (by omega) (by omega)]
                    exact ⟨rfl, Or.inl ⟨rfl, rfl⟩⟩
                  · exfalso; omega
                · refine me1 (pc' := 162) (L' := [(4, ii (sobI (bf p))), (3, ii (bh : Int)), (2, ii (byA bf ln (p : Int))), (0, .ref 9), (1, ii (p : Int))]) (S' := [.ref 9]) dm_X8_next_161 rfl rfl rfl rfl ?_
                  refine me1 (pc' := 164) (L' := [(4, ii (sobI (bf p))), (3, ii (bh : Int)), (2, ii (byA bf ln (p : Int))), (0, .ref 9), (1, ii (p : Int))]) (S' := [ii (sobI (bf p)), .ref 9]) dm_X8_next_162 rfl rfl rfl rfl ?_
                  refine me1 (pc' := 165) (L' := [(4, ii (sobI (bf p))), (3, ii (bh : Int)), (2, ii (byA bf ln (p : Int))), (0, .ref 9), (1, ii (p : Int))]) (S' := [ii (p : Int), ii (sobI (bf p)), .ref 9]) dm_X8_next_164 rfl rfl rfl rfl ?_
                  refine me1 (pc' := 166) (L' := [(4, ii (sobI (bf p))), (3, ii (bh : Int)), (2, ii (byA bf ln (p : Int))), (0, .ref 9), (1, ii (p : Int))]) (S' := [ii (byA bf ln (p : Int)), ii (p : Int), ii (sobI (bf p)), .ref 9]) dm_X8_next_165 rfl rfl rfl rfl ?_
                  refine pg_st (S' := [ii (bf p), ii (p : Int), ii (sobI (bf p)), .ref 9]) (congrArg (fun z => ii z :: [ii (p : Int), ii (sobI (bf p)), .ref 9]) (hbp)) ?_
                  refine y_i2l (a := bf p) dm_X8_next_166 (pc' := 167) rfl (by omega) (by omega) ?_
                  refine me1 (pc' := 168) (L' := [(4, ii (sobI (bf p))), (3, ii (bh : Int)), (2, ii (byA bf ln (p : Int))), (0, .ref 9), (1, ii (p : Int))]) (S' := [ii (p : Int), .long (Int64.ofInt (bf p)), ii (p : Int), ii (sobI (bf p)), .ref 9]) dm_X8_next_167 rfl rfl rfl rfl ?_
                  refine me0 (pc' := 169) (S' := [ii 1, ii (p : Int), .long (Int64.ofInt (bf p)), ii (p : Int), ii (sobI (bf p)), .ref 9]) dm_X8_next_168 rfl rfl rfl rfl ?_
                  refine y_iadd (a := (p : Int)) (b := 1) dm_X8_next_169 (pc' := 170) rfl ?_
                  refine pg_st (S' := [ii ((p + 1 : Nat) : Int), .long (Int64.ofInt (bf p)), ii (p : Int), ii (sobI (bf p)), .ref 9]) (congrArg (fun z => ii z :: [.long (Int64.ofInt (bf p)), ii (p : Int), ii (sobI (bf p)), .ref 9]) (by omega)) ?_
                  refine x_cn (pc' := 173) (rest := []) dm_X8_next_170 rfl (g_inv (As := [ii (sobI (bf p)), ii (p : Int), .long (Int64.ofInt (bf p)), ii ((p + 1 : Nat) : Int)]) (S := []) h9 rfl rfl rfl (by decide)) rfl rfl rfl (x_addT (so := sobI (bf p)) (pl := (p : Int)) (en := ((p + 1 : Nat) : Int)) (da := Int64.ofInt (bf p)) (by omega) hT hr) ?_
                  rintro h2 ⟨hT2, hF2⟩
                  refine me1 (pc' := 175) (L' := [(4, ii (sobI (bf p))), (3, ii (bh : Int)), (2, ii (byA bf ln (p : Int))), (0, .ref 9), (1, ii (p : Int))]) (S' := [ii (sobI (bf p))]) dm_X8_next_173 rfl rfl rfl rfl ?_
                  refine y_1eq (a := sobI (bf p)) (t := 182) (pc' := 178) dm_X8_next_175 rfl rfl (by omega) (fun hb32 => ?_) (fun hb32 => ?_)
                  · exfalso; omega
                  · refine me0 (pc' := 179) (S' := [ii 1]) dm_X8_next_178 rfl rfl rfl rfl ?_
                    refine me2 (pc' := 183) (S' := [ii 1]) dm_X8_next_179 rfl rfl rfl ?_
                    refine y_ret (r := some (ii 1)) dm_X8_next_183 rfl rfl rfl ?_
                    refine ⟨_, rfl, ?_⟩
                    rw [tkB_sg (by omega) (by omega) (by omega) (by omega)]
                    have h78 : (sobI (bf p)).toNat ≠ 8 := by omega
                    refine ⟨zt h78, Or.inr ⟨h78, ?_, hF2⟩⟩
                    show TK h2 (mk + 1) ((p + 1 : Nat) : Int) ln gd (va_up sf mk (((sobI (bf p)).toNat : Nat) : Int)) (va_up pf mk (p : Int)) bf (va_up df mk (Int64.ofInt (bf p)))
                    rw [show (((sobI (bf p)).toNat : Nat) : Int) = sobI (bf p) by omega]
                    exact hT2
              · refine me1 (pc' := 134) (L' := [(3, ii (bh : Int)), (2, ii (byA bf ln (p : Int))), (0, .ref 9), (1, ii (p : Int))]) (S' := [ii (bh : Int)]) dm_X8_next_133 rfl rfl rfl rfl ?_
                refine me0 (pc' := 136) (S' := [ii 6, ii (bh : Int)]) dm_X8_next_134 rfl rfl rfl rfl ?_
                refine y_2eq (a := (bh : Int)) (b := 6) (t := 150) (pc' := 139) dm_X8_next_136 rfl rfl (by omega) (fun hb33 => ?_) (fun hb33 => ?_)
                · refine me1 (pc' := 151) (L' := [(3, ii (bh : Int)), (2, ii (byA bf ln (p : Int))), (0, .ref 9), (1, ii (p : Int))]) (S' := [ii (byA bf ln (p : Int))]) dm_X8_next_150 rfl rfl rfl rfl ?_
                  refine pg_st (S' := [ii (bf p)]) (congrArg (fun z => ii z :: []) (hbp)) ?_
                  refine y_pr (i := .iadd) (pc' := 154) (S' := [ii (sobI (bf p))]) dm_X8_next_151 rfl (p_sob (by omega) (by omega) rfl) (by omega) rfl ?_
                  refine me1 (pc' := 156) (L' := [(4, ii (sobI (bf p))), (3, ii (bh : Int)), (2, ii (byA bf ln (p : Int))), (0, .ref 9), (1, ii (p : Int))]) (S' := []) dm_X8_next_154 rfl rfl rfl rfl ?_
                  refine me1 (pc' := 158) (L' := [(4, ii (sobI (bf p))), (3, ii (bh : Int)), (2, ii (byA bf ln (p : Int))), (0, .ref 9), (1, ii (p : Int))]) (S' := [ii (sobI (bf p))]) dm_X8_next_156 rfl rfl rfl rfl ?_
                  refine y_1eq (a := sobI (bf p)) (t := 173) (pc' := 161) dm_X8_next_158 rfl rfl (by omega) (fun hb34 => ?_) (fun hb34 => ?_)
                  · refine me1 (pc' := 175) (L' := [(4, ii (sobI (bf p))), (3, ii (bh : Int)), (2, ii (byA bf ln (p : Int))), (0, .ref 9), (1, ii (p : Int))]) (S' := [ii (sobI (bf p))]) dm_X8_next_173 rfl rfl rfl rfl ?_
                    refine y_1eq (a := sobI (bf p)) (t := 182) (pc' := 178) dm_X8_next_175 rfl rfl (by omega) (fun hb35 => ?_) (fun hb35 => ?_)
                    · refine me0 (pc' := 183) (S' := [ii 0]) dm_X8_next_182 rfl rfl rfl rfl ?_
                      refine y_ret (r := some (ii 0)) dm_X8_next_183 rfl rfl rfl ?_
                      refine ⟨_, rfl, ?_⟩
                      rw [tkB_no (by omega) (by omega) (by omega) (by omega)]
                      exact ⟨rfl, Or.inl ⟨rfl, rfl⟩⟩
                    · exfalso; omega
                  · refine me1 (pc' := 162) (L' := [(4, ii (sobI (bf p))), (3, ii (bh : Int)), (2, ii (byA bf ln (p : Int))), (0, .ref 9), (1, ii (p : Int))]) (S' := [.ref 9]) dm_X8_next_161 rfl rfl rfl rfl ?_
                    refine me1 (pc' := 164) (L' := [(4, ii (sobI (bf p))), (3, ii (bh : Int)), (2, ii (byA bf ln (p : Int))), (0, .ref 9), (1, ii (p : Int))]) (S' := [ii (sobI (bf p)), .ref 9]) dm_X8_next_162 rfl rfl rfl rfl ?_
                    refine me1 (pc' := 165) (L' := [(4, ii (sobI (bf p))), (3, ii (bh : Int)), (2, ii (byA bf ln (p : Int))), (0, .ref 9), (1, ii (p : Int))]) (S' := [ii (p : Int), ii (sobI (bf p)), .ref 9]) dm_X8_next_164 rfl rfl rfl rfl ?_
                    refine me1 (pc' := 166) (L' := [(4, ii (sobI (bf p))), (3, ii (bh : Int)), (2, ii (byA bf ln (p : Int))), (0, .ref 9), (1, ii (p : Int))]) (S' := [ii (byA bf ln (p : Int)), ii (p : Int), ii (sobI (bf p)), .ref 9]) dm_X8_next_165 rfl rfl rfl rfl ?_
                    refine pg_st (S' := [ii (bf p), ii (p : Int), ii (sobI (bf p)), .ref 9]) (congrArg (fun z => ii z :: [ii (p : Int), ii (sobI (bf p)), .ref 9]) (hbp)) ?_
                    refine y_i2l (a := bf p) dm_X8_next_166 (pc' := 167) rfl (by omega) (by omega) ?_
                    refine me1 (pc' := 168) (L' := [(4, ii (sobI (bf p))), (3, ii (bh : Int)), (2, ii (byA bf ln (p : Int))), (0, .ref 9), (1, ii (p : Int))]) (S' := [ii (p : Int), .long (Int64.ofInt (bf p)), ii (p : Int), ii (sobI (bf p)), .ref 9]) dm_X8_next_167 rfl rfl rfl rfl ?_
                    refine me0 (pc' := 169) (S' := [ii 1, ii (p : Int), .long (Int64.ofInt (bf p)), ii (p : Int), ii (sobI (bf p)), .ref 9]) dm_X8_next_168 rfl rfl rfl rfl ?_
                    refine y_iadd (a := (p : Int)) (b := 1) dm_X8_next_169 (pc' := 170) rfl ?_
                    refine pg_st (S' := [ii ((p + 1 : Nat) : Int), .long (Int64.ofInt (bf p)), ii (p : Int), ii (sobI (bf p)), .ref 9]) (congrArg (fun z => ii z :: [.long (Int64.ofInt (bf p)), ii (p : Int), ii (sobI (bf p)), .ref 9]) (by omega)) ?_
                    refine x_cn (pc' := 173) (rest := []) dm_X8_next_170 rfl (g_inv (As := [ii (sobI (bf p)), ii (p : Int), .long (Int64.ofInt (bf p)), ii ((p + 1 : Nat) : Int)]) (S := []) h9 rfl rfl rfl (by decide)) rfl rfl rfl (x_addT (so := sobI (bf p)) (pl := (p : Int)) (en := ((p + 1 : Nat) : Int)) (da := Int64.ofInt (bf p)) (by omega) hT hr) ?_
                    rintro h2 ⟨hT2, hF2⟩
                    refine me1 (pc' := 175) (L' := [(4, ii (sobI (bf p))), (3, ii (bh : Int)), (2, ii (byA bf ln (p : Int))), (0, .ref 9), (1, ii (p : Int))]) (S' := [ii (sobI (bf p))]) dm_X8_next_173 rfl rfl rfl rfl ?_
                    refine y_1eq (a := sobI (bf p)) (t := 182) (pc' := 178) dm_X8_next_175 rfl rfl (by omega) (fun hb36 => ?_) (fun hb36 => ?_)
                    · exfalso; omega
                    · refine me0 (pc' := 179) (S' := [ii 1]) dm_X8_next_178 rfl rfl rfl rfl ?_
                      refine me2 (pc' := 183) (S' := [ii 1]) dm_X8_next_179 rfl rfl rfl ?_
                      refine y_ret (r := some (ii 1)) dm_X8_next_183 rfl rfl rfl ?_
                      refine ⟨_, rfl, ?_⟩
                      rw [tkB_sg (by omega) (by omega) (by omega) (by omega)]
                      have h78 : (sobI (bf p)).toNat ≠ 8 := by omega
                      refine ⟨zt h78, Or.inr ⟨h78, ?_, hF2⟩⟩
                      show TK h2 (mk + 1) ((p + 1 : Nat) : Int) ln gd (va_up sf mk (((sobI (bf p)).toNat : Nat) : Int)) (va_up pf mk (p : Int)) bf (va_up df mk (Int64.ofInt (bf p)))
                      rw [show (((sobI (bf p)).toNat : Nat) : Int) = sobI (bf p) by omega]
                      exact hT2
                · refine me1 (pc' := 140) (L' := [(3, ii (bh : Int)), (2, ii (byA bf ln (p : Int))), (0, .ref 9), (1, ii (p : Int))]) (S' := [ii (bh : Int)]) dm_X8_next_139 rfl rfl rfl rfl ?_
                  refine me0 (pc' := 141) (S' := [ii 4, ii (bh : Int)]) dm_X8_next_140 rfl rfl rfl rfl ?_
                  refine y_2eq (a := (bh : Int)) (b := 4) (t := 150) (pc' := 144) dm_X8_next_141 rfl rfl (by omega) (fun hb37 => ?_) (fun hb37 => ?_)
                  · refine me1 (pc' := 151) (L' := [(3, ii (bh : Int)), (2, ii (byA bf ln (p : Int))), (0, .ref 9), (1, ii (p : Int))]) (S' := [ii (byA bf ln (p : Int))]) dm_X8_next_150 rfl rfl rfl rfl ?_
                    refine pg_st (S' := [ii (bf p)]) (congrArg (fun z => ii z :: []) (hbp)) ?_
                    refine y_pr (i := .iadd) (pc' := 154) (S' := [ii (sobI (bf p))]) dm_X8_next_151 rfl (p_sob (by omega) (by omega) rfl) (by omega) rfl ?_
                    refine me1 (pc' := 156) (L' := [(4, ii (sobI (bf p))), (3, ii (bh : Int)), (2, ii (byA bf ln (p : Int))), (0, .ref 9), (1, ii (p : Int))]) (S' := []) dm_X8_next_154 rfl rfl rfl rfl ?_
                    refine me1 (pc' := 158) (L' := [(4, ii (sobI (bf p))), (3, ii (bh : Int)), (2, ii (byA bf ln (p : Int))), (0, .ref 9), (1, ii (p : Int))]) (S' := [ii (sobI (bf p))]) dm_X8_next_156 rfl rfl rfl rfl ?_
                    refine y_1eq (a := sobI (bf p)) (t := 173) (pc' := 161) dm_X8_next_158 rfl rfl (by omega) (fun hb38 => ?_) (fun hb38 => ?_)
                    · refine me1 (pc' := 175) (L' := [(4, ii (sobI (bf p))), (3, ii (bh : Int)), (2, ii (byA bf ln (p : Int))), (0, .ref 9), (1, ii (p : Int))]) (S' := [ii (sobI (bf p))]) dm_X8_next_173 rfl rfl rfl rfl ?_
                      refine y_1eq (a := sobI (bf p)) (t := 182) (pc' := 178) dm_X8_next_175 rfl rfl (by omega) (fun hb39 => ?_) (fun hb39 => ?_)
                      · refine me0 (pc' := 183) (S' := [ii 0]) dm_X8_next_182 rfl rfl rfl rfl ?_
                        refine y_ret (r := some (ii 0)) dm_X8_next_183 rfl rfl rfl ?_
                        refine ⟨_, rfl, ?_⟩
                        rw [tkB_no (by omega) (by omega) (by omega) (by omega)]
                        exact ⟨rfl, Or.inl ⟨rfl, rfl⟩⟩
                      · exfalso; omega
                    · refine me1 (pc' := 162) (L' := [(4, ii (sobI (bf p))), (3, ii (bh : Int)), (2, ii (byA bf ln (p : Int))), (0, .ref 9), (1, ii (p : Int))]) (S' := [.ref 9]) dm_X8_next_161 rfl rfl rfl rfl ?_
                      refine me1 (pc' := 164) (L' := [(4, ii (sobI (bf p))), (3, ii (bh : Int)), (2, ii (byA bf ln (p : Int))), (0, .ref 9), (1, ii (p : Int))]) (S' := [ii (sobI (bf p)), .ref 9]) dm_X8_next_162 rfl rfl rfl rfl ?_
                      refine me1 (pc' := 165) (L' := [(4, ii (sobI (bf p))), (3, ii (bh : Int)), (2, ii (byA bf ln (p : Int))), (0, .ref 9), (1, ii (p : Int))]) (S' := [ii (p : Int), ii (sobI (bf p)), .ref 9]) dm_X8_next_164 rfl rfl rfl rfl ?_
                      refine me1 (pc' := 166) (L' := [(4, ii (sobI (bf p))), (3, ii (bh : Int)), (2, ii (byA bf ln (p : Int))), (0, .ref 9), (1, ii (p : Int))]) (S' := [ii (byA bf ln (p : Int)), ii (p : Int), ii (sobI (bf p)), .ref 9]) dm_X8_next_165 rfl rfl rfl rfl ?_
                      refine pg_st (S' := [ii (bf p), ii (p : Int), ii (sobI (bf p)), .ref 9]) (congrArg (fun z => ii z :: [ii (p : Int), ii (sobI (bf p)), .ref 9]) (hbp)) ?_
                      refine y_i2l (a := bf p) dm_X8_next_166 (pc' := 167) rfl (by omega) (by omega) ?_
                      refine me1 (pc' := 168) (L' := [(4, ii (sobI (bf p))), (3, ii (bh : Int)), (2, ii (byA bf ln (p : Int))), (0, .ref 9), (1, ii (p : Int))]) (S' := [ii (p : Int), .long (Int64.ofInt (bf p)), ii (p : Int), ii (sobI (bf p)), .ref 9]) dm_X8_next_167 rfl rfl rfl rfl ?_
                      refine me0 (pc' := 169) (S' := [ii 1, ii (p : Int), .long (Int64.ofInt (bf p)), ii (p : Int), ii (sobI (bf p)), .ref 9]) dm_X8_next_168 rfl rfl rfl rfl ?_
                      refine y_iadd (a := (p : Int)) (b := 1) dm_X8_next_169 (pc' := 170) rfl ?_
                      refine pg_st (S' := [ii ((p + 1 : Nat) : Int), .long (Int64.ofInt (bf p)), ii (p : Int), ii (sobI (bf p)), .ref 9]) (congrArg (fun z => ii z :: [.long (Int64.ofInt (bf p)), ii (p : Int), ii (sobI (bf p)), .ref 9]) (by omega)) ?_
                      refine x_cn (pc' := 173) (rest := []) dm_X8_next_170 rfl (g_inv (As := [ii (sobI (bf p)), ii (p : Int), .long (Int64.ofInt (bf p)), ii ((p + 1 : Nat) : Int)]) (S := []) h9 rfl rfl rfl (by decide)) rfl rfl rfl (x_addT (so := sobI (bf p)) (pl := (p : Int)) (en := ((p + 1 : Nat) : Int)) (da := Int64.ofInt (bf p)) (by omega) hT hr) ?_
                      rintro h2 ⟨hT2, hF2⟩
                      refine me1 (pc' := 175) (L' := [(4, ii (sobI (bf p))), (3, ii (bh : Int)), (2, ii (byA bf ln (p : Int))), (0, .ref 9), (1, ii (p : Int))]) (S' := [ii (sobI (bf p))]) dm_X8_next_173 rfl rfl rfl rfl ?_
                      refine y_1eq (a := sobI (bf p)) (t := 182) (pc' := 178) dm_X8_next_175 rfl rfl (by omega) (fun hb40 => ?_) (fun hb40 => ?_)
                      · exfalso; omega
                      · refine me0 (pc' := 179) (S' := [ii 1]) dm_X8_next_178 rfl rfl rfl rfl ?_
                        refine me2 (pc' := 183) (S' := [ii 1]) dm_X8_next_179 rfl rfl rfl ?_
                        refine y_ret (r := some (ii 1)) dm_X8_next_183 rfl rfl rfl ?_
                        refine ⟨_, rfl, ?_⟩
                        rw [tkB_sg (by omega) (by omega) (by omega) (by omega)]
                        have h78 : (sobI (bf p)).toNat ≠ 8 := by omega
                        refine ⟨zt h78, Or.inr ⟨h78, ?_, hF2⟩⟩
                        show TK h2 (mk + 1) ((p + 1 : Nat) : Int) ln gd (va_up sf mk (((sobI (bf p)).toNat : Nat) : Int)) (va_up pf mk (p : Int)) bf (va_up df mk (Int64.ofInt (bf p)))
                        rw [show (((sobI (bf p)).toNat : Nat) : Int) = sobI (bf p) by omega]
                        exact hT2
                  · refine me1 (pc' := 145) (L' := [(3, ii (bh : Int)), (2, ii (byA bf ln (p : Int))), (0, .ref 9), (1, ii (p : Int))]) (S' := [.ref 9]) dm_X8_next_144 rfl rfl rfl rfl ?_
                    refine me1 (pc' := 146) (L' := [(3, ii (bh : Int)), (2, ii (byA bf ln (p : Int))), (0, .ref 9), (1, ii (p : Int))]) (S' := [ii (p : Int), .ref 9]) dm_X8_next_145 rfl rfl rfl rfl ?_
                    refine x_cv (pc' := 149) (rest := []) dm_X8_next_146 rfl (g_inv (As := [ii (p : Int)]) (S := []) h9 rfl rfl rfl (by decide)) rfl rfl rfl (x_addTextT (pl := p) (by omega) hT hr (by omega) hbf) ?_
                    rintro _ h2 ⟨rfl, hx2⟩
                    refine y_ret (r := some (zz (decide (0 < rnL txB bf ln 60 (p + 1) ∧ byA bf ln ((p + 1 + rnL txB bf ln 60 (p + 1) : Nat) : Int) = 39)))) dm_X8_next_149 (y_retz _) rfl rfl ?_
                    refine ⟨_, rfl, ?_⟩
                    by_cases z : 0 < rnL txB bf ln 60 (p + 1) ∧ byA bf ln ((p + 1 + rnL txB bf ln 60 (p + 1) : Nat) : Int) = 39
                    · rw [if_pos z] at hx2; rw [tkB_tx (by omega) (by omega) z, decide_eq_true z]; exact ⟨rfl, Or.inr ⟨(show (2 : Nat) ≠ 8 by decide), hx2.1, hx2.2⟩⟩
                    · rw [if_neg z] at hx2; rw [tkB_tn (by omega) (by omega) z, decide_eq_false z]; exact ⟨rfl, Or.inl ⟨rfl, hx2⟩⟩
          · replace hb24 := dT hb24
            refine me1 (pc' := 113) (L' := [(3, ii (bh : Int)), (2, ii (byA bf ln (p : Int))), (0, .ref 9), (1, ii (p : Int))]) (S' := [.ref 9]) dm_X8_next_112 rfl rfl rfl rfl ?_
            refine me1 (pc' := 114) (L' := [(3, ii (bh : Int)), (2, ii (byA bf ln (p : Int))), (0, .ref 9), (1, ii (p : Int))]) (S' := [ii (p : Int), .ref 9]) dm_X8_next_113 rfl rfl rfl rfl ?_
            refine me1 (pc' := 115) (L' := [(3, ii (bh : Int)), (2, ii (byA bf ln (p : Int))), (0, .ref 9), (1, ii (p : Int))]) (S' := [ii (p : Int), ii (p : Int), .ref 9]) dm_X8_next_114 rfl rfl rfl rfl ?_
            refine me0 (pc' := 116) (S' := [ii 1, ii (p : Int), ii (p : Int), .ref 9]) dm_X8_next_115 rfl rfl rfl rfl ?_
            refine y_iadd (a := (p : Int)) (b := 1) dm_X8_next_116 (pc' := 117) rfl ?_
            refine x_cn (pc' := 120) (rest := []) dm_X8_next_117 rfl (g_inv (As := [ii (p : Int), ii ((p : Int) + 1)]) (S := []) h9 rfl rfl rfl (by decide)) rfl rfl rfl (x_addNumberT (pl := p) (fr := p + 1) (by omega) hT hr (by omega) hbf) ?_
            rintro h2 ⟨hT2, hF2⟩
            rw [if_neg (by omega)] at hT2
            refine me0 (pc' := 121) (S' := [ii 1]) dm_X8_next_120 rfl rfl rfl rfl ?_
            refine y_ret (r := some (ii 1)) dm_X8_next_121 rfl rfl rfl ?_
            refine ⟨_, rfl, ?_⟩
            rw [tkB_ng (by omega) (by omega)]
            exact ⟨rfl, Or.inr ⟨(show (1 : Nat) ≠ 8 by decide), (by show TK h2 _ _ ln gd _ _ bf (va_up df mk (Int64.ofInt (- dvI bf (p + 1) (rnL dgB bf ln 18 (p + 1))))); rw [Int64.ofInt_neg]; exact hT2), hF2⟩⟩
      · replace hb6 := dT hb6
        refine me1 (pc' := 52) (L' := [(3, ii (bh : Int)), (2, ii (byA bf ln (p : Int))), (0, .ref 9), (1, ii (p : Int))]) (S' := [ii (bh : Int)]) dm_X8_next_51 rfl rfl rfl rfl ?_
        refine me0 (pc' := 53) (S' := [ii 1, ii (bh : Int)]) dm_X8_next_52 rfl rfl rfl rfl ?_
        refine y_2eq (a := (bh : Int)) (b := 1) (t := 66) (pc' := 56) dm_X8_next_53 rfl rfl (by omega) (fun hb41 => ?_) (fun hb41 => ?_)
        · refine me0 (pc' := 67) (S' := [ii 0]) dm_X8_next_66 rfl rfl rfl rfl ?_
          refine y_ret (r := some (ii 0)) dm_X8_next_67 rfl rfl rfl ?_
          refine ⟨_, rfl, ?_⟩
          rw [tkB_bad (by omega) (by omega)]
          exact ⟨rfl, Or.inl ⟨rfl, rfl⟩⟩
        · refine me1 (pc' := 57) (L' := [(3, ii (bh : Int)), (2, ii (byA bf ln (p : Int))), (0, .ref 9), (1, ii (p : Int))]) (S' := [ii (bh : Int)]) dm_X8_next_56 rfl rfl rfl rfl ?_
          refine me0 (pc' := 58) (S' := [ii 3, ii (bh : Int)]) dm_X8_next_57 rfl rfl rfl rfl ?_
          refine y_2eq (a := (bh : Int)) (b := 3) (t := 66) (pc' := 61) dm_X8_next_58 rfl rfl (by omega) (fun hb42 => ?_) (fun hb42 => ?_)
          · refine me0 (pc' := 67) (S' := [ii 0]) dm_X8_next_66 rfl rfl rfl rfl ?_
            refine y_ret (r := some (ii 0)) dm_X8_next_67 rfl rfl rfl ?_
            refine ⟨_, rfl, ?_⟩
            rw [tkB_bad (by omega) (by omega)]
            exact ⟨rfl, Or.inl ⟨rfl, rfl⟩⟩
          · refine me1 (pc' := 62) (L' := [(3, ii (bh : Int)), (2, ii (byA bf ln (p : Int))), (0, .ref 9), (1, ii (p : Int))]) (S' := [ii (bh : Int)]) dm_X8_next_61 rfl rfl rfl rfl ?_
            refine me0 (pc' := 63) (S' := [ii 4, ii (bh : Int)]) dm_X8_next_62 rfl rfl rfl rfl ?_
            refine y_2ne (a := (bh : Int)) (b := 4) (t := 68) (pc' := 66) dm_X8_next_63 rfl rfl (by omega) (fun hb43 => ?_) (fun hb43 => ?_)
            · refine me1 (pc' := 69) (L' := [(3, ii (bh : Int)), (2, ii (byA bf ln (p : Int))), (0, .ref 9), (1, ii (p : Int))]) (S' := [ii (byA bf ln (p : Int))]) dm_X8_next_68 rfl rfl rfl rfl ?_
              refine y_i2l (a := byA bf ln (p : Int)) dm_X8_next_69 (pc' := 70) rfl (by omega) (by omega) ?_
              refine x_cp (pc' := 73) (v := zz (decide (48 ≤ (Int64.ofInt (byA bf ln (p : Int))).toInt ∧ (Int64.ofInt (byA bf ln (p : Int))).toInt ≤ 57))) (rest := []) dm_X8_next_70 rfl (g_invs (As := [.long (Int64.ofInt (byA bf ln (p : Int)))]) (S := []) rfl rfl rfl) rfl rfl rfl (a_isDigit (by omega)) ?_
              refine y_zeq (c := decide (48 ≤ (Int64.ofInt (byA bf ln (p : Int))).toInt ∧ (Int64.ofInt (byA bf ln (p : Int))).toInt ≤ 57)) (t := 85) (pc' := 76) dm_X8_next_73 rfl rfl (fun hb44 => ?_) (fun hb44 => ?_)
              · replace hb44 := dF hb44
                refine me1 (pc' := 86) (L' := [(3, ii (bh : Int)), (2, ii (byA bf ln (p : Int))), (0, .ref 9), (1, ii (p : Int))]) (S' := [.ref 9]) dm_X8_next_85 rfl rfl rfl rfl ?_
                refine me1 (pc' := 87) (L' := [(3, ii (bh : Int)), (2, ii (byA bf ln (p : Int))), (0, .ref 9), (1, ii (p : Int))]) (S' := [ii (p : Int), .ref 9]) dm_X8_next_86 rfl rfl rfl rfl ?_
                refine x_cn (pc' := 90) (rest := []) dm_X8_next_87 rfl (g_inv (As := [ii (p : Int)]) (S := []) h9 rfl rfl rfl (by decide)) rfl rfl rfl (x_addNameT (pl := p) (by omega) hT hN hr (by omega) hbf hsI) ?_
                rintro h2 ⟨hT2, hF2⟩
                refine me0 (pc' := 91) (S' := [ii 1]) dm_X8_next_90 rfl rfl rfl rfl ?_
                refine y_ret (r := some (ii 1)) dm_X8_next_91 rfl rfl rfl ?_
                refine ⟨_, rfl, ?_⟩
                rw [tkB_lt (by omega) (by omega)]
                have h48 : (if (fnT mk sf df jf m) (ckI bf p (rnL ltB bf ln 8 p)) = true then 4 else 3 : Nat) ≠ 8 := by split <;> decide
                refine ⟨zt h48, Or.inr ⟨h48, ?_, hF2⟩⟩
                · rw [show (((if (fnT mk sf df jf m) (ckI bf p (rnL ltB bf ln 8 p)) = true then 4 else 3 : Nat) : Nat) : Int) = if (fnT mk sf df jf m) (ckI bf p (rnL ltB bf ln 8 p)) = true then 4 else 3 by split <;> rfl]; exact hT2
              · replace hb44 := dT hb44
                refine me1 (pc' := 77) (L' := [(3, ii (bh : Int)), (2, ii (byA bf ln (p : Int))), (0, .ref 9), (1, ii (p : Int))]) (S' := [.ref 9]) dm_X8_next_76 rfl rfl rfl rfl ?_
                refine me1 (pc' := 78) (L' := [(3, ii (bh : Int)), (2, ii (byA bf ln (p : Int))), (0, .ref 9), (1, ii (p : Int))]) (S' := [ii (p : Int), .ref 9]) dm_X8_next_77 rfl rfl rfl rfl ?_
                refine me1 (pc' := 79) (L' := [(3, ii (bh : Int)), (2, ii (byA bf ln (p : Int))), (0, .ref 9), (1, ii (p : Int))]) (S' := [ii (p : Int), ii (p : Int), .ref 9]) dm_X8_next_78 rfl rfl rfl rfl ?_
                refine x_cn (pc' := 82) (rest := []) dm_X8_next_79 rfl (g_inv (As := [ii (p : Int), ii (p : Int)]) (S := []) h9 rfl rfl rfl (by decide)) rfl rfl rfl (x_addNumberT (pl := p) (fr := p) (by omega) hT hr (by omega) hbf) ?_
                rintro h2 ⟨hT2, hF2⟩
                rw [if_pos (by omega)] at hT2
                refine me2 (pc' := 90) (S' := []) dm_X8_next_82 rfl rfl rfl ?_
                refine me0 (pc' := 91) (S' := [ii 1]) dm_X8_next_90 rfl rfl rfl rfl ?_
                refine y_ret (r := some (ii 1)) dm_X8_next_91 rfl rfl rfl ?_
                refine ⟨_, rfl, ?_⟩
                rw [tkB_dg (by omega) (by omega)]
                exact ⟨rfl, Or.inr ⟨(show (1 : Nat) ≠ 8 by decide), hT2, hF2⟩⟩
            · refine me0 (pc' := 67) (S' := [ii 0]) dm_X8_next_66 rfl rfl rfl rfl ?_
              refine y_ret (r := some (ii 0)) dm_X8_next_67 rfl rfl rfl ?_
              refine ⟨_, rfl, ?_⟩
              rw [tkB_bad (by omega) (by omega)]
              exact ⟨rfl, Or.inl ⟨rfl, rfl⟩⟩
  refine me1 (pc' := 1) (L' := [(0, .ref 9), (1, ii (p : Int))]) (S' := [.ref 9]) dm_X8_next_0 rfl rfl rfl rfl ?_
  refine me1 (pc' := 2) (L' := [(0, .ref 9), (1, ii (p : Int))]) (S' := [ii (p : Int), .ref 9]) dm_X8_next_1 rfl rfl rfl rfl ?_
  refine x_cp (pc' := 5) (v := ii (byA bf ln (p : Int))) (rest := []) dm_X8_next_2 rfl (g_inv (As := [ii (p : Int)]) (S := []) h9 rfl rfl rfl (by decide)) rfl rfl rfl (x_byteAtT (by omega) hT (by omega)) ?_
  refine me1 (pc' := 6) (L' := [(2, ii (byA bf ln (p : Int))), (0, .ref 9), (1, ii (p : Int))]) (S' := []) dm_X8_next_5 rfl rfl rfl rfl ?_
  refine me1 (pc' := 7) (L' := [(2, ii (byA bf ln (p : Int))), (0, .ref 9), (1, ii (p : Int))]) (S' := [.ref 9]) dm_X8_next_6 rfl rfl rfl rfl ?_
  refine me3 (pc' := 10) (S' := [ii (mk : Int)]) dm_X8_next_7 (g_get (v := ii (mk : Int)) h9 rfl rfl (by decide)) rfl rfl rfl ?_
  refine y_1le (a := (mk : Int)) (t := 34) (pc' := 13) dm_X8_next_10 rfl rfl (by omega) (fun hb45 => ?_) (fun hb45 => ?_)
  · refine me0 (pc' := 35) (S' := [ii 0]) dm_X8_next_34 rfl rfl rfl rfl ?_
    refine pg_st (S' := [ii (bh : Int)]) (congrArg (fun z => ii z :: []) (by rw [if_neg (by omega)] at hbh; omega)) ?_
    refine me1 (pc' := 36) (L' := [(3, ii (bh : Int)), (2, ii (byA bf ln (p : Int))), (0, .ref 9), (1, ii (p : Int))]) (S' := []) dm_X8_next_35 rfl rfl rfl rfl ?_
    exact pg_sub (L := [(3, ii (bh : Int)), (2, ii (byA bf ln (p : Int))), (0, .ref 9), (1, ii (p : Int))]) rfl rfl rfl (cut36 )
  · refine me1 (pc' := 14) (L' := [(2, ii (byA bf ln (p : Int))), (0, .ref 9), (1, ii (p : Int))]) (S' := [.ref 9]) dm_X8_next_13 rfl rfl rfl rfl ?_
    refine me3 (pc' := 17) (S' := [ii le_]) dm_X8_next_14 (g_get (v := ii le_) h9 rfl rfl (by decide)) rfl rfl rfl ?_
    refine me1 (pc' := 18) (L' := [(2, ii (byA bf ln (p : Int))), (0, .ref 9), (1, ii (p : Int))]) (S' := [ii (p : Int), ii le_]) dm_X8_next_17 rfl rfl rfl rfl ?_
    refine y_2ne (a := le_) (b := (p : Int)) (t := 34) (pc' := 21) dm_X8_next_18 rfl rfl (by omega) (fun hb46 => ?_) (fun hb46 => ?_)
    · refine me0 (pc' := 35) (S' := [ii 0]) dm_X8_next_34 rfl rfl rfl rfl ?_
      refine pg_st (S' := [ii (bh : Int)]) (congrArg (fun z => ii z :: []) (by rw [if_neg (by omega)] at hbh; omega)) ?_
      refine me1 (pc' := 36) (L' := [(3, ii (bh : Int)), (2, ii (byA bf ln (p : Int))), (0, .ref 9), (1, ii (p : Int))]) (S' := []) dm_X8_next_35 rfl rfl rfl rfl ?_
      exact pg_sub (L := [(3, ii (bh : Int)), (2, ii (byA bf ln (p : Int))), (0, .ref 9), (1, ii (p : Int))]) rfl rfl rfl (cut36 )
    · refine me1 (pc' := 22) (L' := [(2, ii (byA bf ln (p : Int))), (0, .ref 9), (1, ii (p : Int))]) (S' := [.ref 9]) dm_X8_next_21 rfl rfl rfl rfl ?_
      refine me1 (pc' := 23) (L' := [(2, ii (byA bf ln (p : Int))), (0, .ref 9), (1, ii (p : Int))]) (S' := [.ref 9, .ref 9]) dm_X8_next_22 rfl rfl rfl rfl ?_
      refine me3 (pc' := 26) (S' := [ii (mk : Int), .ref 9]) dm_X8_next_23 (g_get (v := ii (mk : Int)) h9 rfl rfl (by decide)) rfl rfl rfl ?_
      refine me0 (pc' := 27) (S' := [ii 1, ii (mk : Int), .ref 9]) dm_X8_next_26 rfl rfl rfl rfl ?_
      refine y_isub (a := (mk : Int)) (b := 1) dm_X8_next_27 (pc' := 28) rfl ?_
      refine x_cp (pc' := 31) (v := ii (tokS mk sf ((mk : Int) - 1))) (rest := []) dm_X8_next_28 rfl (g_inv (As := [ii ((mk : Int) - 1)]) (S := []) h9 rfl rfl rfl (by decide)) rfl rfl rfl (x_sortAtT (by omega) hT (by omega)) ?_
      refine me2 (pc' := 35) (S' := [ii (tokS mk sf ((mk : Int) - 1))]) dm_X8_next_31 rfl rfl rfl ?_
      refine pg_st (S' := [ii (bh : Int)]) (congrArg (fun z => ii z :: []) (by rw [if_pos (by omega)] at hbh; omega)) ?_
      refine me1 (pc' := 36) (L' := [(3, ii (bh : Int)), (2, ii (byA bf ln (p : Int))), (0, .ref 9), (1, ii (p : Int))]) (S' := []) dm_X8_next_35 rfl rfl rfl rfl ?_
      exact pg_sub (L := [(3, ii (bh : Int)), (2, ii (byA bf ln (p : Int))), (0, .ref 9), (1, ii (p : Int))]) rfl rfl rfl (cut36 )
