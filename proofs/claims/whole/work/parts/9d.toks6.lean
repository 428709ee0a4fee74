/-! splitting a line: the tokens made so far are the spec's -/
theorem tkB_fn {bf : Nat → Int} {ln : Nat} {fn gn : Int → Bool} {p bh : Nat} (h : isLtI (bf p) → fn (ckI bf p (rnL ltB bf ln 8 p)) = gn (ckI bf p (rnL ltB bf ln 8 p))) : tkB bf ln fn p bh = tkB bf ln gn p bh := by
  unfold tkB
  by_cases z : isDgI (bf p) ∨ isLtI (bf p)
  · rw [if_pos z, if_pos z]
    by_cases y : isDgI (bf p)
    · rw [if_pos y, if_pos y]
    · rw [if_neg y, if_neg y, h (by omega)]
  · rw [if_neg z, if_neg z]
theorem rnL_run {P : Int → Bool} {f : Nat → Int} {ln : Nat} : ∀ (m i j : Nat), i ≤ j → j < i + rnL P f ln m i → j < ln ∧ P (f j) = true := by
  intro m
  induction m with
  | zero => intro i j h1 h2; exact absurd h2 (by show ¬ j < i + 0; omega)
  | succ m ih =>
    intro i j h1 h2
    by_cases z : i < ln ∧ P (f i) = true
    · have e : rnL P f ln (m + 1) i = rnL P f ln m (i + 1) + 1 := if_pos z
      rw [e] at h2
      by_cases y : j = i
      · rw [y]; exact z
      · exact ih (i + 1) j (by omega) (by omega)
    · have e : rnL P f ln (m + 1) i = 0 := if_neg z
      rw [e] at h2; omega
theorem ck_lt {bf : Nat → Int} {ln p : Nat} : 0 ≤ ckI bf p (rnL ltB bf ln 8 p) ∧ ckI bf p (rnL ltB bf ln 8 p) < 1099511627776 :=
  ck_b (rnL_le 8 p).1 (fun j hj => of_decide_eq_true (rnL_run (P := ltB) (f := bf) (ln := ln) 8 p (p + j) (by omega) (by omega)).2)
/-- the number of a token is a long -/
theorem dv_b {f : Nat → Int} {i : Nat} : ∀ n : Nat, (∀ j, j < n → isDgI (f (i + j))) → 0 ≤ dvI f i n ∧ dvI f i n < 10 ^ n := by
  intro n
  induction n with
  | zero => intro _; exact ⟨Int.le_refl _, (by show (0 : Int) < 10 ^ 0; decide)⟩
  | succ n ih =>
    intro h
    have a := ih (fun j hj => h j (by omega))
    have b := h n (by omega)
    show 0 ≤ dvI f i n * 10 + (f (i + n) - 48) ∧ dvI f i n * 10 + (f (i + n) - 48) < 10 ^ (n + 1)
    rw [Int.pow_succ]
    generalize (10 : Int) ^ n = P at *
    omega
theorem dv_r {bf : Nat → Int} {ln p : Nat} : 0 ≤ dvI bf p (rnL dgB bf ln 18 p) ∧ dvI bf p (rnL dgB bf ln 18 p) < 1000000000000000000 := by
  have a := dv_b (f := bf) (i := p) (rnL dgB bf ln 18 p) (fun j hj => of_decide_eq_true (rnL_run (P := dgB) (f := bf) (ln := ln) 18 p (p + j) (by omega) (by omega)).2)
  have b : ∀ k : Nat, k < 19 → (10 : Int) ^ k ≤ 1000000000000000000 := by decide +kernel
  have c := b (rnL dgB bf ln 18 p) (by have := (rnL_le (P := dgB) (f := bf) (ln := ln) 18 p).1; omega)
  omega
theorem tkB_d {bf : Nat → Int} {ln : Nat} {fn : Int → Bool} {p bh : Nat} (hbf : ∀ j, 0 ≤ bf j ∧ bf j ≤ 255) : -1000000000000000000 < tqD (tkB bf ln fn p bh) ∧ tqD (tkB bf ln fn p bh) < 1000000000000000000 := by
  have a := dv_r (bf := bf) (ln := ln) (p := p)
  have b := dv_r (bf := bf) (ln := ln) (p := p + 1)
  have c := ck_lt (bf := bf) (ln := ln) (p := p)
  have d := (rnL_le (P := txB) (f := bf) (ln := ln) 60 (p + 1)).1
  have e := hbf p
  unfold tkB
  split
  · split
    · exact ⟨show (-1000000000000000000 : Int) < 0 by decide, show (0 : Int) < 1000000000000000000 by decide⟩
    · split
      · exact ⟨show (_ : Int) < dvI bf p (rnL dgB bf ln 18 p) by omega, a.2⟩
      · exact ⟨show (_ : Int) < ckI bf p (rnL ltB bf ln 8 p) by omega, show ckI bf p (rnL ltB bf ln 8 p) < _ by omega⟩
  · split
    · exact ⟨show (_ : Int) < - dvI bf (p + 1) (rnL dgB bf ln 18 (p + 1)) by omega, show - dvI bf (p + 1) (rnL dgB bf ln 18 (p + 1)) < _ by omega⟩
    · split
      · split
        · exact ⟨show (_ : Int) < ((rnL txB bf ln 60 (p + 1) : Nat) : Int) by omega, show ((rnL txB bf ln 60 (p + 1) : Nat) : Int) < _ by omega⟩
        · exact ⟨show (-1000000000000000000 : Int) < 0 by decide, show (0 : Int) < 1000000000000000000 by decide⟩
      · split
        · exact ⟨show (-1000000000000000000 : Int) < 0 by decide, show (0 : Int) < 1000000000000000000 by decide⟩
        · exact ⟨show (_ : Int) < bf p by omega, show bf p < _ by omega⟩
theorem tkI_d {bf : Nat → Int} {ln : Nat} {F : Nat → Int → Bool} {i : Nat} (hbf : ∀ j, 0 ≤ bf j ∧ bf j ≤ 255) : -1000000000000000000 < tqD (tkI bf ln F i) ∧ tqD (tkI bf ln F i) < 1000000000000000000 := by
  unfold tkI tkA
  split
  · exact tkB_d hbf
  · exact ⟨show (-1000000000000000000 : Int) < 0 by decide, show (0 : Int) < 1000000000000000000 by decide⟩
theorem tkI_8 {bf : Nat → Int} {ln : Nat} {F : Nat → Int → Bool} {i : Nat} : tqS (tkI bf ln F i) ≤ 8 := by
  unfold tkI tkA
  split
  · by_cases z : tqS (tkB bf ln (F i) (skB bf ln (tkQ bf ln F i).1) (if skB bf ln (tkQ bf ln F i).1 = (tkQ bf ln F i).1 then (tkQ bf ln F i).2 else 0)) = 8
    · exact Nat.le_of_eq z
    · exact Nat.le_trans (tkB_e (by assumption) z).2.2.2.2 (by decide)
  · exact Nat.zero_le _
/-- the tokens made are the spec's -/
def tkO (bf : Nat → Int) (n : Nat) (F : Nat → Int → Bool) (mk : Nat) (sf pf : Nat → Int) (df : Nat → Int64) : Prop := ∀ j, j < mk → sf j = ((tqS (tkI bf n F j) : Nat) : Int) ∧ pf j = ((tqP (tkI bf n F j) : Nat) : Int) ∧ df j = Int64.ofInt (tqD (tkI bf n F j)) ∧ tqS (tkI bf n F j) ≠ 0 ∧ tqS (tkI bf n F j) ≠ 8
def SPI (bf : Nat → Int) (n : Nat) (F : Nat → Int → Bool) (mk at_ le : Nat) (gd : Bool) (sf pf : Nat → Int) (df : Nat → Int64) : Prop := tkO bf n F mk sf pf df ∧ tkQ bf n F mk = (le, if mk = 0 then 0 else (sf (mk - 1)).toNat) ∧ le ≤ at_ ∧ at_ ≤ n ∧ (∀ j, le ≤ j → j < at_ → bf j = 32) ∧ mk ≤ at_ ∧ (∀ j, 0 ≤ sf j ∧ sf j ≤ 7) ∧ (gd = false → at_ < n ∧ bf at_ ≠ 32 ∧ tqS (tkI bf n F mk) = 8)
/-- what is behind a place that is no blank: the sort of the token that ends there -/
def bhO (mk at_ le : Nat) (sf : Nat → Int) : Nat := if at_ = le then (if mk = 0 then 0 else (sf (mk - 1)).toNat) else 0
section SPIs
variable {bf : Nat → Int} {n : Nat} {F : Nat → Int → Bool} {mk at_ le : Nat} {gd : Bool} {sf pf : Nat → Int} {df : Nat → Int64}
theorem SPI_0 (hs : ∀ j, 0 ≤ sf j ∧ sf j ≤ 7) : SPI bf n F 0 0 0 true sf pf df := ⟨fun j hj => absurd hj (by omega), rfl, Nat.le_refl _, Nat.zero_le _, fun j a b => absurd b (by omega), Nat.le_refl _, hs, fun z => by cases z⟩
theorem SPI_bl (h : SPI bf n F mk at_ le true sf pf df) (hn : at_ < n) (hb : bf at_ = 32) : SPI bf n F mk (at_ + 1) le true sf pf df := by
  obtain ⟨h1, h2, h3, h4, h5, h6, h7, h8⟩ := h
  exact ⟨h1, h2, by omega, by omega, fun j a b => by by_cases z : j = at_; (rw [z]; exact hb); exact h5 j a (by omega), by omega, h7, fun z => by cases z⟩
theorem SPI_tk (h : SPI bf n F mk at_ le gd sf pf df) (hn : at_ < n) (hb : bf at_ ≠ 32) : tkI bf n F mk = tkB bf n (F mk) at_ (bhO mk at_ le sf) := by
  obtain ⟨h1, h2, h3, h4, h5, h6, h7, h8⟩ := h
  have e : skB bf n le = at_ := skB_eq h3 h4 h5 (fun _ => hb)
  unfold tkI tkA
  rw [h2]
  show (if skB bf n le < n then tkB bf n (F mk) (skB bf n le) (if skB bf n le = le then (if mk = 0 then 0 else (sf (mk - 1)).toNat) else 0) else _) = _
  rw [e, if_pos hn]
  rfl
theorem SPI_bh (h : SPI bf n F mk at_ le gd sf pf df) : ((bhO mk at_ le sf : Nat) : Int) = if 0 < mk ∧ (le : Int) = (at_ : Int) then tokS mk sf ((mk : Int) - 1) else 0 := by
  have h7 := h.2.2.2.2.2.2.1 (mk - 1)
  unfold bhO
  by_cases z : at_ = le
  · rw [if_pos z]
    by_cases y : mk = 0
    · rw [if_pos y, if_neg (by omega)]; rfl
    · rw [if_neg y, if_pos (by omega)]
      unfold tokS
      rw [if_pos (by omega), show ((mk : Int) - 1).toNat = mk - 1 by omega]
      omega
  · rw [if_neg z, if_neg (by omega)]; rfl
theorem SPI_nx (h : SPI bf n F mk at_ le true sf pf df) (hn : at_ < n) (hb : bf at_ ≠ 32) (h8 : tqS (tkI bf n F mk) ≠ 8) : SPI bf n F (mk + 1) (tqE (tkI bf n F mk)) (tqE (tkI bf n F mk)) true (va_up sf mk ((tqS (tkI bf n F mk) : Nat) : Int)) (va_up pf mk ((tqP (tkI bf n F mk) : Nat) : Int)) (va_up df mk (Int64.ofInt (tqD (tkI bf n F mk)))) := by
  have e := SPI_tk h hn hb
  have q := e ▸ tkB_e (bf := bf) (fn := F mk) (bh := bhO mk at_ le sf) hn (e ▸ h8)
  obtain ⟨h1, h2, h3, h4, h5, h6, h7, _⟩ := h
  refine ⟨?_, ?_, Nat.le_refl _, q.2.2.1, fun j a b => absurd b (by omega), by omega, ?_, fun z => by cases z⟩
  · intro j hj
    by_cases z : j = mk
    · rw [z, up_eq, up_eq, up_eq]
      exact ⟨rfl, rfl, rfl, by omega, h8⟩
    · rw [up_ne _ _ z, up_ne _ _ z, up_ne _ _ z]
      exact h1 j (by omega)
  · rw [tkQ_s]
    unfold tkN
    rw [if_neg (by omega), if_neg (by omega), show mk + 1 - 1 = mk by omega, up_eq]
    rfl
  · intro j
    by_cases z : j = mk
    · rw [z, up_eq]; omega
    · rw [up_ne _ _ z]; exact h7 j
theorem SPI_bad (h : SPI bf n F mk at_ le gd sf pf df) (hn : at_ < n) (hb : bf at_ ≠ 32) (h8 : tqS (tkI bf n F mk) = 8) : SPI bf n F mk at_ le false sf pf df := by
  obtain ⟨h1, h2, h3, h4, h5, h6, h7, _⟩ := h
  exact ⟨h1, h2, h3, h4, h5, h6, h7, fun _ => ⟨hn, hb, h8⟩⟩
theorem SPI_end (h : SPI bf n F mk at_ le gd sf pf df) (hx : gd = false ∨ n ≤ at_) : tqP (tkI bf n F mk) = at_ ∧ (tqS (tkI bf n F mk) = 0 ∨ tqS (tkI bf n F mk) = 8) ∧ gd = decide (tqS (tkI bf n F mk) = 0) := by
  by_cases g : gd = false
  · have z := h.2.2.2.2.2.2.2 g
    have e := SPI_tk h z.1 z.2.1
    exact ⟨by rw [e]; exact tkB_p, Or.inr z.2.2, by rw [g, z.2.2]; rfl⟩
  · have ha : n ≤ at_ := by rcases hx with a | a; (exact absurd a g); exact a
    obtain ⟨h1, h2, h3, h4, h5, h6, h7, _⟩ := h
    have e : skB bf n le = at_ := skB_eq h3 h4 h5 (fun z => absurd z (by omega))
    have t : tkI bf n F mk = (0, at_, 0, 0, bf, at_) := by
      unfold tkI tkA
      rw [h2]
      show (if skB bf n le < n then _ else (0, skB bf n le, 0, 0, bf, skB bf n le)) = _
      rw [e, if_neg (by omega)]
    rw [t]
    exact ⟨rfl, Or.inl rfl, by cases gd; (exact absurd rfl g); rfl⟩
theorem o64_inj {a b : Int} (ha : -1000000000000000000 < a ∧ a < 1000000000000000000) (hb : -1000000000000000000 < b ∧ b < 1000000000000000000) : Int64.ofInt a = Int64.ofInt b ↔ a = b := ⟨fun h => by rw [← n_toL (a := a) (by omega) (by omega), ← n_toL (a := b) (by omega) (by omega), h], fun h => by rw [h]⟩
/-- the functions that the tokens know, told by the spec -/
theorem SPI_fn {fn : Int → Bool} {jf : Nat → Int64} {m : Nat} (hbf : ∀ j, 0 ≤ bf j ∧ bf j ≤ 255) (h : SPI bf n (tkG bf n fn) mk at_ le gd sf pf df) (hf : ∀ k, fn k = decide (fndK jf m (Int64.ofInt k) < m)) {k : Int} (hk : 0 ≤ k ∧ k < 1099511627776) : fnT mk sf df jf m k = tkG bf n fn mk k := by
  unfold tkG
  rw [hf k]
  have e : ∀ j, j < 3 → tkI bf n (tkG bf n fn) j = tkI bf n (fun _ => fn) j := fun j hj => tkI_cg (fun i hi => by funext x; unfold tkG; rw [decide_eq_false (show ¬ 3 ≤ i by omega), Bool.false_and, Bool.or_false])
  by_cases z : fndK jf m (Int64.ofInt k) < m
  · rw [fnT_y (Or.inl z), decide_eq_true z, Bool.true_or]
  · rw [decide_eq_false z, Bool.false_or]
    by_cases y : 3 ≤ mk
    · rw [decide_eq_true y, Bool.true_and, ← e 0 (by omega), ← e 1 (by omega), ← e 2 (by omega)]
      have a0 := h.1 0 (by omega)
      have a1 := h.1 1 (by omega)
      have a2 := h.1 2 (by omega)
      have b0 := tkI_d (ln := n) (F := tkG bf n fn) (i := 0) hbf
      have b1 := tkI_d (ln := n) (F := tkG bf n fn) (i := 1) hbf
      have b2 := tkI_d (ln := n) (F := tkG bf n fn) (i := 2) hbf
      have t0 : tokS mk sf 0 = ((tqS (tkI bf n (tkG bf n fn) 0) : Nat) : Int) := by unfold tokS; rw [if_pos (by omega)]; exact a0.1
      unfold fnT tlK
      refine congrArg (fun c : Bool => c) (decide_eq_decide.mpr ?_)
      unfold tlT
      rw [t0, a0.2.2.1, a1.1, a1.2.2.1, a2.1, a2.2.2.1, n_toL (a := tqD (tkI bf n (tkG bf n fn) 1)) (by omega) (by omega), n_toL (a := tqD (tkI bf n (tkG bf n fn) 2)) (by omega) (by omega)]
      rw [o64_inj b0 (by omega), show (Int64.ofInt k ≠ Int64.ofInt 24) = (k ≠ 24) from propext (not_congr (o64_inj (by omega) (by omega))), show (Int64.ofInt k ≠ Int64.ofInt 25) = (k ≠ 25) from propext (not_congr (o64_inj (by omega) (by omega)))]
      constructor
      · rintro (w | ⟨w1, w2, w3, ⟨w4, w5⟩, ⟨w6, w7⟩, w8⟩)
        · exact absurd w z
        · exact ⟨by omega, w3, ⟨by omega, w5⟩, ⟨by omega, w7⟩, w8⟩
      · rintro ⟨w2, w3, ⟨w4, w5⟩, ⟨w6, w7⟩, w8⟩
        exact Or.inr ⟨by omega, by omega, w3, ⟨by omega, w5⟩, ⟨by omega, w7⟩, w8⟩
    · rw [decide_eq_false y, Bool.false_and]
      exact fnT_n (fun w => by rcases w with w | w; (exact z w); have := w.1; omega)
end SPIs
theorem NMS_F {h h1 : mj_H} {n m : Nat} {kf jf : Nat → Int64} {vf of : Nat → Option Nat} (hN : NMS h n m kf jf vf of) (hF : tkF h h1) : NMS h1 n m kf jf vf of := by
  obtain ⟨q4, q5, q6, q7, q8, r⟩ := hN
  exact ⟨by rw [hF.2.2 4 (by omega)]; exact q4, by rw [hF.2.2 5 (by omega)]; exact q5, by rw [hF.2.2 6 (by omega)]; exact q6, by rw [hF.2.2 7 (by omega)]; exact q7, by rw [hF.2.2 8 (by omega)]; exact q8, r⟩
/-- the tokens of a whole line -/
def tkM (bf : Nat → Int) (n : Nat) (F : Nat → Int → Bool) (mk : Nat) (gd : Bool) (sf pf : Nat → Int) (df : Nat → Int64) : Prop := tkO bf n F mk sf pf df ∧ sf mk = 0 ∧ pf mk = ((tqP (tkI bf n F mk) : Nat) : Int) ∧ df mk = 0 ∧ (tqS (tkI bf n F mk) = 0 ∨ tqS (tkI bf n F mk) = 8) ∧ gd = decide (tqS (tkI bf n F mk) = 0) ∧ mk ≤ n ∧ (∀ j, 0 ≤ sf j ∧ sf j ≤ 7)
theorem SPI_M {bf : Nat → Int} {n : Nat} {F : Nat → Int → Bool} {mk at_ le : Nat} {gd : Bool} {sf pf : Nat → Int} {df : Nat → Int64} (h : SPI bf n F mk at_ le gd sf pf df) (hx : gd = false ∨ n ≤ at_) : tkM bf n F mk gd (va_up sf mk 0) (va_up pf mk (at_ : Int)) (va_up df mk (Int64.ofInt 0)) := by
  have e := SPI_end h hx
  obtain ⟨h1, h2, h3, h4, h5, h6, h7, h8⟩ := h
  refine ⟨?_, up_eq _ _ _, by rw [up_eq, e.1], by rw [up_eq]; rfl, e.2.1, e.2.2, by omega, ?_⟩
  · intro j hj
    rw [up_ne _ _ (by omega), up_ne _ _ (by omega), up_ne _ _ (by omega)]
    exact h1 j hj
  · intro j
    by_cases z : j = mk
    · rw [z, up_eq]; omega
    · rw [up_ne _ _ z]; exact h7 j
/-- a turn passes a byte, while all is good -/
def trO (gd : Bool) (t a : Nat) : Prop := gd = false ∨ t ≤ a
set_option maxRecDepth 20000 in
theorem pm_X8_split : mj_mmof pg_ms 17 = some ((⟨"ArrayCalculator$Tokens", "split", "(I)V"⟩, prog_10_method_2_code, 4, (Option.none : Option Jvm.ClassFile.FieldType)), 8, false, mj_dec prog_10_method_2_code) := rfl
theorem dm_X8_split_0 : mj_dec prog_10_method_2_code 0 = some (.aload_n 0, 1) := by decide +kernel
theorem dm_X8_split_1 : mj_dec prog_10_method_2_code 1 = some (.iload_n 1, 1) := by decide +kernel
theorem dm_X8_split_2 : mj_dec prog_10_method_2_code 2 = some (.aload_n 0, 1) := by decide +kernel
theorem dm_X8_split_3 : mj_dec prog_10_method_2_code 3 = some (.getfield 22, 3) := by decide +kernel
theorem dm_X8_split_6 : mj_dec prog_10_method_2_code 6 = some (.arraylength, 1) := by decide +kernel
theorem dm_X8_split_7 : mj_dec prog_10_method_2_code 7 = some (.invokestatic 29, 3) := by decide +kernel
theorem dm_X8_split_10 : mj_dec prog_10_method_2_code 10 = some (.putfield 35, 3) := by decide +kernel
theorem dm_X8_split_13 : mj_dec prog_10_method_2_code 13 = some (.aload_n 0, 1) := by decide +kernel
theorem dm_X8_split_14 : mj_dec prog_10_method_2_code 14 = some (.iconst 0, 1) := by decide +kernel
theorem dm_X8_split_15 : mj_dec prog_10_method_2_code 15 = some (.putfield 39, 3) := by decide +kernel
theorem dm_X8_split_18 : mj_dec prog_10_method_2_code 18 = some (.aload_n 0, 1) := by decide +kernel
theorem dm_X8_split_19 : mj_dec prog_10_method_2_code 19 = some (.iconst 0, 1) := by decide +kernel
theorem dm_X8_split_20 : mj_dec prog_10_method_2_code 20 = some (.putfield 42, 3) := by decide +kernel
theorem dm_X8_split_23 : mj_dec prog_10_method_2_code 23 = some (.aload_n 0, 1) := by decide +kernel
theorem dm_X8_split_24 : mj_dec prog_10_method_2_code 24 = some (.iconst 1, 1) := by decide +kernel
theorem dm_X8_split_25 : mj_dec prog_10_method_2_code 25 = some (.putfield 45, 3) := by decide +kernel
theorem dm_X8_split_28 : mj_dec prog_10_method_2_code 28 = some (.iconst 0, 1) := by decide +kernel
theorem dm_X8_split_29 : mj_dec prog_10_method_2_code 29 = some (.istore_n 2, 1) := by decide +kernel
theorem dm_X8_split_30 : mj_dec prog_10_method_2_code 30 = some (.iconst 0, 1) := by decide +kernel
theorem dm_X8_split_31 : mj_dec prog_10_method_2_code 31 = some (.istore_n 3, 1) := by decide +kernel
theorem dm_X8_split_32 : mj_dec prog_10_method_2_code 32 = some (.iload_n 3, 1) := by decide +kernel
theorem dm_X8_split_33 : mj_dec prog_10_method_2_code 33 = some (.aload_n 0, 1) := by decide +kernel
theorem dm_X8_split_34 : mj_dec prog_10_method_2_code 34 = some (.getfield 35, 3) := by decide +kernel
theorem dm_X8_split_37 : mj_dec prog_10_method_2_code 37 = some (.if_icmp .ge 62, 3) := by decide +kernel
theorem dm_X8_split_40 : mj_dec prog_10_method_2_code 40 = some (.iload_n 2, 1) := by decide +kernel
theorem dm_X8_split_41 : mj_dec prog_10_method_2_code 41 = some (.aload_n 0, 1) := by decide +kernel
theorem dm_X8_split_42 : mj_dec prog_10_method_2_code 42 = some (.getfield 35, 3) := by decide +kernel
theorem dm_X8_split_45 : mj_dec prog_10_method_2_code 45 = some (.if_icmp .ge 54, 3) := by decide +kernel
theorem dm_X8_split_48 : mj_dec prog_10_method_2_code 48 = some (.aload_n 0, 1) := by decide +kernel
theorem dm_X8_split_49 : mj_dec prog_10_method_2_code 49 = some (.getfield 45, 3) := by decide +kernel
theorem dm_X8_split_52 : mj_dec prog_10_method_2_code 52 = some (.ifCond .eq 47, 3) := by decide +kernel
theorem dm_X8_split_55 : mj_dec prog_10_method_2_code 55 = some (.aload_n 0, 1) := by decide +kernel
theorem dm_X8_split_56 : mj_dec prog_10_method_2_code 56 = some (.getfield 22, 3) := by decide +kernel
theorem dm_X8_split_59 : mj_dec prog_10_method_2_code 59 = some (.iload_n 2, 1) := by decide +kernel
theorem dm_X8_split_60 : mj_dec prog_10_method_2_code 60 = some (.iaload, 1) := by decide +kernel
theorem dm_X8_split_61 : mj_dec prog_10_method_2_code 61 = some (.bipush 32, 2) := by decide +kernel
theorem dm_X8_split_63 : mj_dec prog_10_method_2_code 63 = some (.if_icmp .ne 9, 3) := by decide +kernel
theorem dm_X8_split_66 : mj_dec prog_10_method_2_code 66 = some (.iinc 2 1, 3) := by decide +kernel
theorem dm_X8_split_69 : mj_dec prog_10_method_2_code 69 = some (.goto 24, 3) := by decide +kernel
theorem dm_X8_split_72 : mj_dec prog_10_method_2_code 72 = some (.aload_n 0, 1) := by decide +kernel
theorem dm_X8_split_73 : mj_dec prog_10_method_2_code 73 = some (.iload_n 2, 1) := by decide +kernel
theorem dm_X8_split_74 : mj_dec prog_10_method_2_code 74 = some (.invokevirtual 49, 3) := by decide +kernel
theorem dm_X8_split_77 : mj_dec prog_10_method_2_code 77 = some (.ifCond .eq 11, 3) := by decide +kernel
theorem dm_X8_split_80 : mj_dec prog_10_method_2_code 80 = some (.aload_n 0, 1) := by decide +kernel
theorem dm_X8_split_81 : mj_dec prog_10_method_2_code 81 = some (.getfield 42, 3) := by decide +kernel
theorem dm_X8_split_84 : mj_dec prog_10_method_2_code 84 = some (.istore_n 2, 1) := by decide +kernel
theorem dm_X8_split_85 : mj_dec prog_10_method_2_code 85 = some (.goto 8, 3) := by decide +kernel
theorem dm_X8_split_88 : mj_dec prog_10_method_2_code 88 = some (.aload_n 0, 1) := by decide +kernel
theorem dm_X8_split_89 : mj_dec prog_10_method_2_code 89 = some (.iconst 0, 1) := by decide +kernel
theorem dm_X8_split_90 : mj_dec prog_10_method_2_code 90 = some (.putfield 45, 3) := by decide +kernel
theorem dm_X8_split_93 : mj_dec prog_10_method_2_code 93 = some (.iinc 3 1, 3) := by decide +kernel
theorem dm_X8_split_96 : mj_dec prog_10_method_2_code 96 = some (.goto (-64), 3) := by decide +kernel
theorem dm_X8_split_99 : mj_dec prog_10_method_2_code 99 = some (.aload_n 0, 1) := by decide +kernel
theorem dm_X8_split_100 : mj_dec prog_10_method_2_code 100 = some (.iconst 0, 1) := by decide +kernel
theorem dm_X8_split_101 : mj_dec prog_10_method_2_code 101 = some (.iload_n 2, 1) := by decide +kernel
theorem dm_X8_split_102 : mj_dec prog_10_method_2_code 102 = some (.lconst 0, 1) := by decide +kernel
theorem dm_X8_split_103 : mj_dec prog_10_method_2_code 103 = some (.iload_n 2, 1) := by decide +kernel
theorem dm_X8_split_104 : mj_dec prog_10_method_2_code 104 = some (.invokevirtual 53, 3) := by decide +kernel
theorem dm_X8_split_107 : mj_dec prog_10_method_2_code 107 = some (.return_, 1) := by decide +kernel
theorem x_splitT {xt : mj_X} {d mk ln : Nat} {le_ : Int} {gd : Bool} {sf pf bf : Nat → Int} {df : Nat → Int64} {h : mj_H} (hd : 6 ≤ d) (hT : TK h mk le_ ln gd sf pf bf df) {n : Nat} {fn : Int → Bool} {n9 m : Nat} {kf jf : Nat → Int64} {vf of : Nat → Option Nat} (hN : NMS h n9 m kf jf vf of) (hn : n ≤ 200) (hbf : ∀ j, 0 ≤ bf j ∧ bf j ≤ 255) (hs : ∀ j : Nat, 0 ≤ sf j ∧ sf j ≤ 7) (hf : ∀ k, fn k = decide (fndK jf m (Int64.ofInt k) < m)) : pgN xt d 17 [.ref 9, ii (n : Int)] h (fun h' => ∃ mk' le' gd' sf' pf' df', TK h' (mk' + 1) le' n gd' sf' pf' bf df' ∧ tkM bf n (tkG bf n fn) mk' gd' sf' pf' df' ∧ tkF h h') := by
  obtain ⟨h9, h10, h11, h12, h3, hmk, hln⟩ := id hT
  refine x_enter pm_X8_split (L0 := [(0, .ref 9), (1, ii (n : Int))]) rfl (Nat.le_of_ble_eq_true rfl) (by omega) ?_
  refine me1 (pc' := 1) (L' := [(0, .ref 9), (1, ii (n : Int))]) (S' := [.ref 9]) dm_X8_split_0 rfl rfl rfl rfl ?_
  refine me1 (pc' := 2) (L' := [(0, .ref 9), (1, ii (n : Int))]) (S' := [ii (n : Int), .ref 9]) dm_X8_split_1 rfl rfl rfl rfl ?_
  refine me1 (pc' := 3) (L' := [(0, .ref 9), (1, ii (n : Int))]) (S' := [.ref 9, ii (n : Int), .ref 9]) dm_X8_split_2 rfl rfl rfl rfl ?_
  refine me3 (pc' := 6) (S' := [.ref 3, ii (n : Int), .ref 9]) dm_X8_split_3 (g_get (v := .ref 3) h9 rfl rfl (by decide)) rfl rfl rfl ?_
  refine me3 (pc' := 7) (S' := [ii 200, ii (n : Int), .ref 9]) dm_X8_split_6 (yh_len (n := 200) rfl h3 (by decide)) rfl rfl rfl ?_
  refine y_pr (i := .iadd) (pc' := 10) (S' := [ii (min (n : Int) 200), .ref 9]) dm_X8_split_7 rfl (p_imin (by omega) (by omega) (by omega) (by omega) rfl) (by omega) rfl ?_
  refine pg_st (S' := [ii (n : Int), .ref 9]) (congrArg (fun z => ii z :: [.ref 9]) (by omega)) ?_
  refine me3 (pc' := 13) (S' := []) (h1 := (h).set 9 (cO 8 [.ref 10, .ref 11, .ref 12, ii (mk : Int), ii le_, .ref 3, .ref 4, ii (n : Int), zz gd])) dm_X8_split_10 (g_put (fs' := [.ref 10, .ref 11, .ref 12, ii (mk : Int), ii le_, .ref 3, .ref 4, ii (n : Int), zz gd]) h9 rfl rfl rfl (by simp) rfl (by decide) (fun z => by cases z) (by decide)) rfl rfl rfl ?_
  refine me1 (pc' := 14) (L' := [(0, .ref 9), (1, ii (n : Int))]) (S' := [.ref 9]) dm_X8_split_13 rfl rfl rfl rfl ?_
  refine me0 (pc' := 15) (S' := [ii 0, .ref 9]) dm_X8_split_14 rfl rfl rfl rfl ?_
  refine me3 (pc' := 18) (S' := []) (h1 := (h).set 9 (cO 8 [.ref 10, .ref 11, .ref 12, ii 0, ii le_, .ref 3, .ref 4, ii (n : Int), zz gd])) dm_X8_split_15 (g_put (fs' := [.ref 10, .ref 11, .ref 12, ii 0, ii le_, .ref 3, .ref 4, ii (n : Int), zz gd]) (hl_set (hl_lt h9)) rfl (by rw [List.set_set]) rfl (by simp) rfl (by decide) (fun z => by cases z) (by decide)) rfl rfl rfl ?_
  refine me1 (pc' := 19) (L' := [(0, .ref 9), (1, ii (n : Int))]) (S' := [.ref 9]) dm_X8_split_18 rfl rfl rfl rfl ?_
  refine me0 (pc' := 20) (S' := [ii 0, .ref 9]) dm_X8_split_19 rfl rfl rfl rfl ?_
  refine me3 (pc' := 23) (S' := []) (h1 := (h).set 9 (cO 8 [.ref 10, .ref 11, .ref 12, ii 0, ii 0, .ref 3, .ref 4, ii (n : Int), zz gd])) dm_X8_split_20 (g_put (fs' := [.ref 10, .ref 11, .ref 12, ii 0, ii 0, .ref 3, .ref 4, ii (n : Int), zz gd]) (hl_set (hl_lt h9)) rfl (by rw [List.set_set]) rfl (by simp) rfl (by decide) (fun z => by cases z) (by decide)) rfl rfl rfl ?_
  refine me1 (pc' := 24) (L' := [(0, .ref 9), (1, ii (n : Int))]) (S' := [.ref 9]) dm_X8_split_23 rfl rfl rfl rfl ?_
  refine me0 (pc' := 25) (S' := [ii 1, .ref 9]) dm_X8_split_24 rfl rfl rfl rfl ?_
  refine me3 (pc' := 28) (S' := []) (h1 := (h).set 9 (cO 8 [.ref 10, .ref 11, .ref 12, ii 0, ii 0, .ref 3, .ref 4, ii (n : Int), ii 1])) dm_X8_split_25 (g_put (fs' := [.ref 10, .ref 11, .ref 12, ii 0, ii 0, .ref 3, .ref 4, ii (n : Int), ii 1]) (hl_set (hl_lt h9)) rfl (by rw [List.set_set]) rfl (by simp) rfl (by decide) (fun z => by cases z) (by decide)) rfl rfl rfl ?_
  refine me0 (pc' := 29) (S' := [ii 0]) dm_X8_split_28 rfl rfl rfl rfl ?_
  refine me1 (pc' := 30) (L' := [(2, ii 0), (0, .ref 9), (1, ii (n : Int))]) (S' := []) dm_X8_split_29 rfl rfl rfl rfl ?_
  refine me0 (pc' := 31) (S' := [ii 0]) dm_X8_split_30 rfl rfl rfl rfl ?_
  refine me1 (pc' := 32) (L' := [(3, ii 0), (2, ii 0), (0, .ref 9), (1, ii (n : Int))]) (S' := []) dm_X8_split_31 rfl rfl rfl rfl ?_
  have lp32 : ∀ (n32 : Nat) (turn : Nat) (hh : mj_H) (mk1 : Nat) (a1 : Nat) (le1 : Nat) (gd1 : Bool) (sf1 : Nat → Int) (pf1 : Nat → Int) (df1 : Nat → Int64), n - turn = n32 → (TK hh mk1 ((le1 : Nat) : Int) n gd1 sf1 pf1 bf df1) → (tkF h hh) → (SPI bf n (tkG bf n fn) mk1 a1 le1 gd1 sf1 pf1 df1) → (trO gd1 turn a1) → (turn ≤ n) → pgE xt (d - 1) 8 4 false (Option.none : Option Jvm.ClassFile.FieldType) (mj_dec prog_10_method_2_code) 32 [(3, ii ((turn : Nat) : Int)), (2, ii ((a1 : Nat) : Int)), (0, .ref 9), (1, ii (n : Int))] [] hh (fun r h' => r = none ∧ ∃ mk' le' gd' sf' pf' df', TK h' (mk' + 1) le' n gd' sf' pf' bf df' ∧ tkM bf n (tkG bf n fn) mk' gd' sf' pf' df' ∧ tkF h h') := by
    intro n32
    induction n32 using Nat.strongRecOn with
    | ind n32 ih32 =>
      intro turn hh mk1 a1 le1 gd1 sf1 pf1 df1 hm32 hT1 hF1 hS htr htn
      obtain ⟨g9, g10, g11, g12, g3, gmk, gln⟩ := id hT1
      have hmk2 : mk1 ≤ a1 ∧ a1 ≤ n ∧ le1 ≤ a1 := ⟨hS.2.2.2.2.2.1, hS.2.2.2.1, hS.2.2.1⟩
      have hba := hbf a1
      refine me1 (pc' := 33) (L' := [(3, ii ((turn : Nat) : Int)), (2, ii ((a1 : Nat) : Int)), (0, .ref 9), (1, ii (n : Int))]) (S' := [ii ((turn : Nat) : Int)]) dm_X8_split_32 rfl rfl rfl rfl ?_
      refine me1 (pc' := 34) (L' := [(3, ii ((turn : Nat) : Int)), (2, ii ((a1 : Nat) : Int)), (0, .ref 9), (1, ii (n : Int))]) (S' := [.ref 9, ii ((turn : Nat) : Int)]) dm_X8_split_33 rfl rfl rfl rfl ?_
      refine me3 (pc' := 37) (S' := [ii ((n : Nat) : Int), ii ((turn : Nat) : Int)]) dm_X8_split_34 (g_get (v := ii ((n : Nat) : Int)) g9 rfl rfl (by decide)) rfl rfl rfl ?_
      refine y_2ge (a := ((turn : Nat) : Int)) (b := ((n : Nat) : Int)) (t := 99) (pc' := 40) dm_X8_split_37 rfl rfl (by omega) (fun hb1 => ?_) (fun hb1 => ?_)
      · have hx9 : gd1 = false ∨ n ≤ a1 := by rcases htr with z | z; (exact Or.inl z); exact Or.inr (by omega)
        refine me1 (pc' := 100) (L' := [(3, ii ((turn : Nat) : Int)), (2, ii ((a1 : Nat) : Int)), (0, .ref 9), (1, ii (n : Int))]) (S' := [.ref 9]) dm_X8_split_99 rfl rfl rfl rfl ?_
        refine me0 (pc' := 101) (S' := [ii 0, .ref 9]) dm_X8_split_100 rfl rfl rfl rfl ?_
        refine me1 (pc' := 102) (L' := [(3, ii ((turn : Nat) : Int)), (2, ii ((a1 : Nat) : Int)), (0, .ref 9), (1, ii (n : Int))]) (S' := [ii ((a1 : Nat) : Int), ii 0, .ref 9]) dm_X8_split_101 rfl rfl rfl rfl ?_
        refine me0 (pc' := 103) (S' := [.long (Int64.ofInt 0), ii ((a1 : Nat) : Int), ii 0, .ref 9]) dm_X8_split_102 rfl rfl rfl rfl ?_
        refine me1 (pc' := 104) (L' := [(3, ii ((turn : Nat) : Int)), (2, ii ((a1 : Nat) : Int)), (0, .ref 9), (1, ii (n : Int))]) (S' := [ii ((a1 : Nat) : Int), .long (Int64.ofInt 0), ii ((a1 : Nat) : Int), ii 0, .ref 9]) dm_X8_split_103 rfl rfl rfl rfl ?_
        refine x_cn (pc' := 107) (rest := []) dm_X8_split_104 rfl (g_inv (As := [ii 0, ii ((a1 : Nat) : Int), .long (Int64.ofInt 0), ii ((a1 : Nat) : Int)]) (S := []) g9 rfl rfl rfl (by decide)) rfl rfl rfl (x_addT (so := 0) (pl := ((a1 : Nat) : Int)) (en := ((a1 : Nat) : Int)) (da := Int64.ofInt 0) (by omega) hT1 (by omega)) ?_
        rintro h3 ⟨hT3, hF3⟩
        refine y_ret (r := none) dm_X8_split_107 rfl rfl rfl ?_
        exact ⟨rfl, mk1, _, gd1, _, _, _, hT3, SPI_M hS hx9, tkF_tr hF1 hF3⟩
      · refine me1 (pc' := 41) (L' := [(3, ii ((turn : Nat) : Int)), (2, ii ((a1 : Nat) : Int)), (0, .ref 9), (1, ii (n : Int))]) (S' := [ii ((a1 : Nat) : Int)]) dm_X8_split_40 rfl rfl rfl rfl ?_
        refine me1 (pc' := 42) (L' := [(3, ii ((turn : Nat) : Int)), (2, ii ((a1 : Nat) : Int)), (0, .ref 9), (1, ii (n : Int))]) (S' := [.ref 9, ii ((a1 : Nat) : Int)]) dm_X8_split_41 rfl rfl rfl rfl ?_
        refine me3 (pc' := 45) (S' := [ii ((n : Nat) : Int), ii ((a1 : Nat) : Int)]) dm_X8_split_42 (g_get (v := ii ((n : Nat) : Int)) g9 rfl rfl (by decide)) rfl rfl rfl ?_
        refine y_2ge (a := ((a1 : Nat) : Int)) (b := ((n : Nat) : Int)) (t := 99) (pc' := 48) dm_X8_split_45 rfl rfl (by omega) (fun hb2 => ?_) (fun hb2 => ?_)
        · have hx9 : gd1 = false ∨ n ≤ a1 := Or.inr (by omega)
          refine me1 (pc' := 100) (L' := [(3, ii ((turn : Nat) : Int)), (2, ii ((a1 : Nat) : Int)), (0, .ref 9), (1, ii (n : Int))]) (S' := [.ref 9]) dm_X8_split_99 rfl rfl rfl rfl ?_
          refine me0 (pc' := 101) (S' := [ii 0, .ref 9]) dm_X8_split_100 rfl rfl rfl rfl ?_
          refine me1 (pc' := 102) (L' := [(3, ii ((turn : Nat) : Int)), (2, ii ((a1 : Nat) : Int)), (0, .ref 9), (1, ii (n : Int))]) (S' := [ii ((a1 : Nat) : Int), ii 0, .ref 9]) dm_X8_split_101 rfl rfl rfl rfl ?_
          refine me0 (pc' := 103) (S' := [.long (Int64.ofInt 0), ii ((a1 : Nat) : Int), ii 0, .ref 9]) dm_X8_split_102 rfl rfl rfl rfl ?_
          refine me1 (pc' := 104) (L' := [(3, ii ((turn : Nat) : Int)), (2, ii ((a1 : Nat) : Int)), (0, .ref 9), (1, ii (n : Int))]) (S' := [ii ((a1 : Nat) : Int), .long (Int64.ofInt 0), ii ((a1 : Nat) : Int), ii 0, .ref 9]) dm_X8_split_103 rfl rfl rfl rfl ?_
          refine x_cn (pc' := 107) (rest := []) dm_X8_split_104 rfl (g_inv (As := [ii 0, ii ((a1 : Nat) : Int), .long (Int64.ofInt 0), ii ((a1 : Nat) : Int)]) (S := []) g9 rfl rfl rfl (by decide)) rfl rfl rfl (x_addT (so := 0) (pl := ((a1 : Nat) : Int)) (en := ((a1 : Nat) : Int)) (da := Int64.ofInt 0) (by omega) hT1 (by omega)) ?_
          rintro h3 ⟨hT3, hF3⟩
          refine y_ret (r := none) dm_X8_split_107 rfl rfl rfl ?_
          exact ⟨rfl, mk1, _, gd1, _, _, _, hT3, SPI_M hS hx9, tkF_tr hF1 hF3⟩
        · refine me1 (pc' := 49) (L' := [(3, ii ((turn : Nat) : Int)), (2, ii ((a1 : Nat) : Int)), (0, .ref 9), (1, ii (n : Int))]) (S' := [.ref 9]) dm_X8_split_48 rfl rfl rfl rfl ?_
          refine me3 (pc' := 52) (S' := [zz gd1]) dm_X8_split_49 (g_get (v := zz gd1) g9 rfl rfl (by decide)) rfl rfl rfl ?_
          refine y_zeq (c := gd1) (t := 99) (pc' := 55) dm_X8_split_52 rfl rfl (fun hb3 => ?_) (fun hb3 => ?_)
          · have hx9 : gd1 = false ∨ n ≤ a1 := Or.inl hb3
            refine me1 (pc' := 100) (L' := [(3, ii ((turn : Nat) : Int)), (2, ii ((a1 : Nat) : Int)), (0, .ref 9), (1, ii (n : Int))]) (S' := [.ref 9]) dm_X8_split_99 rfl rfl rfl rfl ?_
            refine me0 (pc' := 101) (S' := [ii 0, .ref 9]) dm_X8_split_100 rfl rfl rfl rfl ?_
            refine me1 (pc' := 102) (L' := [(3, ii ((turn : Nat) : Int)), (2, ii ((a1 : Nat) : Int)), (0, .ref 9), (1, ii (n : Int))]) (S' := [ii ((a1 : Nat) : Int), ii 0, .ref 9]) dm_X8_split_101 rfl rfl rfl rfl ?_
            refine me0 (pc' := 103) (S' := [.long (Int64.ofInt 0), ii ((a1 : Nat) : Int), ii 0, .ref 9]) dm_X8_split_102 rfl rfl rfl rfl ?_
            refine me1 (pc' := 104) (L' := [(3, ii ((turn : Nat) : Int)), (2, ii ((a1 : Nat) : Int)), (0, .ref 9), (1, ii (n : Int))]) (S' := [ii ((a1 : Nat) : Int), .long (Int64.ofInt 0), ii ((a1 : Nat) : Int), ii 0, .ref 9]) dm_X8_split_103 rfl rfl rfl rfl ?_
            refine x_cn (pc' := 107) (rest := []) dm_X8_split_104 rfl (g_inv (As := [ii 0, ii ((a1 : Nat) : Int), .long (Int64.ofInt 0), ii ((a1 : Nat) : Int)]) (S := []) g9 rfl rfl rfl (by decide)) rfl rfl rfl (x_addT (so := 0) (pl := ((a1 : Nat) : Int)) (en := ((a1 : Nat) : Int)) (da := Int64.ofInt 0) (by omega) hT1 (by omega)) ?_
            rintro h3 ⟨hT3, hF3⟩
            refine y_ret (r := none) dm_X8_split_107 rfl rfl rfl ?_
            exact ⟨rfl, mk1, _, gd1, _, _, _, hT3, SPI_M hS hx9, tkF_tr hF1 hF3⟩
          · have hgd : gd1 = true := hb3
            have hSt : SPI bf n (tkG bf n fn) mk1 a1 le1 true sf1 pf1 df1 := hgd ▸ hS
            have hlt : a1 < n := by omega
            refine me1 (pc' := 56) (L' := [(3, ii ((turn : Nat) : Int)), (2, ii ((a1 : Nat) : Int)), (0, .ref 9), (1, ii (n : Int))]) (S' := [.ref 9]) dm_X8_split_55 rfl rfl rfl rfl ?_
            refine me3 (pc' := 59) (S' := [.ref 3]) dm_X8_split_56 (g_get (v := .ref 3) g9 rfl rfl (by decide)) rfl rfl rfl ?_
            refine me1 (pc' := 60) (L' := [(3, ii ((turn : Nat) : Int)), (2, ii ((a1 : Nat) : Int)), (0, .ref 9), (1, ii (n : Int))]) (S' := [ii ((a1 : Nat) : Int), .ref 3]) dm_X8_split_59 rfl rfl rfl rfl ?_
            refine me3 (pc' := 61) (S' := [ii (bf a1)]) dm_X8_split_60 (yh_iald (v := bf a1) g3 (by omega) (by omega) (by omega) (by decide) rfl) rfl rfl rfl ?_
            refine me0 (pc' := 63) (S' := [ii 32, ii (bf a1)]) dm_X8_split_61 rfl rfl rfl rfl ?_
            refine y_2ne (a := bf a1) (b := 32) (t := 72) (pc' := 66) dm_X8_split_63 rfl rfl (by omega) (fun hb4 => ?_) (fun hb4 => ?_)
            · have hne : bf a1 ≠ 32 := hb4
              have hTk : tkB bf n (fnT mk1 sf1 df1 jf m) a1 (bhO mk1 a1 le1 sf1) = (tkI bf n (tkG bf n fn) mk1) := by rw [SPI_tk hSt hlt hne]; exact tkB_fn (fun _ => SPI_fn hbf hSt hf ck_lt)
              refine me1 (pc' := 73) (L' := [(3, ii ((turn : Nat) : Int)), (2, ii ((a1 : Nat) : Int)), (0, .ref 9), (1, ii (n : Int))]) (S' := [.ref 9]) dm_X8_split_72 rfl rfl rfl rfl ?_
              refine me1 (pc' := 74) (L' := [(3, ii ((turn : Nat) : Int)), (2, ii ((a1 : Nat) : Int)), (0, .ref 9), (1, ii (n : Int))]) (S' := [ii ((a1 : Nat) : Int), .ref 9]) dm_X8_split_73 rfl rfl rfl rfl ?_
              refine x_cv (pc' := 77) (rest := []) dm_X8_split_74 rfl (g_inv (As := [ii ((a1 : Nat) : Int)]) (S := []) g9 rfl rfl rfl (by decide)) rfl rfl rfl (show pgV xt (d - 1) _ _ hh (fun x h' => nxP hh h' mk1 n gd1 sf1 pf1 bf df1 (tkI bf n (tkG bf n fn) mk1) x) from by rw [← hTk]; exact x_nextT (p := a1) (bh := bhO mk1 a1 le1 sf1) (by omega) hT1 (NMS_F hN hF1) (by omega) hlt hbf hS.2.2.2.2.2.2.1 (fun j => by have := hS.2.2.2.2.2.2.1 j; omega) (by omega) (SPI_bh hSt)) ?_
              rintro _ h2 ⟨rfl, hx2⟩
              refine y_zeq (c := decide (tqS (tkI bf n (tkG bf n fn) mk1) ≠ 8)) (t := 88) (pc' := 80) dm_X8_split_77 rfl rfl (fun hb5 => ?_) (fun hb5 => ?_)
              · replace hb5 := dF hb5
                have h8 : tqS (tkI bf n (tkG bf n fn) mk1) = 8 := by omega
                have he2 : h2 = hh := by rcases hx2 with ⟨_, z⟩ | ⟨z, _⟩; (exact z); exact absurd h8 z
                obtain ⟨k9, k10, k11, k12, k3, _, _⟩ : TK h2 mk1 ((le1 : Nat) : Int) n gd1 sf1 pf1 bf df1 := by rw [he2]; exact hT1
                refine me1 (pc' := 89) (L' := [(3, ii ((turn : Nat) : Int)), (2, ii ((a1 : Nat) : Int)), (0, .ref 9), (1, ii (n : Int))]) (S' := [.ref 9]) dm_X8_split_88 rfl rfl rfl rfl ?_
                refine me0 (pc' := 90) (S' := [ii 0, .ref 9]) dm_X8_split_89 rfl rfl rfl rfl ?_
                refine me3 (pc' := 93) (S' := []) (h1 := (h2).set 9 (cO 8 [.ref 10, .ref 11, .ref 12, ii ((mk1 : Nat) : Int), ii ((le1 : Nat) : Int), .ref 3, .ref 4, ii ((n : Nat) : Int), ii 0])) dm_X8_split_90 (g_put (fs' := [.ref 10, .ref 11, .ref 12, ii ((mk1 : Nat) : Int), ii ((le1 : Nat) : Int), .ref 3, .ref 4, ii ((n : Nat) : Int), ii 0]) k9 rfl rfl rfl (by simp) rfl (by decide) (fun z => by cases z) (by decide)) rfl rfl rfl ?_
                refine y_iinc (pc' := 96) (L' := [(3, ii (((turn : Nat) : Int) + 1)), (2, ii ((a1 : Nat) : Int)), (0, .ref 9), (1, ii (n : Int))]) dm_X8_split_93 (y_incp (a := ((turn : Nat) : Int)) (c := 1) rfl rfl (by decide)) rfl ?_
                refine me2 (pc' := 32) (S' := []) dm_X8_split_96 rfl rfl rfl ?_
                exact pg_sub (L := [(3, ii (((turn + 1) : Nat) : Int)), (2, ii ((a1 : Nat) : Int)), (0, .ref 9), (1, ii (n : Int))]) rfl rfl rfl (ih32 (n - (turn + 1)) (by omega) (turn + 1) ((h2).set 9 (cO 8 [.ref 10, .ref 11, .ref 12, ii ((mk1 : Nat) : Int), ii ((le1 : Nat) : Int), .ref 3, .ref 4, ii ((n : Nat) : Int), ii 0])) mk1 a1 le1 false sf1 pf1 df1 rfl ⟨(hl_set (hl_lt k9)), (hl_ne (by decide) k10), (hl_ne (by decide) k11), (hl_ne (by decide) k12), (hl_ne (by decide) k3), by omega, by omega⟩ (tkF_tr hF1 (he2 ▸ (tkF_set (a := 9) (by decide) k9 rfl))) (SPI_bad hS hlt hne h8) (Or.inl rfl) (by omega))
              · replace hb5 := dT hb5
                have h8 : tqS (tkI bf n (tkG bf n fn) mk1) ≠ 8 := by omega
                obtain ⟨hT2, hF2⟩ := show _ ∧ _ from by rcases hx2 with ⟨z, _⟩ | ⟨_, z⟩; (exact absurd z h8); exact z
                obtain ⟨k9, k10, k11, k12, k3, _, _⟩ := id hT2
                have hee := (tkB_e (bf := bf) (fn := (tkG bf n fn) mk1) (bh := bhO mk1 a1 le1 sf1) hlt ((SPI_tk hSt hlt hne) ▸ h8)).2.1
                rw [← SPI_tk hSt hlt hne] at hee
                refine me1 (pc' := 81) (L' := [(3, ii ((turn : Nat) : Int)), (2, ii ((a1 : Nat) : Int)), (0, .ref 9), (1, ii (n : Int))]) (S' := [.ref 9]) dm_X8_split_80 rfl rfl rfl rfl ?_
                refine me3 (pc' := 84) (S' := [ii ((tqE (tkI bf n (tkG bf n fn) mk1) : Nat) : Int)]) dm_X8_split_81 (g_get (v := ii ((tqE (tkI bf n (tkG bf n fn) mk1) : Nat) : Int)) k9 rfl rfl (by decide)) rfl rfl rfl ?_
                refine me1 (pc' := 85) (L' := [(2, ii ((tqE (tkI bf n (tkG bf n fn) mk1) : Nat) : Int)), (3, ii ((turn : Nat) : Int)), (0, .ref 9), (1, ii (n : Int))]) (S' := []) dm_X8_split_84 rfl rfl rfl rfl ?_
                refine me2 (pc' := 93) (S' := []) dm_X8_split_85 rfl rfl rfl ?_
                refine y_iinc (pc' := 96) (L' := [(3, ii (((turn : Nat) : Int) + 1)), (2, ii ((tqE (tkI bf n (tkG bf n fn) mk1) : Nat) : Int)), (0, .ref 9), (1, ii (n : Int))]) dm_X8_split_93 (y_incp (a := ((turn : Nat) : Int)) (c := 1) rfl rfl (by decide)) rfl ?_
                refine me2 (pc' := 32) (S' := []) dm_X8_split_96 rfl rfl rfl ?_
                exact pg_sub (L := [(3, ii (((turn + 1) : Nat) : Int)), (2, ii (((tqE (tkI bf n (tkG bf n fn) mk1)) : Nat) : Int)), (0, .ref 9), (1, ii (n : Int))]) rfl rfl rfl (ih32 (n - (turn + 1)) (by omega) (turn + 1) h2 (mk1 + 1) (tqE (tkI bf n (tkG bf n fn) mk1)) (tqE (tkI bf n (tkG bf n fn) mk1)) gd1 (va_up sf1 mk1 ((tqS (tkI bf n (tkG bf n fn) mk1) : Nat) : Int)) (va_up pf1 mk1 ((tqP (tkI bf n (tkG bf n fn) mk1) : Nat) : Int)) (va_up df1 mk1 (Int64.ofInt (tqD (tkI bf n (tkG bf n fn) mk1)))) rfl hT2 (tkF_tr hF1 hF2) (by rw [hgd]; exact SPI_nx hSt hlt hne h8) (Or.inr (by rcases htr with z | z; (rw [hgd] at z; cases z); omega)) (by omega))
            · refine y_iinc (pc' := 69) (L' := [(2, ii (((a1 : Nat) : Int) + 1)), (3, ii ((turn : Nat) : Int)), (0, .ref 9), (1, ii (n : Int))]) dm_X8_split_66 (y_incp (a := ((a1 : Nat) : Int)) (c := 1) rfl rfl (by decide)) rfl ?_
              refine me2 (pc' := 93) (S' := []) dm_X8_split_69 rfl rfl rfl ?_
              refine y_iinc (pc' := 96) (L' := [(3, ii (((turn : Nat) : Int) + 1)), (2, ii (((a1 : Nat) : Int) + 1)), (0, .ref 9), (1, ii (n : Int))]) dm_X8_split_93 (y_incp (a := ((turn : Nat) : Int)) (c := 1) rfl rfl (by decide)) rfl ?_
              refine me2 (pc' := 32) (S' := []) dm_X8_split_96 rfl rfl rfl ?_
              exact pg_sub (L := [(3, ii (((turn + 1) : Nat) : Int)), (2, ii (((a1 + 1) : Nat) : Int)), (0, .ref 9), (1, ii (n : Int))]) rfl rfl rfl (ih32 (n - (turn + 1)) (by omega) (turn + 1) hh mk1 (a1 + 1) le1 gd1 sf1 pf1 df1 rfl hT1 hF1 (by rw [hgd]; exact SPI_bl hSt (by omega) (by omega)) (Or.inr (by rcases htr with z | z; (rw [hgd] at z; cases z); omega)) (by omega))
  exact pg_sub (L := [(3, ii ((0 : Nat) : Int)), (2, ii ((0 : Nat) : Int)), (0, .ref 9), (1, ii (n : Int))]) rfl rfl rfl (lp32 _ 0 ((h).set 9 (cO 8 [.ref 10, .ref 11, .ref 12, ii 0, ii 0, .ref 3, .ref 4, ii (n : Int), ii 1])) 0 0 0 true sf pf df rfl ⟨(hl_set (hl_lt h9)), (hl_ne (by decide) h10), (hl_ne (by decide) h11), (hl_ne (by decide) h12), (hl_ne (by decide) h3), by omega, by omega⟩ (tkF_set (a := 9) (by decide) h9 rfl) (SPI_0 hs) (Or.inr (Nat.le_refl _)) (Nat.zero_le _))
