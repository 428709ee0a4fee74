/-! the class's values: what a cell of class Value means -/
def cnum (v : VV) : Int64 := if vk v ≤ 1 then vn v 0 else 0
/-- a row of longs: the class's empty one, or a cell -/
def rowAt (A : Nat → Prop) (h : mj_H) (row n : Nat) (f : Nat → Int64) : Prop := (row = 1 ∧ n = 0) ∨ (2 ≤ row ∧ h[row]? = some (cJ n f) ∧ n ≤ 1000 ∧ A row)
/-- a Value at p (A: the cells that never change) -/
def cv (A : Nat → Prop) (h : mj_H) : Nat → Nat → VV → Prop
  | 0, _, _ => False
  | d + 1, p, v => vw1 v ∧ (2 ≤ p ∧ A p) ∧ vsz (d + 1) v ≤ 30000 ∧ vlv (d + 1) v ≤ 30 ∧ ∃ (row fr : Nat) (vals : Value), h[p]? = some (cO 10 [ii (vk v : Int), .long (cnum v), .ref row, vals, ii (fr : Int), ii (vm v : Int), ii (vc v : Int), ii (vsz (d + 1) v : Int), ii (vlv (d + 1) v : Int)]) ∧ fr ≤ 1000 ∧ (vk v ≤ 1 → row = 1 ∧ fr = 0 ∧ vals = .null) ∧ (2 ≤ vk v → vk v ≤ 6 → vals = .null ∧ ∃ n f, rowAt A h row n f ∧ (0 < vq v → fr + vq v ≤ n) ∧ ∀ k, k < vq v → f (fr + k) = vn v k) ∧ (vk v = 7 → row = 1 ∧ ((vm v = 0 ∧ vals = .null) ∨ ∃ a n g, vals = .ref a ∧ 2 ≤ a ∧ h[a]? = some (cA 4 n g) ∧ A a ∧ n ≤ 1000 ∧ fr + vm v ≤ n ∧ ∀ k, k < vm v → ∃ q, g (fr + k) = some q ∧ cv A h d q (vd v k)))
/-- the numbers of a value by place, as the class tells them -/
def vnum (v : VV) (i : Int) : Int64 := if vk v ≤ 1 then vn v 0 else if 0 ≤ i ∧ i < vq v then vn v i.toNat else 0
theorem vw1_m {v : VV} (h : vw1 v) : vm v ≤ 120 ∧ vc v ≤ 12 ∧ vk v ≤ 7 := by
  obtain ⟨h0, h1, h2, h3, h4, -⟩ := h
  by_cases a : vk v ≤ 1
  · have := h1 a; omega
  · by_cases b : vk v ≤ 5
    · have := h2 (by omega) b; omega
    · by_cases c : vk v = 6
      · have := h3 c; omega
      · have := h4 (by omega); omega
theorem vq_le {v : VV} (h : vw1 v) : vq v ≤ 144 := by
  have hm := vw1_m h
  unfold vq
  split
  · rename_i h6
    obtain ⟨a1, a2, a3, a4, -⟩ := h.2.2.2.1 h6
    have := Nat.mul_le_mul a2 a4
    omega
  · split
    · omega
    · omega
theorem vq_sz {v : VV} {d : Nat} (h : 2 ≤ vk v) (h6 : vk v ≤ 6) : vsz (d + 1) v = 1 + vq v := by
  unfold vsz vq
  rw [if_neg (by omega)]
  by_cases a : vk v = 6
  · rw [if_pos a, if_pos a]
  · rw [if_neg a, if_neg (by omega), if_neg a, if_neg (by omega)]
theorem cv_wf {A : Nat → Prop} {h : mj_H} {d : Nat} : ∀ {p : Nat} {v : VV}, cv A h d p v → vwf d v := by
  induction d with
  | zero => intro p v hv; cases hv
  | succ d ih =>
    intro p v hv
    obtain ⟨hw, h2, hs, hl, row, fr, vals, hp, hf, h1, h3, h7⟩ := hv
    refine ⟨hw, fun h8 k hk => ?_⟩
    rcases (h7 h8).2 with ⟨h9, -⟩ | ⟨a, n, g, -, -, -, -, -, -, h9⟩
    · omega
    · obtain ⟨q, -, hq⟩ := h9 k hk
      exact ih hq
section CV
variable {T : mj_T} {xt : mj_X} {ini : Bool} {S : List Value} {h : mj_H} {row n : Nat} {f : Nat → Int64} {f1 : Nat → Value} {A : Nat → Prop}
theorem yh_rlen (hx1 : xt 1 = some (.long, 0, f1)) (hr : rowAt A h row n f) : mj_hp T xt pg_tl 2 ini .arraylength (.ref row :: S) h = some (ii (n : Int) :: S, h) := by
  rcases hr with ⟨rfl, rfl⟩ | ⟨h2, hg, -, -⟩
  · exact x_len hx1 (by decide) (n_ofNat 0)
  · exact yh_len rfl hg h2
theorem yh_rald {j : Int} {w : Int64} (hr : rowAt A h row n f) (h0 : 0 ≤ j) (h1 : j < n) (he : f j.toNat = w) : mj_hp T xt pg_tl 2 ini .laload (ii j :: .ref row :: S) h = some (.long w :: S, h) := by
  rcases hr with ⟨rfl, rfl⟩ | ⟨h2, hg, h3, -⟩
  · omega
  · exact yh_lald hg h0 h1 (by omega) h2 he
end CV
theorem zt {c : Prop} [Decidable c] (h : c) : ii 1 = zz (decide c) := by rw [zz, zi, if_pos (decide_eq_true h)]
theorem zf {c : Prop} [Decidable c] (h : ¬ c) : ii 0 = zz (decide c) := by rw [zz, zi, if_neg (by simpa using h)]
theorem zd {b : Bool} {c : Prop} [Decidable c] (h : b = true ↔ c) : zz b = zz (decide c) := by
  cases b with
  | true => rw [decide_eq_true (h.mp rfl)]
  | false => rw [decide_eq_false (fun z => by cases h.mpr z)]
theorem dT {c : Prop} [Decidable c] (h : decide c = true) : c := of_decide_eq_true h
theorem dF {c : Prop} [Decidable c] (h : decide c = false) : ¬ c := of_decide_eq_false h
theorem rw_keep {A : Nat → Prop} {h h' : mj_H} (hk : ∀ a e, A a → h[a]? = some e → h'[a]? = some e) {row n : Nat} {f : Nat → Int64} (hr : rowAt A h row n f) : rowAt A h' row n f := by
  rcases hr with h1 | ⟨h2, hg, h3, h4⟩
  · exact Or.inl h1
  · exact Or.inr ⟨h2, hk _ _ h4 hg, h3, h4⟩
theorem rw_app {A : Nat → Prop} {h X : mj_H} {row n : Nat} {f : Nat → Int64} (hr : rowAt A h row n f) : rowAt A (h ++ X) row n f := rw_keep (fun _ _ _ hg => hl_app hg) hr
theorem rw_set {A : Nat → Prop} {h : mj_H} {a row n : Nat} {e : mj_E} {f : Nat → Int64} (hn : ¬ A a) (hr : rowAt A h row n f) : rowAt A (h.set a e) row n f := rw_keep (fun b _ hb hg => hl_ne (fun z => hn (by rw [← z]; exact hb)) hg) hr
theorem rw_mono {A A' : Nat → Prop} (hA : ∀ a, A a → A' a) {h : mj_H} {row n : Nat} {f : Nat → Int64} (hr : rowAt A h row n f) : rowAt A' h row n f := by
  rcases hr with h1 | ⟨h2, hg, h3, h4⟩
  · exact Or.inl h1
  · exact Or.inr ⟨h2, hg, h3, hA _ h4⟩
theorem cv_keep {A A' : Nat → Prop} {h h' : mj_H} (hk : ∀ a e, A a → h[a]? = some e → A' a ∧ h'[a]? = some e) {d : Nat} : ∀ {p : Nat} {v : VV}, cv A h d p v → cv A' h' d p v := by
  induction d with
  | zero => intro p v hv; cases hv
  | succ d ih =>
    intro p v hv
    obtain ⟨hw, ⟨hp2, hpA⟩, hsz, hlv, row, fr, vals, hp, hfr, h1, h3, h7⟩ := hv
    refine ⟨hw, ⟨hp2, (hk _ _ hpA hp).1⟩, hsz, hlv, row, fr, vals, (hk _ _ hpA hp).2, hfr, h1, fun a b => ?_, fun a => ?_⟩
    · obtain ⟨hn, n, f, hr, hb, hf⟩ := h3 a b
      refine ⟨hn, n, f, ?_, hb, hf⟩
      rcases hr with g1 | ⟨g2, hg, g3, g4⟩
      · exact Or.inl g1
      · exact Or.inr ⟨g2, (hk _ _ g4 hg).2, g3, (hk _ _ g4 hg).1⟩
    · obtain ⟨hr, h8⟩ := h7 a
      refine ⟨hr, ?_⟩
      rcases h8 with h9 | ⟨b, n, g, e1, e2, e3, e4, e5, e6, e7⟩
      · exact Or.inl h9
      · refine Or.inr ⟨b, n, g, e1, e2, (hk _ _ e4 e3).2, (hk _ _ e4 e3).1, e5, e6, fun k hk2 => ?_⟩
        obtain ⟨q, hq1, hq2⟩ := e7 k hk2
        exact ⟨q, hq1, ih hq2⟩
theorem cv_app {A : Nat → Prop} {h X : mj_H} {d p : Nat} {v : VV} (hv : cv A h d p v) : cv A (h ++ X) d p v := cv_keep (fun _ _ ha hg => ⟨ha, hl_app hg⟩) hv
theorem cv_set {A : Nat → Prop} {h : mj_H} {a d p : Nat} {e : mj_E} {v : VV} (hn : ¬ A a) (hv : cv A h d p v) : cv A (h.set a e) d p v := cv_keep (fun b _ hb hg => ⟨hb, hl_ne (fun z => hn (by rw [← z]; exact hb)) hg⟩) hv
theorem cv_mono {A A' : Nat → Prop} (hA : ∀ a, A a → A' a) {h : mj_H} {d p : Nat} {v : VV} (hv : cv A h d p v) : cv A' h d p v := cv_keep (fun a _ ha hg => ⟨hA a ha, hg⟩) hv
/-- one level more -/
theorem cv_up {A : Nat → Prop} {h : mj_H} {d : Nat} : ∀ {p : Nat} {v : VV}, cv A h d p v → cv A h (d + 1) p v := by
  induction d with
  | zero => intro p v hv; cases hv
  | succ d ih =>
    intro p v hv
    have hw0 := cv_wf hv
    obtain ⟨hw, hp2, hsz, hlv, row, fr, vals, hp, hfr, h1, h3, h7⟩ := hv
    refine ⟨hw, hp2, by rw [vsz_up hw0]; exact hsz, by rw [vlv_up hw0]; exact hlv, row, fr, vals, by rw [vsz_up hw0, vlv_up hw0]; exact hp, hfr, h1, h3, fun a => ?_⟩
    obtain ⟨hr, h8⟩ := h7 a
    refine ⟨hr, ?_⟩
    rcases h8 with h9 | ⟨b, n, g, e1, e2, e3, e4, e5, e6, e7⟩
    · exact Or.inl h9
    · refine Or.inr ⟨b, n, g, e1, e2, e3, e4, e5, e6, fun k hk2 => ?_⟩
      obtain ⟨q, hq1, hq2⟩ := e7 k hk2
      exact ⟨q, hq1, ih hq2⟩
/-- where the cells that never change lie -/
def okA (A : Nat → Prop) (h : mj_H) : Prop := ∀ a, A a → a < h.length ∧ (a = 25 ∨ a = 101 ∨ 127 ≤ a)
theorem nA {A : Nat → Prop} {h : mj_H} {a : Nat} (hA : okA A h) (hn : (a < 127 ∧ a ≠ 25 ∧ a ≠ 101) ∨ h.length ≤ a) : ¬ A a := fun z => by have := hA a z; omega
/-- those that have come to it from h to h' -/
def newA (A : Nat → Prop) (h h' : mj_H) : Nat → Prop := fun a => A a ∨ (h.length ≤ a ∧ a < h'.length)
theorem okA_new {A : Nat → Prop} {h h' : mj_H} (hA : okA A h) (hl : 127 ≤ h.length) (hh : h.length ≤ h'.length) : okA (newA A h h') h' := by
  intro a ha
  rcases ha with ha | ha
  · have := hA a ha; omega
  · omega
theorem vnum_1 {v : VV} {i : Int} (h : vk v ≤ 1) : vnum v i = vn v 0 := by unfold vnum; rw [if_pos h]
theorem vnum_r {v : VV} {i : Int} (h : 2 ≤ vk v) (h0 : 0 ≤ i) (h1 : i < vq v) : vnum v i = vn v i.toNat := by unfold vnum; rw [if_neg (by omega), if_pos ⟨h0, h1⟩]
theorem vnum_o {v : VV} {i : Int} (h : 2 ≤ vk v) (h1 : i < 0 ∨ vq v ≤ i) : vnum v i = 0 := by unfold vnum; rw [if_neg (by omega), if_neg (by omega)]
theorem vnum_c {v : VV} {i : Int} (h : vk v ≤ 1 ∨ i < 0 ∨ vq v ≤ i) : vnum v i = cnum v := by
  unfold cnum
  by_cases a : vk v ≤ 1
  · rw [vnum_1 a, if_pos a]
  · rw [vnum_o (by omega) (by omega), if_neg a]
theorem vsz_1 {v : VV} {d : Nat} (h : vk v ≤ 1) : vsz (d + 1) v = 1 := by unfold vsz; rw [if_pos h]
theorem vq_7 {v : VV} (h : vk v = 7) : vq v = 0 := by unfold vq; rw [if_neg (by omega), if_pos h]
theorem vq_1 {v : VV} (h : vw1 v) (h1 : vk v ≤ 1) : vq v = 1 := by unfold vq; rw [if_neg (by omega), if_neg (by omega)]; exact (h.2.1 h1).1
/-- what every cell of a value has of numbers -/
theorem cv_row {A : Nat → Prop} {h : mj_H} {d p : Nat} {v : VV} (hv : cv A h (d + 1) p v) : ∃ (row fr n : Nat) (vals : Value) (f : Nat → Int64), h[p]? = some (cO 10 [ii (vk v : Int), .long (cnum v), .ref row, vals, ii (fr : Int), ii (vm v : Int), ii (vc v : Int), ii (vsz (d + 1) v : Int), ii (vlv (d + 1) v : Int)]) ∧ (2 ≤ p ∧ A p) ∧ fr ≤ 1000 ∧ n ≤ 1000 ∧ rowAt A h row n f ∧ (2 ≤ vk v → vk v ≤ 6 → (0 < vq v → fr + vq v ≤ n) ∧ ∀ k, k < vq v → f (fr + k) = vn v k) ∧ (vk v = 7 → n = 0) := by
  obtain ⟨hw, hp2, hsz, hlv, row, fr, vals, hp, hfr, h1, h3, h7⟩ := hv
  by_cases a : vk v ≤ 1
  · obtain ⟨rfl, rfl, rfl⟩ := h1 a
    exact ⟨1, 0, 0, .null, fun _ => 0, hp, hp2, by omega, by omega, Or.inl ⟨rfl, rfl⟩, fun b => by omega, fun _ => rfl⟩
  · by_cases b : vk v = 7
    · obtain ⟨rfl, -⟩ := h7 b
      exact ⟨1, fr, 0, vals, fun _ => 0, hp, hp2, hfr, by omega, Or.inl ⟨rfl, rfl⟩, fun _ c => by omega, fun _ => rfl⟩
    · obtain ⟨hn, n, f, hr, hb, hf⟩ := h3 (by omega) (by have := hw.1; omega)
      refine ⟨row, fr, n, vals, f, hp, hp2, hfr, ?_, hr, fun _ _ => ⟨hb, hf⟩, fun c => absurd c b⟩
      rcases hr with ⟨-, rfl⟩ | ⟨-, -, h9, -⟩ <;> omega
theorem hl_newa {h : mj_H} {e : mj_E} {a : Nat} (ha : h.length = a) : (h ++ [e])[a]? = some e := by subst ha; exact hl_new
theorem hl_setll {h : mj_H} {e e' e2 : mj_E} : ((h ++ [e]) ++ [e2]).set h.length e' = (h ++ [e']) ++ [e2] := by
  rw [List.set_append_left _ _ (by simp), hl_setl]
abbrev c0V : mj_E := cO 10 [ii 0, .long (Int64.ofInt 0), .null, .null, ii 0, ii 0, ii 0, ii 0, ii 0]
/-- SIZE and LEVELS as the class works them out of no nest's form -/
def csz (form many cols : Int) : Int := if form = 6 then 1 + many * cols else if 2 ≤ form ∧ form ≤ 5 then 1 + many else 1
def clv (form : Int) : Int := if form = 6 then 2 else if 2 ≤ form ∧ form ≤ 5 then 1 else 0
abbrev cVal (form : Int) (num : Int64) (row : Nat) (fr many cols : Int) : mj_E := cO 10 [ii form, .long num, .ref row, .null, ii fr, ii many, ii cols, ii (csz form many cols), ii (clv form)]
/-- an answer that is a value: a new one, or one that was there; the heap grows by at most a cells of b slots -/
def vres (A : Nat → Prop) (h : mj_H) (e : Nat) (w : VV) (a b : Nat) (r : Value) (h' : mj_H) : Prop := ∃ q X, r = .ref q ∧ h' = h ++ X ∧ X.length ≤ a ∧ mj_sl X ≤ b ∧ cv (newA A h h') h' e q w
/-- a value's item -/
def vit (v : VV) (i : Nat) : VV := if vk v ≤ 1 then v else if vk v = 7 then vd v i else if vk v = 6 then vrow 4 (vc v) (fun k => vn v (i * vc v + k)) else v1 (if vk v = 3 then 1 else 0) (vn v i)
theorem vw1_row {k n : Nat} {f : Nat → Int64} (h : 3 ≤ k) (h5 : k ≤ 5) (hn : n ≤ 120) : vw1 (vrow k n f) := by
  refine ⟨?_, ?_, ?_, ?_, ?_, ?_⟩
  · show k ≤ 7; omega
  · intro (z : k ≤ 1); omega
  · intro _ _; exact ⟨hn, rfl⟩
  · intro (z : k = 6); omega
  · intro (z : k = 7); omega
  · intro (z : k = 2); omega
theorem vw1_bits {n : Nat} {f : Nat → Int64} (hn : n ≤ 120) (hf : ∀ k, k < n → f k = 0 ∨ f k = 1) : vw1 (vrow 2 n f) := by
  refine ⟨?_, ?_, ?_, ?_, ?_, ?_⟩
  · show 2 ≤ 7; omega
  · intro (z : 2 ≤ 1); omega
  · intro _ _; exact ⟨hn, rfl⟩
  · intro (z : 2 = 6); omega
  · intro (z : 2 = 7); omega
  · intro _; exact hf
theorem vw1_one {k : Nat} {x : Int64} (h : k ≤ 1) : vw1 (v1 k x) := by
  refine ⟨?_, ?_, ?_, ?_, ?_, ?_⟩
  · show k ≤ 7; omega
  · intro _; exact ⟨rfl, rfl⟩
  · intro (z : 2 ≤ k); omega
  · intro (z : k = 6); omega
  · intro (z : k = 7); omega
  · intro (z : k = 2); omega
theorem vw1_tab {r c : Nat} {f : Nat → Int64} (h1 : 1 ≤ r) (h2 : r ≤ 12) (h3 : 1 ≤ c) (h4 : c ≤ 12) (hf : ∀ k, k < r * c → fits (f k)) : vw1 (vtab r c f) := by
  refine ⟨?_, ?_, ?_, ?_, ?_, ?_⟩
  · show 6 ≤ 7; omega
  · intro (z : 6 ≤ 1); omega
  · intro _ (z : 6 ≤ 5); omega
  · intro _; exact ⟨h1, h2, h3, h4, hf⟩
  · intro (z : 6 = 7); omega
  · intro (z : 6 = 2); omega
/-- a cell of no nest is a value -/
theorem cv_one {A : Nat → Prop} {h : mj_H} {p e k : Nat} {x : Int64} (hg : h[p]? = some (cVal (k : Int) x 1 0 1 0)) (hk : k ≤ 1) (h2 : 2 ≤ p) (hA : A p) : cv A h (e + 1) p (v1 k x) := by
  have e1 : vsz (e + 1) (v1 k x) = 1 := vsz_1 hk
  have e2 : vlv (e + 1) (v1 k x) = 0 := by unfold vlv; rw [if_pos (show vk (v1 k x) ≤ 1 from hk)]
  refine ⟨vw1_one hk, ⟨h2, hA⟩, by omega, by omega, 1, 0, .null, ?_, by omega, fun _ => ⟨rfl, rfl, rfl⟩, fun (z : 2 ≤ k) => by omega, fun (z : k = 7) => by omega⟩
  have e3 : csz (k : Int) 1 0 = 1 := by unfold csz; rw [if_neg (by omega), if_neg (by omega)]
  have e4 : clv (k : Int) = 0 := by unfold clv; rw [if_neg (by omega), if_neg (by omega)]
  have e5 : cnum (v1 k x) = x := by unfold cnum; rw [if_pos (show vk (v1 k x) ≤ 1 from hk)]; rfl
  rw [e1, e2, hg, cVal, e3, e4, e5]
  rfl
theorem cv_flat {A : Nat → Prop} {h : mj_H} {p e row fr n : Nat} {f : Nat → Int64} {w : VV} (hg : h[p]? = some (cVal (vk w : Int) 0 row (fr : Int) (vm w : Int) (vc w : Int))) (hw : vw1 w) (hk : 2 ≤ vk w) (hk6 : vk w ≤ 6) (h2 : 2 ≤ p) (hA : A p) (hr : rowAt A h row n f) (hfr : fr ≤ 1000) (hb : 0 < vq w → fr + vq w ≤ n) (hf : ∀ k, k < vq w → f (fr + k) = vn w k) : cv A h (e + 1) p w := by
  have e1 := vq_sz (d := e) hk hk6
  have hq := vq_le hw
  have e2 : (vlv (e + 1) w : Int) = clv (vk w : Int) := by
    unfold vlv clv
    by_cases a : vk w = 6
    · rw [if_neg (by omega), if_pos a, if_pos (by omega)]; rfl
    · rw [if_neg (by omega), if_neg a, if_neg (by omega), if_neg (by omega), if_pos (by omega)]; rfl
  have e3 : (vsz (e + 1) w : Int) = csz (vk w : Int) (vm w : Int) (vc w : Int) := by
    unfold vsz csz
    by_cases a : vk w = 6
    · rw [if_neg (by omega), if_pos a, if_pos (by omega)]; push_cast; rfl
    · rw [if_neg (by omega), if_neg a, if_neg (by omega), if_neg (by omega), if_pos (by omega)]; push_cast; rfl
  have e4 : clv (vk w : Int) ≤ 2 := by
    unfold clv; split
    · omega
    · split <;> omega
  refine ⟨hw, ⟨h2, hA⟩, by omega, by omega, row, fr, .null, ?_, hfr, fun z => by omega, fun _ _ => ⟨rfl, n, f, hr, hb, hf⟩, fun z => by omega⟩
  rw [e2, e3, hg]
  unfold cnum
  rw [if_neg (by omega)]
