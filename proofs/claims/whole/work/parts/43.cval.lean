/-! the class's values: what a cell of class Value means -/
def cnum (v : VV) : Int64 := if vk v ≤ 1 then vn v 0 else 0
/-- a row of longs: the class's empty one, or a cell -/
def rowAt (h : mj_H) (row n : Nat) (f : Nat → Int64) : Prop := (row = 1 ∧ n = 0) ∨ (2 ≤ row ∧ h[row]? = some (cJ n f) ∧ n ≤ 1000)
def cv (h : mj_H) : Nat → Nat → VV → Prop
  | 0, _, _ => False
  | d + 1, p, v => vw1 v ∧ 2 ≤ p ∧ vsz (d + 1) v ≤ 30000 ∧ vlv (d + 1) v ≤ 30 ∧ ∃ (row fr : Nat) (vals : Value), h[p]? = some (cO 10 [ii (vk v : Int), .long (cnum v), .ref row, vals, ii (fr : Int), ii (vm v : Int), ii (vc v : Int), ii (vsz (d + 1) v : Int), ii (vlv (d + 1) v : Int)]) ∧ fr ≤ 1000 ∧ (vk v ≤ 1 → row = 1 ∧ fr = 0 ∧ vals = .null) ∧ (2 ≤ vk v → vk v ≤ 6 → vals = .null ∧ ∃ n f, rowAt h row n f ∧ (0 < vq v → fr + vq v ≤ n) ∧ ∀ k, k < vq v → f (fr + k) = vn v k) ∧ (vk v = 7 → row = 1 ∧ ((vm v = 0 ∧ vals = .null) ∨ ∃ a n g, vals = .ref a ∧ 2 ≤ a ∧ h[a]? = some (cA 4 n g) ∧ n ≤ 1000 ∧ fr + vm v ≤ n ∧ ∀ k, k < vm v → ∃ q, g (fr + k) = some q ∧ cv h d q (vd v k)))
/-- the numbers of a value by place, as the class tells them -/
def vnum (v : VV) (i : Int) : Int64 := if vk v ≤ 1 then vn v 0 else if 0 ≤ i ∧ i < vq v then vn v i.toNat else 0
theorem vw1_m {v : VV} (h : vw1 v) : vm v ≤ 120 ∧ vc v ≤ 12 ∧ vk v ≤ 7 := by
  obtain ⟨h0, h1, h2, h3, h4, -⟩ := h
  by_cases a : vk v ≤ 1
  · have := h1 a; omega
  · by_cases b : vk v ≤ 5
    · have := h2 (by omega) b; omega
    · by_cases c : vk v = 6
      · have := h3 c; omega
      · have := h4 (by omega); omega
theorem vq_le {v : VV} (h : vw1 v) : vq v ≤ 144 := by
  have hm := vw1_m h
  unfold vq
  split
  · rename_i h6
    obtain ⟨a1, a2, a3, a4, -⟩ := h.2.2.2.1 h6
    have := Nat.mul_le_mul a2 a4
    omega
  · split
    · omega
    · omega
theorem vq_sz {v : VV} {d : Nat} (h : 2 ≤ vk v) (h6 : vk v ≤ 6) : vsz (d + 1) v = 1 + vq v := by
  unfold vsz vq
  rw [if_neg (by omega)]
  by_cases a : vk v = 6
  · rw [if_pos a, if_pos a]
  · rw [if_neg a, if_neg (by omega), if_neg a, if_neg (by omega)]
theorem cv_wf {h : mj_H} {d : Nat} : ∀ {p : Nat} {v : VV}, cv h d p v → vwf d v := by
  induction d with
  | zero => intro p v hv; cases hv
  | succ d ih =>
    intro p v hv
    obtain ⟨hw, h2, hs, hl, row, fr, vals, hp, hf, h1, h3, h7⟩ := hv
    refine ⟨hw, fun h8 k hk => ?_⟩
    rcases (h7 h8).2 with ⟨h9, -⟩ | ⟨a, n, g, -, -, -, -, -, h9⟩
    · omega
    · obtain ⟨q, -, hq⟩ := h9 k hk
      exact ih hq
/-- the cells of a heap that stay -/
def keepsC (h h' : mj_H) (A : Nat → Prop) : Prop := ∀ a e, A a → h[a]? = some e → h'[a]? = some e
section CV
variable {T : mj_T} {xt : mj_X} {ini : Bool} {S : List Value} {h : mj_H} {row n : Nat} {f : Nat → Int64} {f1 : Nat → Value}
theorem yh_rlen (hx1 : xt 1 = some (.long, 0, f1)) (hr : rowAt h row n f) : mj_hp T xt pg_tl 2 ini .arraylength (.ref row :: S) h = some (ii (n : Int) :: S, h) := by
  rcases hr with ⟨rfl, rfl⟩ | ⟨h2, hg, -⟩
  · exact x_len hx1 (by decide) (n_ofNat 0)
  · exact yh_len rfl hg h2
theorem yh_rald {j : Int} {w : Int64} (hr : rowAt h row n f) (h0 : 0 ≤ j) (h1 : j < n) (he : f j.toNat = w) : mj_hp T xt pg_tl 2 ini .laload (ii j :: .ref row :: S) h = some (.long w :: S, h) := by
  rcases hr with ⟨rfl, rfl⟩ | ⟨h2, hg, h3⟩
  · omega
  · exact yh_lald hg h0 h1 (by omega) h2 he
end CV
theorem zt {c : Prop} [Decidable c] (h : c) : ii 1 = zz (decide c) := by rw [zz, zi, if_pos (decide_eq_true h)]
theorem zf {c : Prop} [Decidable c] (h : ¬ c) : ii 0 = zz (decide c) := by rw [zz, zi, if_neg (by simpa using h)]
theorem zd {b : Bool} {c : Prop} [Decidable c] (h : b = true ↔ c) : zz b = zz (decide c) := by
  cases b with
  | true => rw [decide_eq_true (h.mp rfl)]
  | false => rw [decide_eq_false (fun z => by cases h.mpr z)]
theorem dT {c : Prop} [Decidable c] (h : decide c = true) : c := of_decide_eq_true h
theorem dF {c : Prop} [Decidable c] (h : decide c = false) : ¬ c := of_decide_eq_false h
theorem rw_app {h X : mj_H} {row n : Nat} {f : Nat → Int64} (hr : rowAt h row n f) : rowAt (h ++ X) row n f := by
  rcases hr with h1 | ⟨h2, hg, h3⟩
  · exact Or.inl h1
  · exact Or.inr ⟨h2, hl_app hg, h3⟩
theorem rw_ne {h : mj_H} {a row n : Nat} {e : mj_E} {f : Nat → Int64} (hn : row ≠ a) (hr : rowAt h row n f) : rowAt (h.set a e) row n f := by
  rcases hr with h1 | ⟨h2, hg, h3⟩
  · exact Or.inl h1
  · exact Or.inr ⟨h2, hl_ne hn hg, h3⟩
theorem vnum_1 {v : VV} {i : Int} (h : vk v ≤ 1) : vnum v i = vn v 0 := by unfold vnum; rw [if_pos h]
theorem vnum_r {v : VV} {i : Int} (h : 2 ≤ vk v) (h0 : 0 ≤ i) (h1 : i < vq v) : vnum v i = vn v i.toNat := by unfold vnum; rw [if_neg (by omega), if_pos ⟨h0, h1⟩]
theorem vnum_o {v : VV} {i : Int} (h : 2 ≤ vk v) (h1 : i < 0 ∨ vq v ≤ i) : vnum v i = 0 := by unfold vnum; rw [if_neg (by omega), if_neg (by omega)]
theorem vnum_c {v : VV} {i : Int} (h : vk v ≤ 1 ∨ i < 0 ∨ vq v ≤ i) : vnum v i = cnum v := by
  unfold cnum
  by_cases a : vk v ≤ 1
  · rw [vnum_1 a, if_pos a]
  · rw [vnum_o (by omega) (by omega), if_neg a]
theorem vsz_1 {v : VV} {d : Nat} (h : vk v ≤ 1) : vsz (d + 1) v = 1 := by unfold vsz; rw [if_pos h]
theorem vq_7 {v : VV} (h : vk v = 7) : vq v = 0 := by unfold vq; rw [if_neg (by omega), if_pos h]
theorem vq_1 {v : VV} (h : vw1 v) (h1 : vk v ≤ 1) : vq v = 1 := by unfold vq; rw [if_neg (by omega), if_neg (by omega)]; exact (h.2.1 h1).1
/-- what every cell of a value has of numbers -/
theorem cv_row {h : mj_H} {d p : Nat} {v : VV} (hv : cv h (d + 1) p v) : ∃ (row fr n : Nat) (vals : Value) (f : Nat → Int64), h[p]? = some (cO 10 [ii (vk v : Int), .long (cnum v), .ref row, vals, ii (fr : Int), ii (vm v : Int), ii (vc v : Int), ii (vsz (d + 1) v : Int), ii (vlv (d + 1) v : Int)]) ∧ 2 ≤ p ∧ fr ≤ 1000 ∧ n ≤ 1000 ∧ rowAt h row n f ∧ (2 ≤ vk v → vk v ≤ 6 → (0 < vq v → fr + vq v ≤ n) ∧ ∀ k, k < vq v → f (fr + k) = vn v k) ∧ (vk v = 7 → n = 0) := by
  obtain ⟨hw, hp2, hsz, hlv, row, fr, vals, hp, hfr, h1, h3, h7⟩ := hv
  by_cases a : vk v ≤ 1
  · obtain ⟨rfl, rfl, rfl⟩ := h1 a
    exact ⟨1, 0, 0, .null, fun _ => 0, hp, hp2, by omega, by omega, Or.inl ⟨rfl, rfl⟩, fun b => by omega, fun _ => rfl⟩
  · by_cases b : vk v = 7
    · obtain ⟨rfl, -⟩ := h7 b
      exact ⟨1, fr, 0, vals, fun _ => 0, hp, hp2, hfr, by omega, Or.inl ⟨rfl, rfl⟩, fun _ c => by omega, fun _ => rfl⟩
    · obtain ⟨hn, n, f, hr, hb, hf⟩ := h3 (by omega) (by have := hw.1; omega)
      refine ⟨row, fr, n, vals, f, hp, hp2, hfr, ?_, hr, fun _ _ => ⟨hb, hf⟩, fun c => absurd c b⟩
      rcases hr with ⟨-, rfl⟩ | ⟨-, -, h9⟩ <;> omega
