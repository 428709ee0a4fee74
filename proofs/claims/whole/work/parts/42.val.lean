/-! values, as both sides mean them: at each path from the top the kind, how many items, the columns, the numbers -/
abbrev VV : Type := List Nat → Nat × Nat × Nat × (Nat → Int64)
def vk (v : VV) : Nat := (v []).1
def vm (v : VV) : Nat := (v []).2.1
def vc (v : VV) : Nat := (v []).2.2.1
def vn (v : VV) (k : Nat) : Int64 := (v []).2.2.2 k
/-- a nest's value at k -/
def vd (v : VV) (k : Nat) : VV := fun p => v (k :: p)
def vmk (k m c : Nat) (f : Nat → Int64) (ch : Nat → VV) : VV := fun p => match p with
  | [] => (k, m, c, f)
  | j :: p => ch j p
def v0 : VV := fun _ => (0, 1, 0, fun _ => 0)
def v1 (k : Nat) (x : Int64) : VV := vmk k 1 0 (fun _ => x) (fun _ => v0)
def vrow (k n : Nat) (f : Nat → Int64) : VV := vmk k n 0 f (fun _ => v0)
def vtab (r c : Nat) (f : Nat → Int64) : VV := vmk 6 r c f (fun _ => v0)
def vnest (n : Nat) (ch : Nat → VV) : VV := vmk 7 n 0 (fun _ => 0) ch
theorem vk_mk (k m c : Nat) (f : Nat → Int64) (ch : Nat → VV) : vk (vmk k m c f ch) = k := rfl
theorem vm_mk (k m c : Nat) (f : Nat → Int64) (ch : Nat → VV) : vm (vmk k m c f ch) = m := rfl
theorem vc_mk (k m c : Nat) (f : Nat → Int64) (ch : Nat → VV) : vc (vmk k m c f ch) = c := rfl
theorem vn_mk (k m c : Nat) (f : Nat → Int64) (ch : Nat → VV) : vn (vmk k m c f ch) = f := rfl
theorem vd_mk (k m c : Nat) (f : Nat → Int64) (ch : Nat → VV) (j : Nat) : vd (vmk k m c f ch) j = ch j := rfl
/-- how many numbers it has by itself -/
def vq (v : VV) : Nat := if vk v = 6 then vm v * vc v else if vk v = 7 then 0 else vm v
def sumN (n : Nat) (f : Nat → Nat) : Nat := match n with
  | 0 => 0
  | n + 1 => sumN n f + f n
def maxN (n : Nat) (f : Nat → Nat) : Nat := match n with
  | 0 => 0
  | n + 1 => max (maxN n f) (f n)
theorem sumN_congr {n : Nat} {f g : Nat → Nat} (h : ∀ k, k < n → f k = g k) : sumN n f = sumN n g := by
  induction n with
  | zero => rfl
  | succ n ih =>
    unfold sumN
    rw [ih (fun k hk => h k (by omega)), h n (by omega)]
theorem maxN_congr {n : Nat} {f g : Nat → Nat} (h : ∀ k, k < n → f k = g k) : maxN n f = maxN n g := by
  induction n with
  | zero => rfl
  | succ n ih =>
    unfold maxN
    rw [ih (fun k hk => h k (by omega)), h n (by omega)]
theorem sumN_le {n : Nat} {f g : Nat → Nat} (h : ∀ k, k < n → f k ≤ g k) : sumN n f ≤ sumN n g := by
  induction n with
  | zero => exact Nat.le_refl _
  | succ n ih =>
    unfold sumN
    have := ih (fun k hk => h k (by omega))
    have := h n (by omega)
    omega
theorem sumN_mem {n k : Nat} {f : Nat → Nat} (h : k < n) : f k ≤ sumN n f := by
  induction n with
  | zero => omega
  | succ n ih =>
    unfold sumN
    by_cases hk : k = n
    · subst hk; omega
    · have := ih (by omega); omega
theorem maxN_mem {n k : Nat} {f : Nat → Nat} (h : k < n) : f k ≤ maxN n f := by
  induction n with
  | zero => omega
  | succ n ih =>
    unfold maxN
    by_cases hk : k = n
    · subst hk; omega
    · have := ih (by omega); omega
theorem maxN_le {n b : Nat} {f : Nat → Nat} (h : ∀ k, k < n → f k ≤ b) : maxN n f ≤ b := by
  induction n with
  | zero => exact Nat.zero_le _
  | succ n ih =>
    unfold maxN
    have := ih (fun k hk => h k (by omega))
    have := h n (by omega)
    omega
/-- SIZE and LEVELS, down to a depth -/
def vsz : Nat → VV → Nat
  | 0, _ => 0
  | d + 1, v => if vk v ≤ 1 then 1 else if vk v = 6 then 1 + vm v * vc v else if vk v = 7 then 1 + sumN (vm v) (fun k => vsz d (vd v k)) else 1 + vm v
def vlv : Nat → VV → Nat
  | 0, _ => 0
  | d + 1, v => if vk v ≤ 1 then 0 else if vk v = 6 then 2 else if vk v = 7 then 1 + maxN (vm v) (fun k => vlv d (vd v k)) else 1
def fits (x : Int64) : Prop := -2147483648 ≤ x.toInt ∧ x.toInt ≤ 2147483647
/-- what holds of a value at its top -/
def vw1 (v : VV) : Prop := vk v ≤ 7 ∧ (vk v ≤ 1 → vm v = 1 ∧ vc v = 0) ∧ (2 ≤ vk v → vk v ≤ 5 → vm v ≤ 120 ∧ vc v = 0) ∧ (vk v = 6 → 1 ≤ vm v ∧ vm v ≤ 12 ∧ 1 ≤ vc v ∧ vc v ≤ 12 ∧ ∀ k, k < vm v * vc v → fits (vn v k)) ∧ (vk v = 7 → vm v ≤ 24 ∧ vc v = 0) ∧ (vk v = 2 → ∀ k, k < vm v → vn v k = 0 ∨ vn v k = 1)
/-- and all the way down -/
def vwf : Nat → VV → Prop
  | 0, _ => False
  | d + 1, v => vw1 v ∧ (vk v = 7 → ∀ k, k < vm v → vwf d (vd v k))
theorem vwf_up {d : Nat} : ∀ {v : VV}, vwf d v → vwf (d + 1) v := by
  induction d with
  | zero => intro v h; cases h
  | succ d ih => intro v h; exact ⟨h.1, fun h7 k hk => ih (h.2 h7 k hk)⟩
theorem vsz_up {d : Nat} : ∀ {v : VV}, vwf d v → vsz (d + 1) v = vsz d v := by
  induction d with
  | zero => intro v h; cases h
  | succ d ih =>
    intro v h
    show (if vk v ≤ 1 then 1 else if vk v = 6 then 1 + vm v * vc v else if vk v = 7 then 1 + sumN (vm v) (fun k => vsz (d + 1) (vd v k)) else 1 + vm v) = (if vk v ≤ 1 then 1 else if vk v = 6 then 1 + vm v * vc v else if vk v = 7 then 1 + sumN (vm v) (fun k => vsz d (vd v k)) else 1 + vm v)
    by_cases h7 : vk v = 7
    · rw [sumN_congr (fun k hk => ih (h.2 h7 k hk))]
    · simp only [if_neg h7]
theorem vlv_up {d : Nat} : ∀ {v : VV}, vwf d v → vlv (d + 1) v = vlv d v := by
  induction d with
  | zero => intro v h; cases h
  | succ d ih =>
    intro v h
    show (if vk v ≤ 1 then 0 else if vk v = 6 then 2 else if vk v = 7 then 1 + maxN (vm v) (fun k => vlv (d + 1) (vd v k)) else 1) = (if vk v ≤ 1 then 0 else if vk v = 6 then 2 else if vk v = 7 then 1 + maxN (vm v) (fun k => vlv d (vd v k)) else 1)
    by_cases h7 : vk v = 7
    · rw [maxN_congr (fun k hk => ih (h.2 h7 k hk))]
    · simp only [if_neg h7]
theorem vsz_pos {d : Nat} {v : VV} : 1 ≤ vsz (d + 1) v := by
  show 1 ≤ if vk v ≤ 1 then 1 else if vk v = 6 then 1 + vm v * vc v else if vk v = 7 then 1 + sumN (vm v) (fun k => vsz d (vd v k)) else 1 + vm v
  split
  · omega
  · split
    · omega
    · split <;> omega
/-- at most so large at a depth -/
theorem vsz_le {d : Nat} : ∀ {v : VV}, vwf d v → vsz d v ≤ 145 * 25 ^ d := by
  induction d with
  | zero => intro v h; cases h
  | succ d ih =>
    intro v h
    obtain ⟨⟨h0, h1, h2, h3, h4, h5⟩, h6⟩ := h
    have hp : 25 ≤ 25 ^ (d + 1) := by
      have : 1 ≤ 25 ^ d := Nat.one_le_pow _ _ (by omega)
      rw [Nat.pow_succ]; omega
    show (if vk v ≤ 1 then 1 else if vk v = 6 then 1 + vm v * vc v else if vk v = 7 then 1 + sumN (vm v) (fun k => vsz d (vd v k)) else 1 + vm v) ≤ _
    by_cases k1 : vk v ≤ 1
    · rw [if_pos k1]; omega
    · rw [if_neg k1]
      by_cases k6 : vk v = 6
      · rw [if_pos k6]
        obtain ⟨a1, a2, a3, a4, -⟩ := h3 k6
        have := Nat.mul_le_mul a2 a4
        omega
      · rw [if_neg k6]
        by_cases k7 : vk v = 7
        · rw [if_pos k7]
          have hs : ∀ n, n ≤ vm v → sumN n (fun k => vsz d (vd v k)) ≤ n * (145 * 25 ^ d) := by
            intro n
            induction n with
            | zero => intro _; exact Nat.zero_le _
            | succ n ihn =>
              intro hn
              have e1 := ihn (by omega)
              have e2 := ih (h6 k7 n (by omega))
              show sumN n _ + vsz d (vd v n) ≤ _
              rw [Nat.add_mul, Nat.one_mul]
              omega
          have e1 := hs (vm v) (Nat.le_refl _)
          have e2 := Nat.mul_le_mul_right (145 * 25 ^ d) (h4 k7).1
          have e3 : 145 * 25 ^ (d + 1) = 25 * (145 * 25 ^ d) := by rw [Nat.pow_succ, Nat.mul_comm (25 ^ d) 25, ← Nat.mul_assoc, ← Nat.mul_assoc, Nat.mul_comm 145 25]
          have e4 : 1 ≤ 25 ^ d := Nat.one_le_pow _ _ (by omega)
          omega
        · rw [if_neg k7]
          have := (h2 (by omega) (by omega)).1
          omega
