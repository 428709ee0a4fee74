/-! feed: both tapes have the same bytes -/
theorem g4_f4 {rf bf : Nat → Int} {f : Nat} {a : Int} (h : ∀ j, rf j % 256 = bf j) : ∀ j, g4 rf f a j % 256 = f4 bf f a j := fun j => by
  have q : ∀ k : Nat, ∀ x : Int, b8 x % 256 = x % 256 := fun _ x => (b8_r x).2.2
  unfold g4 f4
  by_cases h3 : j = f + 3
  · rw [h3, up_eq, up_eq, q 0]
    unfold byN
    show a / 1 % 256 = a % 4294967296 / 1 % 256
    omega
  rw [up_ne _ _ h3, up_ne _ _ h3]
  by_cases h2 : j = f + 2
  · rw [h2, up_eq, up_eq, q 0]
    unfold byN
    show a / 256 % 256 = a % 4294967296 / 256 % 256
    omega
  rw [up_ne _ _ h2, up_ne _ _ h2]
  by_cases h1 : j = f + 1
  · rw [h1, up_eq, up_eq, q 0]
    unfold byN
    show a / 65536 % 256 = a % 4294967296 / 65536 % 256
    omega
  rw [up_ne _ _ h1, up_ne _ _ h1]
  by_cases h0 : j = f
  · rw [h0, up_eq, up_eq, q 0]
    unfold byN
    show a / 16777216 % 256 = a % 4294967296 / 16777216 % 256
    omega
  rw [up_ne _ _ h0, up_ne _ _ h0]
  exact h j
theorem g4_r {rf : Nat → Int} {f : Nat} {a : Int} (h : ∀ j, -128 ≤ rf j ∧ rf j ≤ 127) : ∀ j, -128 ≤ g4 rf f a j ∧ g4 rf f a j ≤ 127 := fun j => by
  have q : ∀ x : Int, -128 ≤ b8 x ∧ b8 x ≤ 127 := fun x => ⟨(b8_r x).1, (b8_r x).2.1⟩
  unfold g4
  by_cases h3 : j = f + 3
  · rw [h3, up_eq]; exact q _
  rw [up_ne _ _ h3]
  by_cases h2 : j = f + 2
  · rw [h2, up_eq]; exact q _
  rw [up_ne _ _ h2]
  by_cases h1 : j = f + 1
  · rw [h1, up_eq]; exact q _
  rw [up_ne _ _ h1]
  by_cases h0 : j = f
  · rw [h0, up_eq]; exact q _
  rw [up_ne _ _ h0]
  exact h j
theorem f4_r {bf : Nat → Int} {f : Nat} {a : Int} (h : ∀ j, 0 ≤ bf j ∧ bf j ≤ 255) : ∀ j, 0 ≤ f4 bf f a j ∧ f4 bf f a j ≤ 255 := fun j => by
  unfold f4
  by_cases h3 : j = f + 3
  · rw [h3, up_eq]; exact byN_r _ _
  rw [up_ne _ _ h3]
  by_cases h2 : j = f + 2
  · rw [h2, up_eq]; exact byN_r _ _
  rw [up_ne _ _ h2]
  by_cases h1 : j = f + 1
  · rw [h1, up_eq]; exact byN_r _ _
  rw [up_ne _ _ h1]
  by_cases h0 : j = f
  · rw [h0, up_eq]; exact byN_r _ _
  rw [up_ne _ _ h0]
  exact h j
