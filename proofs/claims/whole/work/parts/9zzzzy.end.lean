/-! the claim's pure half -/
theorem w_pure (L : Nat) (hL : L ≤ 3072) (xs : Nat → Int32) : ∃ N h', pg_law L xs N = some (some (.int 1), h') ∧ h'.length ≤ 600002 ∧ mj_sl h' ≤ 7302250 := by
  obtain ⟨r, h', ⟨N0, hr⟩, rfl, h1, h2⟩ := w_pre (xt := pg_xt L xs) (P := fun r h' => r = some (.int 1) ∧ h'.length ≤ 600002 ∧ mj_sl h' ≤ 7302250) (w_loop hL rmo rmt rso rst2 512 0 hS0 rfl INV_0)
  exact ⟨N0, h', hr N0 N0 (Nat.le_refl _) (Nat.le_refl _), h1, h2⟩
theorem whole_start {p : Program} {e : Env} {s : State} {m : MethodId} {below : List Frame} {meth : Method} {c : Code} (l : Launch) {b L : Nat} {xs : Nat → Int32} (hL : L ≤ 3072) (C0 : lw_At p s m meth c b L xs) : W p l e room_1 s m #[Value.ref b] below meth c s.heap [] 0 0 (lw_Z below #[Value.ref b] s) (entryFrame m ([Value.ref b] : List Value).toArray 4) := pg_start l C0 (w_pure L hL xs)
