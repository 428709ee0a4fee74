/-! a value of few levels at a lower depth -/
theorem le_maxN {n : Nat} {f : Nat → Nat} : ∀ {k : Nat}, k < n → f k ≤ maxN n f := by
  induction n with
  | zero => intro k h; exact absurd h (Nat.not_lt_zero k)
  | succ n ih =>
    intro k h
    show f k ≤ max (maxN n f) (f n)
    by_cases z : k = n
    · rw [z]; omega
    · have := ih (k := k) (by omega)
      omega
theorem vlv_ch {d : Nat} {v : VV} {c : Nat} (h7 : vk v = 7) (h : vlv (d + 1) v < c + 1) : ∀ k, k < vm v → vlv d (vd v k) < c := by
  have e : vlv (d + 1) v = 1 + maxN (vm v) (fun k => vlv d (vd v k)) := by
    show (if vk v ≤ 1 then 0 else if vk v = 6 then 2 else if vk v = 7 then 1 + maxN (vm v) (fun k => vlv d (vd v k)) else 1) = _
    rw [if_neg (by omega), if_neg (by omega), if_pos h7]
  rw [e] at h
  intro k hk
  have a : vlv d (vd v k) ≤ maxN (vm v) (fun k => vlv d (vd v k)) := le_maxN (f := fun k => vlv d (vd v k)) hk
  omega
theorem v_same {c d : Nat} {v : VV} (hc : vk v = 7 → ∀ k, k < vm v → vsz c (vd v k) = vsz d (vd v k) ∧ vlv c (vd v k) = vlv d (vd v k)) : vsz (c + 1) v = vsz (d + 1) v ∧ vlv (c + 1) v = vlv (d + 1) v := by
  show (if vk v ≤ 1 then 1 else if vk v = 6 then 1 + vm v * vc v else if vk v = 7 then 1 + sumN (vm v) (fun k => vsz c (vd v k)) else 1 + vm v) = (if vk v ≤ 1 then 1 else if vk v = 6 then 1 + vm v * vc v else if vk v = 7 then 1 + sumN (vm v) (fun k => vsz d (vd v k)) else 1 + vm v) ∧ (if vk v ≤ 1 then 0 else if vk v = 6 then 2 else if vk v = 7 then 1 + maxN (vm v) (fun k => vlv c (vd v k)) else 1) = (if vk v ≤ 1 then 0 else if vk v = 6 then 2 else if vk v = 7 then 1 + maxN (vm v) (fun k => vlv d (vd v k)) else 1)
  by_cases h7 : vk v = 7
  · rw [sumN_congr (fun k hk => (hc h7 k hk).1), maxN_congr (fun k hk => (hc h7 k hk).2)]
    exact ⟨rfl, rfl⟩
  · rw [if_neg h7, if_neg h7, if_neg h7, if_neg h7]
    exact ⟨rfl, rfl⟩
theorem cv_low {A : Nat → Prop} {h : mj_H} : ∀ (c d p : Nat) (v : VV), cv A h d p v → vlv d v < c → cv A h c p v ∧ vsz c v = vsz d v ∧ vlv c v = vlv d v := by
  intro c
  induction c with
  | zero => intro d p v _ hl; exact absurd hl (Nat.not_lt_zero _)
  | succ c ih =>
    intro d p v hv hl
    cases d with
    | zero => exact hv.elim
    | succ d =>
      obtain ⟨hw, hp2, hsz, hlv, row, fr, vals, hp, hfr, g1, g3, g7⟩ := hv
      have hch : vk v = 7 → ∀ k, k < vm v → ∃ q, cv A h d q (vd v k) := fun z k hk => by
        obtain ⟨-, h8⟩ := g7 z
        rcases h8 with h9 | ⟨b, n, g, c1, c2, c3, c4, c5, c6, c7⟩
        · omega
        · obtain ⟨q, -, q2⟩ := c7 k hk
          exact ⟨q, q2⟩
      have es := v_same (c := c) (d := d) (v := v) (fun z k hk => by
        obtain ⟨q, hq⟩ := hch z k hk
        exact (ih d q (vd v k) hq (vlv_ch z hl k hk)).2)
      refine ⟨⟨hw, hp2, by rw [es.1]; exact hsz, by rw [es.2]; exact hlv, row, fr, vals, by rw [es.1, es.2]; exact hp, hfr, g1, g3, fun z => ?_⟩, es⟩
      obtain ⟨hr, h8⟩ := g7 z
      refine ⟨hr, ?_⟩
      rcases h8 with h9 | ⟨b, n, g, c1, c2, c3, c4, c5, c6, c7⟩
      · exact Or.inl h9
      · refine Or.inr ⟨b, n, g, c1, c2, c3, c4, c5, c6, fun k hk => ?_⟩
        obtain ⟨q, q1, q2⟩ := c7 k hk
        exact ⟨q, q1, (ih d q (vd v k) q2 (vlv_ch z hl k hk)).1⟩
theorem rv_low {s : RS} : ∀ (c d hd : Nat) (v : VV), rv s d hd v → vlv d v < c → rv s c hd v ∧ vsz c v = vsz d v ∧ vlv c v = vlv d v := by
  intro c
  induction c with
  | zero => intro d hd v _ hl; exact absurd hl (Nat.not_lt_zero _)
  | succ c ih =>
    intro d hd v hv hl
    cases d with
    | zero => exact hv.elim
    | succ d =>
      obtain ⟨hw, h2, h3, fr, h4, h5, h6, h7⟩ := hv
      have es := v_same (c := c) (d := d) (v := v) (fun z k hk => by
        obtain ⟨q, -, -, hq⟩ := h7 z k hk
        exact (ih d q (vd v k) hq (vlv_ch z hl k hk)).2)
      refine ⟨⟨hw, h2, h3, fr, h4, h5, h6, fun z k hk => ?_⟩, es⟩
      obtain ⟨q, q1, q2, q3⟩ := h7 z k hk
      exact ⟨q, q1, q2, (ih d q (vd v k) q3 (vlv_ch z hl k hk)).1⟩
