/-! what AMENDED makes (RMA, RAM) -/
theorem amL_r (v w u : VV) (k : Nat) : 0 ≤ amL v w u k ∧ amL v w u k ≤ 6 := by
  unfold amL
  have h : lnA (gvF w u k) (vc v) ≤ 6 := by
    unfold lnA
    split
    · omega
    · split
      · omega
      · split
        · omega
        · split <;> omega
  omega
theorem askP_r (v w : VV) : askP v w = 0 ∨ askP v w = 3 ∨ askP v w = 5 := by
  unfold askP
  split
  · omega
  · split <;> omega
theorem amT_x {v w u : VV} (h : errs (amL v w u) (vm w) ≠ 0) : amT v w u = .inl (errs (amL v w u) (vm w)).toNat := by
  unfold amT
  rw [if_pos h]
theorem rma : RMA := by
  intro l w u n h
  have ha := askP_r l w
  by_cases h0 : askP l w = 0
  · by_cases h4 : ¬ (vk w ≤ 1 ∨ vk u ≤ 1) ∧ vm w ≠ vm u
    · rw [amd_4 h0 h4] at h; injection h with h; omega
    · have h4' : (vk w ≤ 1 ∨ vk u ≤ 1) ∨ vm w = vm u := by omega
      cases h7 : allP l w with
      | false => rw [amd_7 h0 h4' h7] at h; injection h with h; omega
      | true =>
        by_cases h6 : vk l = 6
        · rw [amd_t h0 h4' h7 h6] at h
          by_cases he : errs (amL l w u) (vm w) = 0
          · rw [amT_v he] at h; cases h
          · have hr := errs_rg (b := 6) (g := amL l w u) (by decide) (fun k => amL_r l w u k) (vm w)
            rw [amT_x he] at h; injection h with h; omega
        · cases hs : amS l w u (vm w) with
          | true => rw [amd_r h0 h4' h7 h6 hs] at h; cases h
          | false =>
            by_cases h8 : 24 < vm l
            · rw [amd_8 h0 h4' h7 h6 hs h8] at h; injection h with h; omega
            · rw [amd_n h0 h4' h7 h6 hs h8] at h; cases h
  · rw [amd_a rfl h0] at h; injection h with h; omega
theorem ram : RAM := by
  intro l w u r hl hw hu hs1 hs2 hs3 h
  have ha := askP_r l w
  have hlm := vw1_m hl.1
  by_cases h0 : askP l w = 0
  · by_cases h4 : ¬ (vk w ≤ 1 ∨ vk u ≤ 1) ∧ vm w ≠ vm u
    · rw [amd_4 h0 h4] at h; cases h
    · have h4' : (vk w ≤ 1 ∨ vk u ≤ 1) ∨ vm w = vm u := by omega
      have h5 : ¬ (vk w ≤ 1 ∨ vk u ≤ 1) → vm u = vm w := fun z => by omega
      cases h7 : allP l w with
      | false => rw [amd_7 h0 h4' h7] at h; cases h
      | true =>
        by_cases h6 : vk l = 6
        · rw [amd_t h0 h4' h7 h6] at h
          by_cases he : errs (amL l w u) (vm w) = 0
          · rw [amT_v he] at h
            injection h with h
            obtain ⟨t1, t2, t3, t4, -⟩ := hl.1.2.2.2.1 h6
            rw [← h]
            refine ⟨vw1_tab t1 t2 t3 t4 (fun k hk => amT_fit he hl.1 h6 hk (by omega)), ?_, fun z => absurd (show (6 : Nat) = 7 from z) (by decide), h5⟩
            rw [vq_sz (by show 2 ≤ 6; omega) (by show 6 ≤ 6; omega), vq_tab]
            have := Nat.mul_le_mul t2 t4
            omega
          · rw [amT_x he] at h; cases h
        · cases hs : amS l w u (vm w) with
          | true =>
            rw [amd_r h0 h4' h7 h6 hs] at h
            injection h with h
            have hv5 := (amS_iff.mp hs).1
            have hQ := amQ_r l w u (vm w)
            have hK := amQ_K (pj := amP w u) hs
            have hW := amQ_w hl.1 hs
            have hvf := vform_le (m := vm l) (f := rwn l (amP w u))
            rw [← h]
            by_cases q5 : amQ l w u (vm w) = 5
            · rw [hK.2 q5]
              refine ⟨vw1_row (by omega) (by omega) (by omega), ?_, fun z => ?_, h5⟩
              · rw [ga_flat (by omega) (by omega)]; omega
              · have z : vform (vm l) (rwn l (amP w u)) = 7 := z
                omega
            · rw [hK.1 q5]
              refine ⟨hW, ?_, fun z => ?_, h5⟩
              · rw [ga_flat (by omega) (by omega)]; omega
              · have z : amQ l w u (vm w) = 7 := z
                omega
          | false =>
            by_cases h8 : 24 < vm l
            · rw [amd_8 h0 h4' h7 h6 hs h8] at h; cases h
            · rw [amd_n h0 h4' h7 h6 hs h8] at h
              injection h with h
              rw [← h]
              refine ⟨vw1_nest (by omega), ?_, fun _ => rfl, h5⟩
              rw [ga_nest]
              have hb := sumN_bd (n := vm l) (b := 1000) (f := fun k => vsz 7 (nsn l (amP w u) k)) (fun j hj => by
                show vsz 7 (nsn l (amP w u) j) ≤ 1000
                cases hp : amP w u j with
                | none => rw [nsn_n hp]; exact vsz_vit hl hs1 (Or.inr hj)
                | some g =>
                  have e : nsn l (amP w u) j = g := by unfold nsn; rw [hp]
                  rw [e]
                  obtain ⟨k, k1, k2⟩ := amJ_some hp
                  rw [k2]
                  unfold gvF
                  by_cases z : vk w ≤ 1 ∨ vk u ≤ 1
                  · rw [if_pos z]; exact hs3
                  · rw [if_neg z]; exact vsz_vit hu hs3 (Or.inr (by have := h5 z; omega)))
              have := Nat.mul_le_mul_right 1000 (show vm l ≤ 24 by omega)
              omega
  · rw [amd_a rfl h0] at h; cases h
