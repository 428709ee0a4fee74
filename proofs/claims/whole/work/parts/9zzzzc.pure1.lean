/-! what acts make: well-formed, and how large -/
theorem tld_n {f : Nat → Int64} {m : Nat} : ∀ (F a n : Nat) (g : Nat → Int64) (n' : Nat) (g' : Nat → Int64), tldS f m F a n g = some (n', g') → n' ≤ n + (m - a) := by
  intro F
  induction F with
  | zero => intro a n g n' g' h; cases h
  | succ F ih =>
    intro a n g n' g' h
    have h : (if m ≤ a then some (n, g) else if f a = Int64.ofInt 32 then tldS f m F (a + 1) n g else if nmP f m a then tldS f m F (nmE f m a) (n + 1) (va_up g n (nmV f a (nmE f m a))) else none) = some (n', g') := h
    by_cases h1 : m ≤ a
    · rw [if_pos h1] at h
      injection h with h
      injection h with h2 h3
      omega
    rw [if_neg h1] at h
    by_cases h2 : f a = Int64.ofInt 32
    · rw [if_pos h2] at h
      have := ih _ _ _ _ _ h
      omega
    rw [if_neg h2] at h
    by_cases h3 : nmP f m a
    · rw [if_pos h3] at h
      have := ih _ _ _ _ _ h
      have e := nmE_le (f := f) (m := m) (i := a) (by omega)
      have e2 : a ≤ nmS f a := by unfold nmS; split <;> omega
      have e3 := h3.2.1
      omega
    · rw [if_neg h3] at h; cases h
theorem flV_w {vb : Int} {v w : VV} (hv : vw1 v) (hw : vw1 w) (hp : pflat v w) (hE : flE vb v w (lkV v w) (vq (lkV v w)) = 0) : vw1 (flV vb v w) := by
  have hl := lkV_w hv hw
  have h7 := lkV_7 hp
  have hm := vw1_m hl
  unfold flV
  by_cases a : vk (lkV v w) ≤ 1
  · rw [if_pos a]; exact vw1_one (by omega)
  rw [if_neg a]
  by_cases b : vk (lkV v w) = 6
  · rw [if_pos b]
    have h6 := hl.2.2.2.1 b
    have hq6 := vq_tb b
    exact vw1_tab (by omega) (by omega) (by omega) (by omega) (fun k hk => outT_fit (flE_all hE k (by omega)) b)
  rw [if_neg b]
  by_cases c : bitV vb
  · rw [if_pos c]
    exact vw1_bits (by omega) (fun k _ => by unfold flG; rw [outT_2]; exact outF_bits c)
  · rw [if_neg c]
    have hvf := vform_le (m := vm (lkV v w)) (f := flG vb v w)
    exact vw1_row (by omega) (by omega) (by omega)
theorem d_pair_w {vb : Int} {v w r : VV} (hv : vwf 7 v) (hw : vwf 7 w) (h : d_pair vb 7 v w = .inr r) : r = paV vb 7 v w ∧ vw1 r ∧ paS 7 v w ≤ 1000 := by
  unfold d_pair at h
  by_cases h0 : paF vb 7 v w ≠ 0
  · rw [if_pos h0] at h; cases h
  rw [if_neg h0] at h
  by_cases h1 : 1000 < paS 7 v w ∨ 5 < paL 7 v w
  · rw [if_pos h1] at h; cases h
  rw [if_neg h1] at h
  have h : paV vb 7 v w = r := by injection h
  refine ⟨h.symm, ?_, by omega⟩
  rw [← h]
  rw [show paV vb 7 v w = (if pflat v w then flV vb v w else vnest (pnN v w) (fun k => paV vb 6 (pat v k) (pat w k))) from paV_s]
  by_cases hp : pflat v w
  · rw [if_pos hp]
    have h0 : paF vb 7 v w = 0 := by omega
    rw [show paF vb 7 v w = (if pflat v w then flE vb v w (lkV v w) (vq (lkV v w)) else if vk v = 7 ∧ vk w = 7 ∧ vm v ≠ vm w then 4 else errs (fun k => paF vb 6 (pat v k) (pat w k)) (pnN v w)) from paF_s, if_pos hp] at h0
    exact flV_w hv.1 hw.1 hp h0
  · rw [if_neg hp]
    refine vw1_nest ?_
    have a1 := hv.1.2.2.2.2.1
    have a2 := hw.1.2.2.2.2.1
    unfold pnN
    by_cases z : vk v = 7 ∧ vk w = 7 ∧ vm v ≠ vm w
    · rw [if_pos z]; omega
    · rw [if_neg z]
      by_cases y : vk v = 7
      · rw [if_pos y]; exact (a1 y).1
      · rw [if_neg y]
        have : vk w = 7 := Classical.byContradiction fun q => hp ⟨y, q⟩
        exact (a2 this).1
theorem d_pair_e {vb : Int} {v w : VV} {n : Nat} (h : d_pair vb 7 v w = .inl n) : 1 ≤ n ∧ n ≤ 100 := by
  have hr := paF_r vb 7 v w
  unfold d_pair at h
  by_cases h0 : paF vb 7 v w ≠ 0
  · rw [if_pos h0] at h
    injection h with h
    omega
  rw [if_neg h0] at h
  by_cases h1 : 1000 < paS 7 v w ∨ 5 < paL 7 v w
  · rw [if_pos h1] at h
    injection h with h
    omega
  rw [if_neg h1] at h; cases h
/-- of flat values, and of nests of known ones -/
theorem sz8 {r : VV} (hw : vw1 r) (h : vk r = 7 → ∀ k, k < vm r → vsz 7 (vd r k) ≤ 1000) : vsz 8 r ≤ 500000 := by
  by_cases z : vk r = 7
  · rw [vsz_7 z]
    have h1 := (hw.2.2.2.2.1 z).1
    have h2 := sumN_bd (n := vm r) (b := 1000) (f := fun k => vsz 7 (vd r k)) (h z)
    have h3 : vm r * 1000 ≤ 24 * 1000 := Nat.mul_le_mul_right _ h1
    omega
  · have h1 := vsz_fl (d := 7) hw z
    have h2 := vq_le hw
    have h1 : vsz 8 r ≤ 1 + vq r := h1
    omega
theorem sz_kid {v : VV} {k : Nat} (hv : vwf 7 v) (hs : vsz 7 v ≤ 1000) (h7 : vk v = 7) (hk : k < vm v) : vsz 7 (vd v k) ≤ 1000 := by
  have h1 := hv.2 h7 k hk
  have h2 : vsz 7 (vd v k) = vsz 6 (vd v k) := vsz_up h1
  have h3 : vsz 6 (vd v k) + 1 ≤ vsz 7 v := vsz_kid h7 hk
  omega
/-- how large a value is at the least -/
theorem szv {v : VV} (hw : vw1 v) : 1 ≤ vsz 7 v ∧ vm v ≤ vsz 7 v ∧ vq v ≤ vsz 7 v ∧ (vk v ≤ 1 ∨ (1 + vm v ≤ vsz 7 v ∧ 1 + vq v ≤ vsz 7 v)) := by
  have h1 : 1 ≤ vsz 7 v := vsz_ge1 (d := 6)
  by_cases a : vk v ≤ 1
  · have h2 := (hw.2.1 a).1
    have h3 := vq_1 hw a
    exact ⟨h1, by omega, by omega, Or.inl a⟩
  · by_cases b : vk v = 7
    · have e : vsz 7 v = 1 + sumN (vm v) (fun k => vsz 6 (vd v k)) := vsz_7 b
      have g := sumN_ge (n := vm v) (f := fun k => vsz 6 (vd v k)) (fun k _ => vsz_ge1 (d := 5))
      have q := vq_7 b
      exact ⟨h1, by omega, by omega, Or.inr ⟨by omega, by omega⟩⟩
    · have h7 := hw.1
      have e : vsz 7 v = 1 + vq v := vq_sz (d := 6) (by omega) (by omega)
      by_cases c : vk v = 6
      · have q := vq_tb c
        have h6 := hw.2.2.2.1 c
        have m : vm v * 1 ≤ vm v * vc v := Nat.mul_le_mul_left _ h6.2.2.1
        exact ⟨h1, by omega, by omega, Or.inr ⟨by omega, by omega⟩⟩
      · have q := vq_m (v := v) (by omega)
        exact ⟨h1, by omega, by omega, Or.inr ⟨by omega, by omega⟩⟩
theorem vit_w {v : VV} {i : Nat} (hv : vwf 7 v) (hi : vk v ≤ 1 ∨ i < vm v) : vw1 (vit v i) := by
  unfold vit
  by_cases a : vk v ≤ 1
  · rw [if_pos a]; exact hv.1
  rw [if_neg a]
  by_cases b : vk v = 7
  · rw [if_pos b]; exact (hv.2 b i (by omega)).1
  rw [if_neg b]
  by_cases c : vk v = 6
  · rw [if_pos c]
    have := hv.1.2.2.2.1 c
    exact vw1_row (by omega) (by omega) (by omega)
  · rw [if_neg c]
    refine vw1_one ?_
    split <;> omega
theorem vit_8 {v : VV} {i : Nat} (hv : vwf 7 v) (hs : vsz 7 v ≤ 1000) (hi : vk v ≤ 1 ∨ i < vm v) : vsz 7 (vit v i) ≤ 1000 ∧ vsz 8 (vit v i) ≤ 500000 := by
  have h1 : vsz 7 (vit v i) ≤ 1000 := vsz_vit hv hs hi
  refine ⟨h1, ?_⟩
  have e : vsz 8 (vit v i) = vsz 7 (vit v i) := by
    by_cases b : vk v = 7
    · have e : vit v i = vd v i := by unfold vit; rw [if_neg (by omega), if_pos b]
      rw [e]
      exact vsz_up (vwf_up (hv.2 b i (by omega)))
    · have h7 : vk (vit v i) ≠ 7 := by
        unfold vit
        by_cases a : vk v ≤ 1
        · rw [if_pos a]; exact b
        rw [if_neg a, if_neg b]
        by_cases c : vk v = 6
        · rw [if_pos c]; show (4 : Nat) ≠ 7; decide
        · rw [if_neg c]
          show (if vk v = 3 then 1 else 0 : Nat) ≠ 7
          split <;> omega
      exact vsz_up ⟨vit_w hv hi, fun z => absurd z h7⟩
  omega
theorem vpick_w {v : VV} {o : Nat → Nat} {n : Nat} (hv : vwf 7 v) (ho : ∀ k, k < n → vk v ≤ 1 ∨ o k < vm v) (h5 : vk v ≤ 5 → n ≤ 120) (h6 : vk v = 6 → 1 ≤ n ∧ n ≤ 12) (h7 : vk v = 7 → n ≤ 24) : vw1 (vpick v o n) := by
  have hw := hv.1
  unfold vpick
  by_cases b : vk v = 7
  · rw [if_pos b]; exact vw1_nest (h7 b)
  rw [if_neg b]
  by_cases c : vk v = 6
  · rw [if_pos c]
    have h := hw.2.2.2.1 c
    refine vw1_tab (h6 c).1 (h6 c).2 h.2.2.1 h.2.2.2.1 (fun k hk => h.2.2.2.2 _ ?_)
    have c0 : 0 < vc v := by omega
    have k1 : k / vc v < n := by
      rw [Nat.div_lt_iff_lt_mul c0]; exact hk
    have k2 := Nat.mod_lt k c0
    have k3 := ho _ k1
    exact mul_lt (by omega) k2
  · rw [if_neg c]
    have := hw.1
    exact vw1_pick hw (by omega) (h5 (by omega)) ho
theorem vpick_8 {v : VV} {o : Nat → Nat} {n : Nat} (hv : vwf 7 v) (hs : vsz 7 v ≤ 1000) (ho : ∀ k, k < n → vk v ≤ 1 ∨ o k < vm v) (hw : vw1 (vpick v o n)) : vsz 8 (vpick v o n) ≤ 500000 := by
  by_cases b : vk v = 7
  · refine sz8 hw (fun _ k hk => ?_)
    have e : vpick v o n = vnest n (fun k => vd v (o k)) := by unfold vpick; rw [if_pos b]
    rw [e] at hk ⊢
    have hk : k < n := hk
    have := ho k hk
    show vsz 7 (vd v (o k)) ≤ 1000
    exact sz_kid hv hs b (by omega)
  · refine sz8 hw (fun z => absurd z ?_)
    unfold vpick
    rw [if_neg b]
    by_cases c : vk v = 6
    · rw [if_pos c]; show (6 : Nat) ≠ 7; decide
    · rw [if_neg c]
      show pickk v ≠ 7
      unfold pickk
      by_cases d1 : vk v = 1
      · rw [if_pos d1]; decide
      rw [if_neg d1]
      by_cases d0 : vk v = 0
      · rw [if_pos d0]; split <;> decide
      · rw [if_neg d0]; exact b
theorem vpick_sz {v : VV} {o : Nat → Nat} {n : Nat} : 1 + pcl v n ≤ vsz 7 (vpick v o n) := by
  unfold vpick pcl
  by_cases b : vk v = 7
  · rw [if_pos b, if_neg (by omega)]
    have g := sumN_ge (n := n) (f := fun k => vsz 6 (vd v (o k))) (fun k _ => vsz_ge1 (d := 5))
    have e : vsz 7 (vnest n (fun k => vd v (o k))) = 1 + sumN n (fun k => vsz 6 (vd v (o k))) := vsz_nest _ _ _
    omega
  rw [if_neg b]
  by_cases c : vk v = 6
  · rw [if_pos c, if_pos c]; exact Nat.le_refl _
  · rw [if_neg c, if_neg c]
    have hk : 2 ≤ pickk v ∧ (pickk v ≤ 5 ∨ vk v > 7) := by
      unfold pickk
      by_cases d1 : vk v = 1
      · rw [if_pos d1]; omega
      rw [if_neg d1]
      by_cases d0 : vk v = 0
      · rw [if_pos d0]; split <;> omega
      · rw [if_neg d0]; omega
    have e : vsz 7 (vrow (pickk v) n (fun k => vn v (if vk v ≤ 1 then 0 else o k))) = 1 + n := by
      show (if pickk v ≤ 1 then 1 else if pickk v = 6 then 1 + n * 0 else if pickk v = 7 then 1 + sumN n _ else 1 + n) = 1 + n
      have k6 : pickk v ≠ 6 := by
        rcases hk.2 with z | z
        · omega
        · unfold pickk; rw [if_neg (by omega), if_neg (by omega)]; exact c
      have k7 : pickk v ≠ 7 := by
        rcases hk.2 with z | z
        · omega
        · unfold pickk; rw [if_neg (by omega), if_neg (by omega)]; exact b
      rw [if_neg (by omega), if_neg k6, if_neg k7]
    omega
theorem vrow_sz {k n : Nat} {f : Nat → Int64} (h : 2 ≤ k) (h5 : k ≤ 5) : vsz 7 (vrow k n f) = 1 + n := by
  show (if k ≤ 1 then 1 else if k = 6 then 1 + n * 0 else if k = 7 then 1 + sumN n _ else 1 + n) = 1 + n
  rw [if_neg (by omega), if_neg (by omega), if_neg (by omega)]
theorem vtab_sz {a b : Nat} {f : Nat → Int64} : vsz 7 (vtab a b f) = 1 + a * b := rfl
theorem flat8 {r : VV} (hw : vw1 r) (h : vk r ≠ 7) : vsz 8 r ≤ 500000 := sz8 hw (fun z => absurd z h)
