/-! PAIRED: how much is made (RPA) -/
theorem flV_lv {vb : Int} {d : Nat} {v w : VV} (h : pflat v w) : vlv (d + 1) (flV vb v w) = vlv (d + 1) (lkV v w) := by
  have h7 : vk (lkV v w) ≠ 7 := by
    unfold lkV
    split
    · exact h.2
    · exact h.1
  have hs : ∀ x : VV, vlv (d + 1) x = (if vk x ≤ 1 then 0 else if vk x = 6 then 2 else if vk x = 7 then 1 + maxN (vm x) (fun k => vlv d (vd x k)) else 1) := fun _ => rfl
  rw [hs (lkV v w)]
  unfold flV
  by_cases a : vk (lkV v w) ≤ 1
  · rw [if_pos a, if_pos a, hs]
    exact if_pos (show (0 : Nat) ≤ 1 by omega)
  · rw [if_neg a, if_neg a]
    by_cases b : vk (lkV v w) = 6
    · rw [if_pos b, if_pos b, hs]
      have e : vk (vtab (vm (lkV v w)) (vc (lkV v w)) (flG vb v w)) = 6 := rfl
      rw [if_neg (by omega), if_pos e]
    · rw [if_neg b, if_neg b, if_neg h7]
      have hr : ∀ (k m : Nat) (f : Nat → Int64), 2 ≤ k → k ≤ 5 → vlv (d + 1) (vrow k m f) = 1 := fun k m f h1 h2 => by
        have e : vk (vrow k m f) = k := rfl
        rw [hs, if_neg (by omega), if_neg (by omega), if_neg (by omega)]
      by_cases c : bitV vb
      · rw [if_pos c]; exact hr _ _ _ (by omega) (by omega)
      · rw [if_neg c]
        have hvf := vform_le (m := vm (lkV v w)) (f := flG vb v w)
        exact hr _ _ _ (by omega) (by omega)
theorem paV_lv {vb : Int} : ∀ (d : Nat) (v w : VV), vlv d (paV vb d v w) = paL d v w := by
  intro d
  induction d with
  | zero => intro v w; rfl
  | succ d ih =>
    intro v w
    rw [paV_s, paL_s]
    by_cases z : pflat v w
    · rw [if_pos z, if_pos z]; exact flV_lv z
    · rw [if_neg z, if_neg z]
      show 1 + maxN (pnN v w) (fun k => vlv d (paV vb d (pat v k) (pat w k))) = _
      have e : (fun k => vlv d (paV vb d (pat v k) (pat w k))) = (fun k => paL d (pat v k) (pat w k)) := funext fun k => ih _ _
      rw [e]
theorem paV_s8 {vb : Int} : ∀ (d : Nat) (v w : VV), vwf d v → vwf d w → vsz (d + 1) (paV vb d v w) = paS d v w := by
  intro d
  induction d with
  | zero => intro v w h; exact h.elim
  | succ d ih =>
    intro v w hv hw
    rw [paV_s, paS_s]
    by_cases z : pflat v w
    · rw [if_pos z, if_pos z, flV_sz z]
      have h7 : vk (lkV v w) ≠ 7 := by
        unfold lkV
        split
        · exact z.2
        · exact z.1
      have hs : ∀ e, vsz (e + 1) (lkV v w) = (if vk (lkV v w) ≤ 1 then 1 else if vk (lkV v w) = 6 then 1 + vm (lkV v w) * vc (lkV v w) else if vk (lkV v w) = 7 then 1 + sumN (vm (lkV v w)) (fun k => vsz e (vd (lkV v w) k)) else 1 + vm (lkV v w)) := fun _ => rfl
      rw [hs (d + 1), hs d]
      by_cases a : vk (lkV v w) ≤ 1
      · rw [if_pos a, if_pos a]
      · rw [if_neg a, if_neg a]
        by_cases b : vk (lkV v w) = 6
        · rw [if_pos b, if_pos b]
        · rw [if_neg b, if_neg b, if_neg h7, if_neg h7]
    · rw [if_neg z, if_neg z]
      show 1 + sumN (pnN v w) (fun k => vsz (d + 1) (paV vb d (pat v k) (pat w k))) = _
      rw [sumN_congr (fun k hk => ih _ _ (pat_wf hv hw z hk).1 (pat_wf hv hw z hk).2)]
theorem sumN_k1 : ∀ n : Nat, sumN n (fun _ => 1) = n := by
  intro n
  induction n with
  | zero => rfl
  | succ n ih =>
    have e : sumN (n + 1) (fun _ => 1) = sumN n (fun _ => 1) + 1 := rfl
    rw [e, ih]
theorem pa_ks : ∀ (d : Nat) (v w : VV), vwf d v → vwf d w → paC d v w ≤ paS d v w ∧ paM d v w + 1 ≤ paK d v w ∧ paK d v w ≤ paS d v w := by
  intro d
  induction d with
  | zero => intro v w h; exact h.elim
  | succ d ih =>
    intro v w hv hw
    rw [paS_s, paC_s, paM_s, paK_s]
    by_cases z : pflat v w
    · rw [if_pos z, if_pos z, if_pos z, if_pos z]
      have hl := lkV_w hv.1 hw.1
      have h1 := vq_vsz (d := d) hl
      have h2 := vsz_pos (d := d) (v := lkV v w)
      exact ⟨h1.1, by omega, h2⟩
    · rw [if_neg z, if_neg z, if_neg z, if_neg z]
      have hk : ∀ k, k < pnN v w → vwf d (pat v k) ∧ vwf d (pat w k) := fun k hk => pat_wf hv hw z hk
      have a := sumN_le (n := pnN v w) (f := fun k => paC d (pat v k) (pat w k)) (g := fun k => paS d (pat v k) (pat w k)) (fun k h => (ih _ _ (hk k h).1 (hk k h).2).1)
      have b := sumN_le (n := pnN v w) (f := fun k => 1 + paM d (pat v k) (pat w k)) (g := fun k => paK d (pat v k) (pat w k)) (fun k h => by have := (ih _ _ (hk k h).1 (hk k h).2).2.1; omega)
      have c := sumN_le (n := pnN v w) (f := fun k => paK d (pat v k) (pat w k)) (g := fun k => paS d (pat v k) (pat w k)) (fun k h => (ih _ _ (hk k h).1 (hk k h).2).2.2)
      rw [sumN_add] at b
      have e : sumN (pnN v w) (fun _ => 1) = pnN v w := by
        have := sumN_k1 (pnN v w)
        exact this
      omega
theorem rpa : RPA := by
  intro v w hv hw hs1 hs2
  have a := (paK_b 7 v w).2 (by decide)
  have b := paC_K 7 v w hv hw
  have c := pa_ks 7 v w hv hw
  refine ⟨⟨a, by omega, c.1, c.2.1, c.2.2⟩, fun vb => ⟨?_, paV_sz, paV_lv 7 v w, fun z => ?_⟩⟩
  · have e := paV_s8 (vb := vb) 7 v w hv hw
    have e : vsz 8 (paV vb 7 v w) = paS 7 v w := e
    omega
  · have r := paF_r vb 7 v w
    omega
