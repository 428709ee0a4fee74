/-! PAIRED: how much is made -/
theorem paK_l : ∀ (d : Nat) (v w : VV), vk w ≠ 7 → paK d v w ≤ vsz d v := by
  intro d
  induction d with
  | zero => intro v w _; exact Nat.le_refl _
  | succ d ih =>
    intro v w hw
    rw [paK_s]
    by_cases h7 : vk v = 7
    · have hn : pnN v w = vm v := (pnN_e (fun z => hw z.2.1)).trans (if_pos h7)
      rw [if_neg (fun z => z.1 h7), vsz_7 h7, hn]
      have := sumN_le (n := vm v) (f := fun k => paK d (pat v k) (pat w k)) (g := fun k => vsz d (vd v k)) (fun k _ => by
        have e1 : pat v k = vd v k := if_pos h7
        have e2 : pat w k = w := if_neg hw
        show paK d (pat v k) (pat w k) ≤ vsz d (vd v k)
        rw [e1, e2]; exact ih _ _ hw)
      omega
    · rw [if_pos ⟨h7, hw⟩]; exact vsz_ge1
theorem paK_r : ∀ (d : Nat) (v w : VV), vk v ≠ 7 → paK d v w ≤ vsz d w := by
  intro d
  induction d with
  | zero => intro v w _; exact Nat.le_refl _
  | succ d ih =>
    intro v w hv
    rw [paK_s]
    by_cases h7 : vk w = 7
    · have hn : pnN v w = vm w := (pnN_e (fun z => hv z.1)).trans (if_neg hv)
      rw [if_neg (fun z => z.2 h7), vsz_7 h7, hn]
      have := sumN_le (n := vm w) (f := fun k => paK d (pat v k) (pat w k)) (g := fun k => vsz d (vd w k)) (fun k _ => by
        have e1 : pat v k = v := if_neg hv
        have e2 : pat w k = vd w k := if_pos h7
        show paK d (pat v k) (pat w k) ≤ vsz d (vd w k)
        rw [e1, e2]; exact ih _ _ hv)
      omega
    · rw [if_pos ⟨hv, h7⟩]; exact vsz_ge1
theorem paK_b : ∀ (d : Nat) (v w : VV), paK d v w ≤ vsz d v + vsz d w ∧ (1 ≤ d → paK d v w + 1 ≤ vsz d v + vsz d w) := by
  intro d
  induction d with
  | zero => intro v w; exact ⟨Nat.zero_le _, fun z => absurd z (by omega)⟩
  | succ d ih =>
    intro v w
    have g1 : 1 ≤ vsz (d + 1) v := vsz_ge1
    have g2 : 1 ≤ vsz (d + 1) w := vsz_ge1
    by_cases hv : vk v = 7
    · by_cases hw : vk w = 7
      · rw [paK_s, if_neg (fun z => z.1 hv), vsz_7 hv, vsz_7 hw]
        by_cases hm : vm v = vm w
        · have hn : pnN v w = vm v := (pnN_e (fun z => z.2.2 hm)).trans (if_pos hv)
          rw [hn]
          have a := sumN_le (n := vm v) (f := fun k => paK d (pat v k) (pat w k)) (g := fun k => vsz d (vd v k) + vsz d (vd w k)) (fun k _ => by
            have e1 : pat v k = vd v k := if_pos hv
            have e2 : pat w k = vd w k := if_pos hw
            show paK d (pat v k) (pat w k) ≤ vsz d (vd v k) + vsz d (vd w k)
            rw [e1, e2]; exact (ih _ _).1)
          rw [sumN_add] at a
          rw [← hm]
          omega
        · have hn : pnN v w = 0 := if_pos ⟨hv, hw, hm⟩
          rw [hn]
          show 1 + 0 ≤ _ ∧ _
          constructor
          · omega
          · intro _; show 1 + 0 + 1 ≤ _; omega
      · have := paK_l (d + 1) v w hw
        omega
    · have := paK_r (d + 1) v w hv
      omega
theorem vsz_fl {d : Nat} {v : VV} (hw : vw1 v) (h7 : vk v ≠ 7) : vsz (d + 1) v ≤ 1 + vq v := by
  show (if vk v ≤ 1 then 1 else if vk v = 6 then 1 + vm v * vc v else if vk v = 7 then _ else 1 + vm v) ≤ 1 + vq v
  unfold vq
  by_cases h1 : vk v ≤ 1
  · rw [if_pos h1]; omega
  · rw [if_neg h1]
    by_cases h6 : vk v = 6
    · rw [if_pos h6, if_pos h6]; exact Nat.le_refl _
    · rw [if_neg h6, if_neg h6, if_neg h7, if_neg h7]; exact Nat.le_refl _
theorem pat_wf {d k : Nat} {v w : VV} (hv : vwf (d + 1) v) (hw : vwf (d + 1) w) (hf : ¬ pflat v w) (hk : k < pnN v w) : vwf d (pat v k) ∧ vwf d (pat w k) := by
  have hmm : ¬ (vk v = 7 ∧ vk w = 7 ∧ vm v ≠ vm w) := fun z => by
    have : pnN v w = 0 := if_pos z
    omega
  rw [pnN_e hmm] at hk
  have hv7 : vk v = 7 → k < vm v := fun z => by rw [if_pos z] at hk; exact hk
  have hw7 : vk w = 7 → k < vm w := fun z => by
    by_cases y : vk v = 7
    · have := hv7 y; omega
    · rw [if_neg y] at hk; exact hk
  have hd : 1 ≤ d := by
    cases d with
    | zero =>
      by_cases y : vk v = 7
      · exact (hv.2 y k (hv7 y)).elim
      · by_cases x : vk w = 7
        · exact (hw.2 x k (hw7 x)).elim
        · exact absurd ⟨y, x⟩ hf
    | succ d => omega
  exact ⟨(vw_pat hv hv7 hd).1, (vw_pat hw hw7 hd).1⟩
theorem paC_K : ∀ (d : Nat) (v w : VV), vwf d v → vwf d w → paC d v w ≤ 144 * paK d v w ∧ paS d v w ≤ 145 * paK d v w := by
  intro d
  induction d with
  | zero => intro v w h; exact h.elim
  | succ d ih =>
    intro v w hv hw
    rw [paC_s, paK_s, paS_s]
    by_cases hf : pflat v w
    · rw [if_pos hf, if_pos hf, if_pos hf]
      have hl : vw1 (lkV v w) ∧ vk (lkV v w) ≠ 7 := by
        unfold lkV
        split
        · exact ⟨hw.1, hf.2⟩
        · exact ⟨hv.1, hf.1⟩
      have a := vq_le hl.1
      have b := vsz_fl (d := d) hl.1 hl.2
      omega
    · rw [if_neg hf, if_neg hf, if_neg hf]
      have hk : ∀ k, k < pnN v w → vwf d (pat v k) ∧ vwf d (pat w k) := fun k hk => pat_wf hv hw hf hk
      have a := sumN_le (n := pnN v w) (f := fun k => paC d (pat v k) (pat w k)) (g := fun k => 144 * paK d (pat v k) (pat w k)) (fun k h => (ih _ _ (hk k h).1 (hk k h).2).1)
      have b := sumN_le (n := pnN v w) (f := fun k => paS d (pat v k) (pat w k)) (g := fun k => 145 * paK d (pat v k) (pat w k)) (fun k h => (ih _ _ (hk k h).1 (hk k h).2).2)
      have c : ∀ m : Nat, sumN (pnN v w) (fun k => m * paK d (pat v k) (pat w k)) = m * sumN (pnN v w) (fun k => paK d (pat v k) (pat w k)) := fun m => by
        have e := sumN_k (pnN v w) (fun k => paK d (pat v k) (pat w k)) m
        rw [Nat.mul_comm, ← e]
        exact sumN_congr (fun k _ => Nat.mul_comm _ _)
      rw [c] at a b
      omega
