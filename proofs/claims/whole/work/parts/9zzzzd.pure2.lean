/-! what acts make against WORK -/
def OKA (S c1 c2 : Nat) (o : Nat ⊕ VV) (a b : Nat) : Prop := (7 * a ≤ 6 * (3 + S) + 1750 ∧ b ≤ 8 * (3 + S) + 3000) ∧ (∀ n, o = .inl n → 1 ≤ n ∧ n ≤ 100) ∧ ∀ r, o = .inr r → (vw1 r ∧ vsz 8 r ≤ 500000) ∧ 7 * a + c1 ≤ 6 * (3 + S + vsz 7 r) ∧ b + c2 ≤ 8 * (3 + S + vsz 7 r)
theorem OKA_e {S c1 c2 n a b : Nat} (hn : 1 ≤ n ∧ n ≤ 100) (h1 : 7 * a ≤ 6 * (3 + S) + 1750) (h2 : b ≤ 8 * (3 + S) + 3000) : OKA S c1 c2 (.inl n) a b := ⟨⟨h1, h2⟩, fun m e => by injection e with e; rw [← e]; exact hn, fun r e => by cases e⟩
theorem OKA_v {S c1 c2 a b : Nat} {r : VV} (hw : vw1 r) (h8 : vsz 8 r ≤ 500000) (h1 : 7 * a ≤ 6 * (3 + S) + 1750) (h2 : b ≤ 8 * (3 + S) + 3000) (h3 : 7 * a + c1 ≤ 6 * (3 + S + vsz 7 r)) (h4 : b + c2 ≤ 8 * (3 + S + vsz 7 r)) : OKA S c1 c2 (.inr r) a b := ⟨⟨h1, h2⟩, fun m e => (by cases e), fun q e => by injection e with e; rw [← e]; exact ⟨⟨hw, h8⟩, h3, h4⟩⟩
theorem whF_c {f : Nat → Int64} : ∀ (k c : Nat), whF f k = .inl c → c = 5 ∨ c = 8 := by
  intro k
  induction k with
  | zero => intro c h; cases h
  | succ k ih =>
    intro c h
    have h : (match whF f k with
      | .inl c => .inl c
      | .inr (n, g) => if (f k).toInt < 0 then .inl 5 else if 120 - (n : Int) < (f k).toInt then .inl 8 else .inr (n + (f k).toInt.toNat, fun j => if n ≤ j then k else g j) : Nat ⊕ (Nat × (Nat → Nat))) = .inl c := h
    rcases e : whF f k with d | ⟨n, g⟩
    · rw [e] at h
      have h : (.inl d : Nat ⊕ (Nat × (Nat → Nat))) = .inl c := h
      injection h with h
      rw [← h]
      exact ih d e
    · rw [e] at h
      have h : (if (f k).toInt < 0 then .inl 5 else if 120 - (n : Int) < (f k).toInt then .inl 8 else .inr (n + (f k).toInt.toNat, fun j => if n ≤ j then k else g j) : Nat ⊕ (Nat × (Nat → Nat))) = .inl c := h
      by_cases z : (f k).toInt < 0
      · rw [if_pos z] at h; injection h with h; omega
      rw [if_neg z] at h
      by_cases y : 120 - (n : Int) < (f k).toInt
      · rw [if_pos y] at h; injection h with h; omega
      · rw [if_neg y] at h; cases h
theorem pcl_le {v : VV} {n : Nat} (hw : vw1 v) : pcl v n ≤ n * 12 ∧ (vk v = 6 ∨ pcl v n = n) := by
  unfold pcl
  by_cases c : vk v = 6
  · rw [if_pos c]
    have h := hw.2.2.2.1 c
    exact ⟨Nat.mul_le_mul_left _ h.2.2.2.1, Or.inl c⟩
  · rw [if_neg c]; exact ⟨by omega, Or.inr rfl⟩
theorem vwf_1 {k : Nat} {x : Int64} (h : k ≤ 1) : vwf 7 (v1 k x) := ⟨vw1_one h, fun z => by have z : k = 7 := z; omega⟩
theorem s_pick_ok {S n c1 c2 : Nat} {v : VV} {o : Nat → Nat} (hv : vwf 7 v) (hs : vsz 7 v ≤ 1000) (hS : 2 ≤ S) (hc1 : c1 ≤ 14) (hc2 : c2 ≤ 18) (hn : n ≤ 120) (ho : ∀ k, k < n → vk v ≤ 1 ∨ o k < vm v) : OKA S c1 c2 (s_pick v o n) 2 (pcl v n + 9) := by
  have hp := pcl_le (n := n) hv.1
  have hq := vpick_sz (v := v) (o := o) (n := n)
  have go : (vk v = 6 → 1 ≤ n ∧ n ≤ 12) → (vk v = 7 → n ≤ 24) → OKA S c1 c2 (.inr (vpick v o n)) 2 (pcl v n + 9) := fun h6 h7 => by
    have hw := vpick_w hv ho (fun _ => hn) h6 h7
    exact OKA_v hw (vpick_8 hv hs ho hw) (by omega) (by omega) (by omega) (by omega)
  unfold s_pick
  by_cases b : vk v = 7
  · rw [if_pos b]
    by_cases z : 24 < n
    · rw [if_pos z]; exact OKA_e (by omega) (by omega) (by omega)
    · rw [if_neg z]; exact go (fun y => by omega) (fun _ => by omega)
  rw [if_neg b]
  by_cases c : vk v = 6
  · rw [if_pos c]
    by_cases z : n = 0
    · rw [if_pos z]; exact OKA_e (by omega) (by omega) (by omega)
    rw [if_neg z]
    by_cases y : 12 < n
    · rw [if_pos y]; exact OKA_e (by omega) (by omega) (by omega)
    · rw [if_neg y]; exact go (fun _ => by omega) (fun y => by omega)
  · rw [if_neg c]; exact go (fun y => absurd y c) (fun y => absurd y b)
theorem pair_ok2 {S c1 c2 : Nat} {vb : Int} {v w : VV} (hv : vwf 7 v) (hw : vwf 7 w) (hs : vsz 7 v ≤ 1000) (hs2 : vsz 7 w ≤ 1000) (hc : (S = vsz 7 w ∧ v = v1 0 0 ∧ c1 = 7 ∧ c2 = 9) ∨ (S = vsz 7 v + vsz 7 w ∧ c1 = 14 ∧ c2 = 18)) : OKA S c1 c2 (d_pair vb 7 v w) (pcA (d_pair vb 7 v w) (prA 7 v w)) (pcB (d_pair vb 7 v w) (prB 7 v w)) := by
  have h1 := vsz_ge1 (d := 6) (v := v)
  have h2 := vsz_ge1 (d := 6) (v := w)
  have h1 : 1 ≤ vsz 7 v := h1
  have h2 : 1 ≤ vsz 7 w := h2
  obtain ⟨⟨p1, p2, p3, p4, p5⟩, p6⟩ := rpa v w hv hw hs hs2
  obtain ⟨p7, p8, p9, -⟩ := p6 vb
  rcases ho : d_pair vb 7 v w with n | r
  · exact OKA_e (d_pair_e ho) (by show 7 * 1 ≤ _; omega) (by show 9 ≤ _; omega)
  · obtain ⟨e1, e2, e3⟩ := d_pair_w hv hw ho
    subst e1
    have a1 : pcA (.inr (paV vb 7 v w)) (prA 7 v w) = paK 7 v w + 2 := rfl
    have a2 : pcB (.inr (paV vb 7 v w)) (prB 7 v w) = paC 7 v w + paM 7 v w + 9 * paK 7 v w + 9 := rfl
    rw [a1, a2]
    rcases hc with ⟨c1, c2, c3, c4⟩ | ⟨c1, c3, c4⟩
    · have e4 : vsz 7 v = 1 := by rw [c2]; rfl
      exact OKA_v e2 p7 (by omega) (by omega) (by omega) (by omega)
    · exact OKA_v e2 p7 (by omega) (by omega) (by omega) (by omega)
theorem one_all (vb : Int) (v : VV) (hv : vwf 7 v) (hs : vsz 7 v ≤ 1000) : OKA (vsz 7 v) 7 9 (s_one vb 6 v) (oneA vb 6 v) (oneB vb 6 v) := by
  have hw := hv.1
  have hm := vw1_m hw
  obtain ⟨z1, z2, z3, z4⟩ := szv hw
  have v8 : vsz 8 v ≤ 500000 := by
    have : vsz 8 v = vsz 7 v := vsz_up hv
    omega
  unfold s_one oneA oneB
  by_cases k : vb = 43
  · rw [if_pos k, if_pos k, if_pos k]
    unfold m_flip
    by_cases c : vk v = 6
    · rw [if_pos c, if_pos c, if_pos c]
      have h6 := hw.2.2.2.1 c
      have q := vq_tb c
      have hvm : 0 < vm v := by omega
      have e := Nat.mul_comm (vc v) (vm v)
      have w : vw1 (vtab (vc v) (vm v) (fun j => vn v (j % vm v * vc v + j / vm v))) := vw1_tab h6.2.2.1 h6.2.2.2.1 h6.1 h6.2.1 (fun j hj => h6.2.2.2.2 _ (mul_lt (Nat.mod_lt _ hvm) (by rw [Nat.div_lt_iff_lt_mul hvm]; exact hj)))
      have sz : vsz 7 (vtab (vc v) (vm v) (fun j => vn v (j % vm v * vc v + j / vm v))) = 1 + vc v * vm v := vtab_sz
      have q9 := vq_le hw
      exact OKA_v w (flat8 w (by show (6 : Nat) ≠ 7; decide)) (by omega) (by omega) (by omega) (by omega)
    · rw [if_neg c, if_neg c, if_neg c]
      exact OKA_v hw v8 (by omega) (by omega) (by omega) (by omega)
  rw [if_neg k, if_neg k, if_neg k]
  clear k
  by_cases k : vb = 45 ∨ vb = 37 ∨ vb = 126
  · rw [if_pos k, if_pos k, if_pos k]
    exact pair_ok2 (vwf_1 (by decide)) hv (by decide) hs (Or.inl ⟨rfl, rfl, rfl, rfl⟩)
  rw [if_neg k, if_neg k, if_neg k]
  clear k
  by_cases k : vb = 42
  · rw [if_pos k, if_pos k, if_pos k]
    by_cases c : vm v = 0
    · rw [if_pos c]; exact OKA_e (by omega) (by omega) (by omega)
    · rw [if_neg c]
      have hi : vk v ≤ 1 ∨ 0 < vm v := Or.inr (by omega)
      have s1 := vsz_ge1 (d := 6) (v := vit v 0)
      have s1 : 1 ≤ vsz 7 (vit v 0) := s1
      exact OKA_v (vit_w hv hi) (vit_8 hv hs hi).2 (by omega) (by omega) (by omega) (by omega)
  rw [if_neg k, if_neg k, if_neg k]
  clear k
  by_cases k : vb = 38
  · rw [if_pos k, if_pos k, if_pos k]
    have b9 : ∀ n, OKA (vsz 7 v) 7 9 (.inl n) 2 (rsl (.inl n)) ∨ ¬ (1 ≤ n ∧ n ≤ 100) := fun n => by
      by_cases y : 1 ≤ n ∧ n ≤ 100
      · exact Or.inl (OKA_e y (by omega) (by show 9 ≤ _; omega))
      · exact Or.inr y
    have be : ∀ n, 1 ≤ n ∧ n ≤ 100 → OKA (vsz 7 v) 7 9 (.inl n) 2 (rsl (.inl n)) := fun n y => OKA_e y (by omega) (by show 9 ≤ _; omega)
    unfold m_where
    by_cases c : 2 ≤ vk v ∧ vk v ≤ 5
    · rw [if_pos c]
      by_cases d : vk v = 3
      · rw [if_pos d]; exact be 5 (by omega)
      · rw [if_neg d]
        rcases e : whF (vn v) (vm v) with cc | ⟨n, g⟩
        · have := whF_c _ _ e
          exact be cc (by omega)
        · have hn := (whF_le e).1
          have w : vw1 (vrow 4 n (fun j => Int64.ofInt ((g j : Nat) : Int))) := vw1_row (by omega) (by omega) hn
          have sz : vsz 7 (vrow 4 n (fun j => Int64.ofInt ((g j : Nat) : Int))) = 1 + n := vrow_sz (by omega) (by omega)
          show OKA (vsz 7 v) 7 9 (.inr (vrow 4 n (fun j => Int64.ofInt ((g j : Nat) : Int)))) 2 (vq (vrow 4 n (fun j => Int64.ofInt ((g j : Nat) : Int))) + 9)
          rw [vq_row (by omega)]
          exact OKA_v w (flat8 w (by show (4 : Nat) ≠ 7; decide)) (by omega) (by omega) (by omega) (by omega)
    · rw [if_neg c]; exact be 3 (by omega)
  rw [if_neg k, if_neg k, if_neg k]
  clear k
  by_cases k : vb = 124
  · rw [if_pos k, if_pos k, if_pos k]
    have hp := pcl_le (n := vm v) hw
    unfold m_turn
    by_cases c : vk v ≤ 1
    · rw [if_pos c]
      have h1 := (hw.2.1 c).1
      exact OKA_v hw v8 (by omega) (by omega) (by omega) (by omega)
    · rw [if_neg c]
      have ho : ∀ k, k < vm v → vk v ≤ 1 ∨ (fun k => vm v - 1 - k) k < vm v := fun k hk => Or.inr (by show vm v - 1 - k < vm v; omega)
      have w := vpick_w (o := fun k => vm v - 1 - k) hv ho (fun _ => by omega) (fun y => by have := hw.2.2.2.1 y; omega) (fun y => (hw.2.2.2.2.1 y).1)
      have sz := vpick_sz (v := v) (o := fun k => vm v - 1 - k) (n := vm v)
      exact OKA_v w (vpick_8 hv hs ho w) (by omega) (by omega) (by omega) (by omega)
  rw [if_neg k, if_neg k, if_neg k]
  clear k
  by_cases k : vb = 60 ∨ vb = 62 ∨ vb = 94
  · rw [if_pos k, if_pos k, if_pos k]
    unfold m_sort
    by_cases c : 2 ≤ vk v ∧ vk v ≤ 5
    · rw [if_pos c]
      by_cases d : vb = 94
      · rw [if_pos d]
        have hp := pcl_le (n := vm v) hw
        have ho : ∀ k, k < vm v → vk v ≤ 1 ∨ srt (vlt vb v) (vm v) k < vm v := fun k hk => Or.inr (srt_lt _ _ _ hk)
        have w := vpick_w hv ho (fun _ => by omega) (fun y => by omega) (fun y => by omega)
        have sz := vpick_sz (v := v) (o := srt (vlt vb v) (vm v)) (n := vm v)
        exact OKA_v w (vpick_8 hv hs ho w) (by omega) (by omega) (by omega) (by omega)
      · rw [if_neg d]
        have w : vw1 (vrow 4 (vm v) (fun k => Int64.ofInt ((srt (vlt vb v) (vm v) k : Nat) : Int))) := vw1_row (by omega) (by omega) (by omega)
        have sz : vsz 7 (vrow 4 (vm v) (fun k => Int64.ofInt ((srt (vlt vb v) (vm v) k : Nat) : Int))) = 1 + vm v := vrow_sz (by omega) (by omega)
        exact OKA_v w (flat8 w (by show (4 : Nat) ≠ 7; decide)) (by omega) (by omega) (by omega) (by omega)
    · rw [if_neg c]; exact OKA_e (by omega) (by omega) (by omega)
  rw [if_neg k, if_neg k, if_neg k]
  clear k
  by_cases k : vb = 61
  · rw [if_pos k, if_pos k, if_pos k]
    have hg : grN v ≤ vm v := (unq_le _ _).1
    unfold m_grp
    by_cases c : ¬ (2 ≤ vk v ∧ vk v ≤ 5)
    · rw [if_pos c]; exact OKA_e (by omega) (by omega) (by omega)
    rw [if_neg c]
    by_cases d : 24 < grN v
    · rw [if_pos d]; exact OKA_e (by omega) (by omega) (by omega)
    rw [if_neg d]
    have w : vw1 (vnest (grN v) (grV v)) := vw1_nest (by omega)
    have e : vsz 7 (vnest (grN v) (grV v)) = 1 + sumN (grN v) (fun k => vsz 6 (grV v k)) := vsz_nest _ _ _
    have g := sumN_ge (n := grN v) (f := fun k => vsz 6 (grV v k)) (fun k _ => vsz_ge1 (d := 5))
    refine OKA_v w (sz8 w (fun _ j hj => ?_)) (by omega) (by omega) (by omega) (by omega)
    show vsz 7 (grV v j) ≤ 1000
    have hc : grC v j ≤ vm v := (flt_le _ _).1
    have : vsz 7 (grV v j) = 1 + grC v j := vrow_sz (by omega) (by omega)
    omega
  rw [if_neg k, if_neg k, if_neg k]
  clear k
  by_cases k : vb = 63
  · rw [if_pos k, if_pos k, if_pos k]
    unfold m_unl m_unla m_unlb
    by_cases c : vk v ≤ 1
    · have hu := (unq_le (nsame v) (vm v)).1
      have h1 := (hw.2.1 c).1
      rw [if_pos c, if_pos (by omega), if_pos (by omega)]
      exact OKA_v hw v8 (by omega) (by omega) (by omega) (by omega)
    rw [if_neg c]
    by_cases d : vk v ≤ 5
    · rw [if_pos d, if_pos d, if_pos d]
      have hu := unq_le (nsame v) (vm v)
      have hu1 := hu.1
      have hp := pcl_le (n := (unq (nsame v) (vm v)).1) hw
      have ho : ∀ k, k < (unq (nsame v) (vm v)).1 → vk v ≤ 1 ∨ (unq (nsame v) (vm v)).2 k < vm v := fun k hk => Or.inr (hu.2 k hk)
      have w := vpick_w hv ho (fun _ => by omega) (fun y => by omega) (fun y => by omega)
      have sz := vpick_sz (v := v) (o := (unq (nsame v) (vm v)).2) (n := (unq (nsame v) (vm v)).1)
      exact OKA_v w (vpick_8 hv hs ho w) (by omega) (by omega) (by omega) (by omega)
    · rw [if_neg d, if_neg d, if_neg d]
      have hu := unq_le (isame 7 v) (vm v)
      have hu : (unq (isame (6 + 1) v) (vm v)).1 ≤ vm v ∧ ∀ j, j < (unq (isame (6 + 1) v) (vm v)).1 → (unq (isame (6 + 1) v) (vm v)).2 j < vm v := hu
      have hu1 := hu.1
      have h24 : vm v ≤ 24 := by
        have h7 := hw.1
        by_cases b : vk v = 7
        · exact (hw.2.2.2.2.1 b).1
        · have := hw.2.2.2.1 (by omega)
          omega
      have w : vw1 (vnest (unq (isame (6 + 1) v) (vm v)).1 (fun k => vit v ((unq (isame (6 + 1) v) (vm v)).2 k))) := vw1_nest (by omega)
      have e : vsz 7 (vnest (unq (isame (6 + 1) v) (vm v)).1 (fun k => vit v ((unq (isame (6 + 1) v) (vm v)).2 k))) = 1 + sumN (unq (isame (6 + 1) v) (vm v)).1 (fun k => vsz 6 (vit v ((unq (isame (6 + 1) v) (vm v)).2 k))) := vsz_nest _ _ _
      have g := sumN_ge (n := (unq (isame (6 + 1) v) (vm v)).1) (f := fun k => vsz 6 (vit v ((unq (isame (6 + 1) v) (vm v)).2 k))) (fun k _ => vsz_ge1 (d := 5))
      refine OKA_v w (sz8 w (fun _ j hj => ?_)) (by omega) (by omega) (by omega) (by omega)
      exact (vit_8 hv hs (Or.inr (hu.2 j hj))).1
  rw [if_neg k, if_neg k, if_neg k]
  clear k
  by_cases k : vb = 33
  · rw [if_pos k, if_pos k, if_pos k]
    unfold m_upto
    by_cases c : 2 ≤ vk v
    · rw [if_pos c]; exact OKA_e (by omega) (by omega) (by omega)
    rw [if_neg c]
    by_cases d : vk v = 1 ∨ (vn v 0).toInt < 0 ∨ 120 < (vn v 0).toInt
    · rw [if_pos d]; exact OKA_e (by omega) (by omega) (by omega)
    rw [if_neg d]
    have w : vw1 (vrow 4 (vn v 0).toInt.toNat (fun k => Int64.ofInt (k : Int))) := vw1_row (by omega) (by omega) (by omega)
    have sz : vsz 7 (vrow 4 (vn v 0).toInt.toNat (fun k => Int64.ofInt (k : Int))) = 1 + (vn v 0).toInt.toNat := vrow_sz (by omega) (by omega)
    exact OKA_v w (flat8 w (by show (4 : Nat) ≠ 7; decide)) (by omega) (by omega) (by omega) (by omega)
  rw [if_neg k, if_neg k, if_neg k]
  clear k
  by_cases k : vb = 44
  · rw [if_pos k, if_pos k, if_pos k]
    unfold m_more
    by_cases c : vk v ≤ 1
    · rw [if_pos c]
      have ho : ∀ k, k < 1 → vk v ≤ 1 ∨ (fun _ => 0) k < vm v := fun k hk => Or.inl c
      have w := vpick_w (o := fun _ => 0) hv ho (fun _ => by omega) (fun y => by omega) (fun y => by omega)
      have sz := vpick_sz (v := v) (o := fun _ => 0) (n := 1)
      exact OKA_v w (vpick_8 hv hs ho w) (by omega) (by omega) (by omega) (by omega)
    · rw [if_neg c]
      have w : vw1 (vnest 1 (fun _ => v)) := vw1_nest (by omega)
      have g := vsz_ge1 (d := 6) (v := vnest 1 (fun _ => v))
      have g : 1 ≤ vsz 7 (vnest 1 (fun _ => v)) := g
      exact OKA_v w (sz8 w (fun _ j hj => hs)) (by omega) (by omega) (by omega) (by omega)
  rw [if_neg k, if_neg k, if_neg k]
  clear k
  by_cases k : vb = 46
  · rw [if_pos k, if_pos k, if_pos k]
    have be : ∀ n, 1 ≤ n ∧ n ≤ 100 → OKA (vsz 7 v) 7 9 (.inl n) 2 (rsl (.inl n)) := fun n y => OKA_e y (by omega) (by show 9 ≤ _; omega)
    unfold m_told
    by_cases c : vk v = 1 ∨ vk v = 3
    · rw [if_pos c]
      rcases e : tldT (vn v) (vm v) 0 0 (fun _ => 0) with _ | ⟨n, g⟩
      · exact be 5 (by omega)
      · have hn := tld_n _ _ _ _ _ _ e
        have hf := vform_le (m := n) (f := g)
        have w : vw1 (vrow (vform n g) n g) := vw1_row (by omega) (by omega) (by omega)
        have sz : vsz 7 (vrow (vform n g) n g) = 1 + n := vrow_sz (by omega) (by omega)
        show OKA (vsz 7 v) 7 9 (.inr (vrow (vform n g) n g)) 2 (vq (vrow (vform n g) n g) + 9)
        rw [vq_row (by omega)]
        exact OKA_v w (flat8 w (by show vform n g ≠ 7; omega)) (by omega) (by omega) (by omega) (by omega)
    · rw [if_neg c]; exact be 3 (by omega)
  rw [if_neg k, if_neg k, if_neg k]
  clear k
  have one : ∀ {x : Int64} {a b : Nat}, a ≤ 1 → b ≤ 9 → OKA (vsz 7 v) 7 9 (.inr (v1 0 x)) a b := fun {x a b} ha hb => by
    have sz : vsz 7 (v1 0 x) = 1 := rfl
    have w : vw1 (v1 0 x) := vw1_one (by omega)
    exact OKA_v w (flat8 w (by show (0 : Nat) ≠ 7; decide)) (by omega) (by omega) (by omega) (by omega)
  by_cases k : vb = 35
  · rw [if_pos k, if_pos k, if_pos k]; exact one (by omega) (by omega)
  rw [if_neg k, if_neg k, if_neg k]
  clear k
  by_cases k : vb = 95
  · rw [if_pos k, if_pos k, if_pos k]
    unfold m_shape
    have hn : (if vk v ≤ 1 then 0 else if vk v = 6 then 2 else 1 : Nat) ≤ 2 := by split; omega; split <;> omega
    have w : vw1 (vrow 4 (if vk v ≤ 1 then 0 else if vk v = 6 then 2 else 1) (fun k => Int64.ofInt (if k = 0 then (vm v : Int) else (vc v : Int)))) := vw1_row (by omega) (by omega) (by omega)
    have g := vsz_ge1 (d := 6) (v := vrow 4 (if vk v ≤ 1 then 0 else if vk v = 6 then 2 else 1) (fun k => Int64.ofInt (if k = 0 then (vm v : Int) else (vc v : Int))))
    have g : 1 ≤ vsz 7 (vrow 4 (if vk v ≤ 1 then 0 else if vk v = 6 then 2 else 1) (fun k => Int64.ofInt (if k = 0 then (vm v : Int) else (vc v : Int)))) := g
    exact OKA_v w (flat8 w (by show (4 : Nat) ≠ 7; decide)) (by omega) (by omega) (by omega) (by omega)
  rw [if_neg k, if_neg k, if_neg k]
  clear k
  by_cases k : vb = 64
  · rw [if_pos k, if_pos k, if_pos k]; exact one (by omega) (by omega)
  rw [if_neg k, if_neg k, if_neg k]
  clear k
  by_cases k : vb = 36
  · rw [if_pos k, if_pos k, if_pos k]
    unfold m_text
    by_cases c : 120 < (vaL (6 + 1) v).length
    · rw [if_pos c]; exact OKA_e (by omega) (by omega) (by show 9 ≤ _; omega)
    · rw [if_neg c]
      have w : vw1 (vrow 3 (vaL (6 + 1) v).length (fun k => Int64.ofInt ((vaL (6 + 1) v).getD k 0))) := vw1_row (by omega) (by omega) (by omega)
      have sz : vsz 7 (vrow 3 (vaL (6 + 1) v).length (fun k => Int64.ofInt ((vaL (6 + 1) v).getD k 0))) = 1 + (vaL (6 + 1) v).length := vrow_sz (by omega) (by omega)
      show OKA (vsz 7 v) 7 9 (.inr (vrow 3 (vaL (6 + 1) v).length (fun k => Int64.ofInt ((vaL (6 + 1) v).getD k 0)))) 2 (vq (vrow 3 (vaL (6 + 1) v).length (fun k => Int64.ofInt ((vaL (6 + 1) v).getD k 0))) + 9)
      rw [vq_row (by omega)]
      exact OKA_v w (flat8 w (by show (3 : Nat) ≠ 7; decide)) (by omega) (by omega) (by omega) (by omega)
  rw [if_neg k, if_neg k, if_neg k]
  exact OKA_e (by omega) (by omega) (by omega)
theorem rmo : RMO := fun vb w hw hs _ => by
  obtain ⟨h1, h2, h3⟩ := one_all vb w hw hs
  exact ⟨h1, h2, fun r e _ _ => (h3 r e).2⟩
theorem rso : RSO := fun vb w hw hs _ => by
  obtain ⟨h1, h2, h3⟩ := one_all vb w hw hs
  exact ⟨h2, fun r e => (h3 r e).1⟩
