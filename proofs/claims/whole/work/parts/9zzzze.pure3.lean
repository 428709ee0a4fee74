/-! what acts of two make against WORK -/
theorem pcl_sz {v : VV} {n : Nat} (hw : vw1 v) (h : n ≤ vm v) : pcl v n ≤ vsz 7 v := by
  obtain ⟨z1, z2, z3, z4⟩ := szv hw
  unfold pcl
  by_cases c : vk v = 6
  · rw [if_pos c]
    have q := vq_tb c
    have m : n * vc v ≤ vm v * vc v := Nat.mul_le_mul_right _ h
    omega
  · rw [if_neg c]; omega
theorem join_ok (v w : VV) (hv : vwf 7 v) (hw : vwf 7 w) (hs : vsz 7 v ≤ 1000) (hs2 : vsz 7 w ≤ 1000) : OKA (vsz 7 v + vsz 7 w) 14 18 (d_join v w) (vm v + vm w + 2) (10 * (vm v + vm w) + vq v + vq w + 9) := by
  obtain ⟨z1, z2, z3, z4⟩ := szv hv.1
  obtain ⟨y1, y2, y3, y4⟩ := szv hw.1
  have hm := (vw1_m hv.1).1
  have hm2 := (vw1_m hw.1).1
  have hq := vq_le hv.1
  have hq2 := vq_le hw.1
  have be : OKA (vsz 7 v + vsz 7 w) 14 18 (.inl 8) (vm v + vm w + 2) (10 * (vm v + vm w) + vq v + vq w + 9) := OKA_e (by omega) (by omega) (by omega)
  unfold d_join
  by_cases j : jflat v w
  · rw [if_pos j]
    have j1 : vk v ≤ 5 ∧ vk w ≤ 5 := by
      unfold jflat ofN ofS at j
      omega
    have e1 := vq_m j1.1
    have e2 := vq_m j1.2
    by_cases c : 120 < vm v + vm w
    · rw [if_pos c]; exact be
    rw [if_neg c]
    have hf := vform_le (m := vq v + vq w) (f := jnF v w)
    have fin : ∀ k, 2 ≤ k → k ≤ 5 → vw1 (vrow k (vq v + vq w) (jnF v w)) → OKA (vsz 7 v + vsz 7 w) 14 18 (.inr (vrow k (vq v + vq w) (jnF v w))) (vm v + vm w + 2) (10 * (vm v + vm w) + vq v + vq w + 9) := fun k k1 k2 n => by
      have sz : vsz 7 (vrow k (vq v + vq w) (jnF v w)) = 1 + (vq v + vq w) := vrow_sz k1 k2
      exact OKA_v n (flat8 n (by show k ≠ 7; omega)) (by omega) (by omega) (by omega) (by omega)
    by_cases d : vk v = 2 ∧ vk w = 2
    · rw [if_pos d]; exact fin 2 (by omega) (by omega) (vw1_bits (by omega) (jn_bits hv.1 hw.1 d.1 d.2))
    rw [if_neg d]
    by_cases f : ofN v ∧ ofN w
    · rw [if_pos f]; exact fin _ (by omega) (by omega) (vw1_row (by omega) (by omega) (by omega))
    · rw [if_neg f]; exact fin _ (by omega) (by omega) (vw1_row (by omega) (by omega) (by omega))
  rw [if_neg j]
  by_cases t : vk v = 6 ∧ vk w = 6 ∧ vc v = vc w
  · rw [if_pos t]
    by_cases c : 12 < vm v + vm w
    · rw [if_pos c]; exact be
    rw [if_neg c]
    have a := hv.1.2.2.2.1 t.1
    have b := hw.1.2.2.2.1 t.2.1
    have e1 := vq_tb t.1
    have e2 := vq_tb t.2.1
    have e3 : (vm v + vm w) * vc v = vq v + vq w := by rw [e1, e2, ← t.2.2, Nat.add_mul]
    have n : vw1 (vtab (vm v + vm w) (vc v) (jnF v w)) := vw1_tab (by omega) (by omega) a.2.2.1 a.2.2.2.1 (fun k hk => jn_fits hv.1 hw.1 t.1 t.2.1 k (by rw [← e3]; exact hk))
    have sz : vsz 7 (vtab (vm v + vm w) (vc v) (jnF v w)) = 1 + (vm v + vm w) * vc v := vtab_sz
    rw [e3] at sz
    have m1 : vm v * 1 ≤ vm v * vc v := Nat.mul_le_mul_left _ a.2.2.1
    have m2 : vm w * 1 ≤ vm w * vc w := Nat.mul_le_mul_left _ b.2.2.1
    rw [← e1] at m1
    rw [← e2] at m2
    exact OKA_v n (flat8 n (by show (6 : Nat) ≠ 7; decide)) (by omega) (by omega) (by omega) (by omega)
  rw [if_neg t]
  by_cases c : 24 < vm v + vm w
  · rw [if_pos c]; exact be
  rw [if_neg c]
  have n : vw1 (vnest (vm v + vm w) (jch v w)) := vw1_nest (by omega)
  have e : vsz 7 (vnest (vm v + vm w) (jch v w)) = 1 + sumN (vm v + vm w) (fun k => vsz 6 (jch v w k)) := vsz_nest _ _ _
  have g := sumN_ge (n := vm v + vm w) (f := fun k => vsz 6 (jch v w k)) (fun k _ => vsz_ge1 (d := 5))
  refine OKA_v n (sz8 n (fun _ k hk => ?_)) (by omega) (by omega) (by omega) (by omega)
  have hk : k < vm v + vm w := hk
  show vsz 7 (jch v w k) ≤ 1000
  by_cases l : k < vm v
  · rw [jch_l l]; exact (vit_8 hv hs (Or.inr l)).1
  · rw [jch_r l]; exact (vit_8 hw hs2 (Or.inr (by omega))).1
theorem take_ok (v w : VV) (hv : vwf 7 v) (hw : vwf 7 w) (hs2 : vsz 7 w ≤ 1000) : OKA (vsz 7 v + vsz 7 w) 14 18 (d_take v w) 2 (tkb v w) := by
  obtain ⟨z1, z2, z3, z4⟩ := szv hv.1
  obtain ⟨y1, y2, y3, y4⟩ := szv hw.1
  unfold d_take tkb
  by_cases j : (vk v = 2 ∨ vk v = 4 ∨ vk v = 5) ∧ vm v = 2
  · rw [if_pos j, if_pos j]
    have hB : min 144 ((vn v 0).toInt.toNat * (vn v 1).toInt.toNat) ≤ 144 := Nat.min_le_left _ _
    have be : ∀ n, 1 ≤ n ∧ n ≤ 100 → OKA (vsz 7 v + vsz 7 w) 14 18 (.inl n) 2 (min 144 ((vn v 0).toInt.toNat * (vn v 1).toInt.toNat) + 9) := fun n y => OKA_e y (by omega) (by omega)
    unfold d_lay
    by_cases a : vk w = 7
    · rw [if_pos a]; exact be 3 (by omega)
    rw [if_neg a]
    by_cases b : ((vn v 0).toInt < 1 ∨ 12 < (vn v 0).toInt) ∨ ((vn v 1).toInt < 1 ∨ 12 < (vn v 1).toInt) ∨ vk w = 1 ∨ vk w = 3
    · rw [if_pos b]; exact be 5 (by omega)
    rw [if_neg b]
    by_cases c : vq w = 0
    · rw [if_pos c]; exact be 4 (by omega)
    rw [if_neg c]
    by_cases d : allF ((vn v 0).toInt.toNat * (vn v 1).toInt.toNat) (fun k => vn w (k % vq w)) = false
    · rw [if_pos d]; exact be 6 (by omega)
    rw [if_neg d]
    have hB2 : min 144 ((vn v 0).toInt.toNat * (vn v 1).toInt.toNat) ≤ (vn v 0).toInt.toNat * (vn v 1).toInt.toNat := Nat.min_le_right _ _
    have n : vw1 (vtab (vn v 0).toInt.toNat (vn v 1).toInt.toNat (fun k => vn w (k % vq w))) := vw1_tab (by omega) (by omega) (by omega) (by omega) (allF_iff.mp (eq_true_of_ne_false d))
    have sz : vsz 7 (vtab (vn v 0).toInt.toNat (vn v 1).toInt.toNat (fun k => vn w (k % vq w))) = 1 + (vn v 0).toInt.toNat * (vn v 1).toInt.toNat := vtab_sz
    exact OKA_v n (flat8 n (by show (6 : Nat) ≠ 7; decide)) (by omega) (by omega) (by omega) (by omega)
  rw [if_neg j, if_neg j]
  have hp := pcl_le (n := min 120 (vn v 0).toInt.natAbs) hw.1
  have hB : min 120 (vn v 0).toInt.natAbs ≤ 120 := Nat.min_le_left _ _
  have be : ∀ n, 1 ≤ n ∧ n ≤ 100 → OKA (vsz 7 v + vsz 7 w) 14 18 (.inl n) 2 (pcl w (min 120 (vn v 0).toInt.natAbs) + 9) := fun n y => OKA_e y (by omega) (by omega)
  by_cases a : 2 ≤ vk v
  · rw [if_pos a]; exact be 3 (by omega)
  rw [if_neg a]
  by_cases b : vk v = 1 ∨ (vn v 0).toInt < -120 ∨ 120 < (vn v 0).toInt ∨ ((vn v 0).toInt = 0 ∧ vk w = 6)
  · rw [if_pos b]; exact be 5 (by omega)
  rw [if_neg b]
  by_cases c : (vn v 0).toInt ≠ 0 ∧ vm w = 0
  · rw [if_pos c]; exact be 4 (by omega)
  rw [if_neg c]
  rw [show min 120 (vn v 0).toInt.natAbs = (vn v 0).toInt.natAbs from Nat.min_eq_right (by omega)]
  refine s_pick_ok hw hs2 (by omega) (by omega) (by omega) (by omega) (fun k hk => Or.inr ?_)
  have m0 : 0 < vm w := by omega
  unfold tkn
  by_cases d : 0 < (vn v 0).toInt
  · rw [if_pos d]; exact Nat.mod_lt _ m0
  · rw [if_neg d]; omega
theorem rest_ok (vb : Int) (v w : VV) (hv : vwf 7 v) (hw : vwf 7 w) (hs : vsz 7 v ≤ 1000) (hs2 : vsz 7 w ≤ 1000) : OKA (vsz 7 v + vsz 7 w) 14 18 (d_drop v w) 2 (pcl w (vm w - (dclamp v w).natAbs) + 9) ∧ OKA (vsz 7 v + vsz 7 w) 14 18 (d_find (6 + 1) v w) 2 (vm w + 9) ∧ OKA (vsz 7 v + vsz 7 w) 14 18 (d_at v w) 2 (pcl v (vm w) + 9) ∧ OKA (vsz 7 v + vsz 7 w) 14 18 (d_fit v w) 2 (min 120 (vn v 0).toInt.natAbs + 9) ∧ OKA (vsz 7 v + vsz 7 w) 14 18 (d_wo (6 + 1) v w) 2 (pcl v (flt (woF (6 + 1) v w) (vm v)).1 + 9) := by
  obtain ⟨z1, z2, z3, z4⟩ := szv hv.1
  obtain ⟨y1, y2, y3, y4⟩ := szv hw.1
  have hm := (vw1_m hv.1).1
  have hm2 := (vw1_m hw.1).1
  have be : ∀ n b, 1 ≤ n ∧ n ≤ 100 → b ≤ 2900 → OKA (vsz 7 v + vsz 7 w) 14 18 (.inl n) 2 b := fun n b y z => OKA_e y (by omega) (by omega)
  refine ⟨?_, ?_, ?_, ?_, ?_⟩
  · have hp := pcl_le (n := vm w - (dclamp v w).natAbs) hw.1
    unfold d_drop
    by_cases a : 2 ≤ vk v
    · rw [if_pos a]; exact be 3 _ (by omega) (by omega)
    rw [if_neg a]
    by_cases b : vk v = 1
    · rw [if_pos b]; exact be 5 _ (by omega) (by omega)
    rw [if_neg b]
    refine s_pick_ok hw hs2 (by omega) (by omega) (by omega) (by omega) (fun k hk => Or.inr ?_)
    have hd : -(vm w : Int) ≤ dclamp v w ∧ dclamp v w ≤ (vm w : Int) := by unfold dclamp; omega
    show (max (dclamp v w) 0).toNat + k < vm w
    omega
  · unfold d_find
    by_cases a : vk v ≤ 1 ∨ ((2 ≤ vk v ∧ vk v ≤ 5) ∧ 6 ≤ vk w)
    · rw [if_pos a]; exact be 3 _ (by omega) (by omega)
    rw [if_neg a]
    by_cases b : ¬ (2 ≤ vk v ∧ vk v ≤ 5) ∨ vk w ≤ 1
    · rw [if_pos b]
      have n : vw1 (v1 0 (Int64.ofInt ((fstN (fun k => vsame (6 + 1) (vit v k) w) (vm v) : Nat) : Int))) := vw1_one (by omega)
      have sz : vsz 7 (v1 0 (Int64.ofInt ((fstN (fun k => vsame (6 + 1) (vit v k) w) (vm v) : Nat) : Int))) = 1 := rfl
      exact OKA_v n (flat8 n (by show (0 : Nat) ≠ 7; decide)) (by omega) (by omega) (by omega) (by omega)
    · rw [if_neg b]
      have n : vw1 (vrow 4 (vm w) (fun i => Int64.ofInt ((fstN (fun k => vsame (6 + 1) (vit v k) (vit w i)) (vm v) : Nat) : Int))) := vw1_row (by omega) (by omega) hm2
      have sz : vsz 7 (vrow 4 (vm w) (fun i => Int64.ofInt ((fstN (fun k => vsame (6 + 1) (vit v k) (vit w i)) (vm v) : Nat) : Int))) = 1 + vm w := vrow_sz (by omega) (by omega)
      exact OKA_v n (flat8 n (by show (4 : Nat) ≠ 7; decide)) (by omega) (by omega) (by omega) (by omega)
  · have hp := pcl_le (n := vm w) hv.1
    have h5 := askP_le v w
    unfold d_at
    by_cases a : askP v w ≠ 0
    · rw [if_pos a]; exact be _ _ (by omega) (by omega)
    rw [if_neg a]
    by_cases b : vk v = 6 ∧ vm w = 0
    · rw [if_pos b]; exact be 4 _ (by omega) (by omega)
    rw [if_neg b]
    by_cases c : allP v w = false
    · rw [if_pos c]; exact be 7 _ (by omega) (by omega)
    rw [if_neg c]
    have hin : ∀ k, k < vm w → (vn w k).toInt.toNat < vm v := fun k hk => by
      have c : allP v w = true := eq_true_of_ne_false c
      unfold allP at c
      have c := decide_eq_true_iff.mp (allN_iff.mp c k hk)
      omega
    by_cases d : vk w = 0
    · rw [if_pos d]
      have w1 := (hw.1.2.1 (by omega)).1
      have hi : vk v ≤ 1 ∨ (vn w 0).toInt.toNat < vm v := Or.inr (hin 0 (by omega))
      have h1 := vsz_ge1 (d := 6) (v := vit v (vn w 0).toInt.toNat)
      have h1 : 1 ≤ vsz 7 (vit v (vn w 0).toInt.toNat) := h1
      have hp2 := pcl_sz (n := vm w) hv.1 (by have := hin 0 (by omega); omega)
      exact OKA_v (vit_w hv hi) (vit_8 hv hs hi).2 (by omega) (by omega) (by omega) (by omega)
    · rw [if_neg d]
      exact s_pick_ok hv hs (by omega) (by omega) (by omega) (by omega) (fun k hk => Or.inr (hin k hk))
  · have hB : min 120 (vn v 0).toInt.natAbs ≤ 120 := Nat.min_le_left _ _
    unfold d_fit
    by_cases a : 2 ≤ vk v
    · rw [if_pos a]; exact be 3 _ (by omega) (by omega)
    rw [if_neg a]
    by_cases b : vk v = 1 ∨ (vn v 0).toInt < -120 ∨ 120 < (vn v 0).toInt ∨ ¬ (vk w = 1 ∨ vk w = 3)
    · rw [if_pos b]; exact be 5 _ (by omega) (by omega)
    rw [if_neg b]
    have n : vw1 (vrow 3 (vn v 0).toInt.natAbs (fsign v w)) := vw1_row (by omega) (by omega) (by omega)
    have sz : vsz 7 (vrow 3 (vn v 0).toInt.natAbs (fsign v w)) = 1 + (vn v 0).toInt.natAbs := vrow_sz (by omega) (by omega)
    exact OKA_v n (flat8 n (by show (3 : Nat) ≠ 7; decide)) (by omega) (by omega) (by omega) (by omega)
  · have hf := flt_le (woF (6 + 1) v w) (vm v)
    have hf1 := hf.1
    have hp := pcl_le (n := (flt (woF (6 + 1) v w) (vm v)).1) hv.1
    unfold d_wo
    by_cases a : vk v ≤ 1
    · rw [if_pos a]; exact be 3 _ (by omega) (by omega)
    rw [if_neg a]
    exact s_pick_ok hv hs (by omega) (by omega) (by omega) (by omega) (fun k hk => Or.inr (hf.2 k hk))
theorem inner_ok (v w : VV) (hv : vwf 7 v) (hw : vwf 7 w) : OKA (vsz 7 v + vsz 7 w) 14 18 (d_inner v w) 2 (inL v * inC w + 9) := by
  obtain ⟨z1, z2, z3, z4⟩ := szv hv.1
  obtain ⟨y1, y2, y3, y4⟩ := szv hw.1
  have a1 : inL v ≤ 12 ∧ (vk v = 6 → 1 ≤ inL v) ∧ (vk v ≠ 6 → inL v = 1) := by
    unfold inL
    by_cases a : vk v = 6
    · rw [if_pos a]
      have := hv.1.2.2.2.1 a
      exact ⟨this.2.1, fun _ => this.1, fun z => absurd a z⟩
    · rw [if_neg a]; exact ⟨by omega, fun z => absurd z a, fun _ => rfl⟩
  have a2 : inC w ≤ 12 ∧ (vk w = 6 → 1 ≤ inC w) ∧ (vk w ≠ 6 → inC w = 1) := by
    unfold inC
    by_cases a : vk w = 6
    · rw [if_pos a]
      have := hw.1.2.2.2.1 a
      exact ⟨this.2.2.2.1, fun _ => this.2.2.1, fun z => absurd a z⟩
    · rw [if_neg a]; exact ⟨by omega, fun z => absurd z a, fun _ => rfl⟩
  have a3 : inL v * inC w ≤ 12 * 12 := Nat.mul_le_mul a1.1 a2.1
  have be : ∀ n, 1 ≤ n ∧ n ≤ 100 → OKA (vsz 7 v + vsz 7 w) 14 18 (.inl n) 2 (inL v * inC w + 9) := fun n y => OKA_e y (by omega) (by omega)
  unfold d_inner
  by_cases a : ¬ (2 ≤ vk v ∧ vk v ≤ 6 ∧ 2 ≤ vk w ∧ vk w ≤ 6)
  · rw [if_pos a]; exact be 3 (by omega)
  rw [if_neg a]
  by_cases b : vk v = 3 ∨ vk w = 3
  · rw [if_pos b]; exact be 5 (by omega)
  rw [if_neg b]
  by_cases c : inA v ≠ vm w
  · rw [if_pos c]; exact be 4 (by omega)
  rw [if_neg c]
  by_cases d : errs (inB v w) (inL v * inC w) ≠ 0
  · rw [if_pos d]; exact be 6 (by omega)
  rw [if_neg d]
  by_cases f : vk v ≤ 5 ∧ vk w ≤ 5
  · rw [if_pos f]
    have e1 := a1.2.2 (by omega)
    have e2 := a2.2.2 (by omega)
    rw [e1, e2]
    have n : vw1 (v1 0 (sopV (inO v w 0))) := vw1_one (by omega)
    have sz : vsz 7 (v1 0 (sopV (inO v w 0))) = 1 := rfl
    exact OKA_v n (flat8 n (by show (0 : Nat) ≠ 7; decide)) (by omega) (by omega) (by omega) (by omega)
  rw [if_neg f]
  by_cases g : vk v = 6 ∧ vk w = 6
  · rw [if_pos g]
    have n : vw1 (vtab (inL v) (inC w) (fun i => sopV (inO v w i))) := vw1_tab (a1.2.1 g.1) a1.1 (a2.2.1 g.2) a2.1 (fun k hk => inB_fit (errs_all (Classical.byContradiction d) k hk) g.1 g.2)
    have sz : vsz 7 (vtab (inL v) (inC w) (fun i => sopV (inO v w i))) = 1 + inL v * inC w := vtab_sz
    exact OKA_v n (flat8 n (by show (6 : Nat) ≠ 7; decide)) (by omega) (by omega) (by omega) (by omega)
  · rw [if_neg g]
    have hl : inL v * inC w ≤ 12 := by
      by_cases x : vk v = 6
      · rw [a2.2.2 (by omega)]; omega
      · rw [a1.2.2 x]; omega
    have hf := vform_le (m := inL v * inC w) (f := fun i => sopV (inO v w i))
    have n : vw1 (vrow (vform (inL v * inC w) (fun i => sopV (inO v w i))) (inL v * inC w) (fun i => sopV (inO v w i))) := vw1_row (by omega) (by omega) (by omega)
    have sz : vsz 7 (vrow (vform (inL v * inC w) (fun i => sopV (inO v w i))) (inL v * inC w) (fun i => sopV (inO v w i))) = 1 + inL v * inC w := vrow_sz (by omega) (by omega)
    exact OKA_v n (flat8 n (by show vform (inL v * inC w) (fun i => sopV (inO v w i)) ≠ 7; omega)) (by omega) (by omega) (by omega) (by omega)
theorem two_all (vb : Int) (v w : VV) (hv : vwf 7 v) (hw : vwf 7 w) (hs : vsz 7 v ≤ 1000) (hs2 : vsz 7 w ≤ 1000) : OKA (vsz 7 v + vsz 7 w) 14 18 (s_two vb 6 v w) (twoA vb 6 v w) (twoB vb 6 v w) := by
  obtain ⟨r1, r2, r3, r4, r5⟩ := rest_ok vb v w hv hw hs hs2
  have r6 := inner_ok v w hv hw
  have r7 := take_ok v w hv hw hs2
  have r8 := join_ok v w hv hw hs hs2
  unfold s_two twoA twoB
  by_cases k : vb = 126
  · rw [if_pos k, if_pos k, if_pos k]
    have z1 := (szv hv.1).1
    have z2 := (szv hw.1).1
    have n : vw1 (v1 0 (Int64.ofInt (zi (vsame (6 + 1) v w)))) := vw1_one (by omega)
    have sz : vsz 7 (v1 0 (Int64.ofInt (zi (vsame (6 + 1) v w)))) = 1 := rfl
    exact OKA_v n (flat8 n (by show (0 : Nat) ≠ 7; decide)) (by omega) (by omega) (by omega) (by omega)
  rw [if_neg k, if_neg k, if_neg k]
  clear k
  by_cases k : vb = 44
  · rw [if_pos k, if_pos k, if_pos k]; exact r8
  rw [if_neg k, if_neg k, if_neg k]
  clear k
  by_cases k1 : vb = 35
  · rw [if_pos k1, if_pos (Or.inl k1), if_pos k1]; exact r7
  rw [if_neg k1, if_neg k1]
  by_cases k2 : vb = 95
  · rw [if_pos k2, if_pos (by omega), if_pos k2]; exact r1
  rw [if_neg k2, if_neg k2]
  by_cases k3 : vb = 63
  · rw [if_pos k3, if_pos (by omega), if_pos k3]; exact r2
  rw [if_neg k3, if_neg k3]
  by_cases k4 : vb = 64
  · rw [if_pos k4, if_pos (by omega), if_pos k4]; exact r3
  rw [if_neg k4, if_neg k4]
  by_cases k5 : vb = 36
  · rw [if_pos k5, if_pos (by omega), if_pos k5]; exact r4
  rw [if_neg k5, if_neg k5]
  by_cases k6 : vb = 94
  · rw [if_pos k6, if_pos (by omega), if_pos k6]; exact r5
  rw [if_neg k6, if_neg k6]
  by_cases k7 : vb = 46
  · rw [if_pos k7, if_pos (by omega), if_pos k7]; exact r6
  rw [if_neg k7, if_neg (by omega), if_neg k7]
  exact pair_ok2 hv hw hs hs2 (Or.inr ⟨rfl, rfl, rfl⟩)
theorem rmt : RMT := fun vb l w hl hw h1 h2 _ _ => by
  obtain ⟨⟨a1, a2⟩, a3, a4⟩ := two_all vb l w hl hw h1 h2
  refine ⟨⟨by omega, by omega⟩, a3, fun r e _ _ => ?_⟩
  have := (a4 r e).2
  exact ⟨by omega, by omega⟩
theorem rst2 : RST2 := fun vb l w hl hw h1 h2 _ _ => by
  obtain ⟨-, a3, a4⟩ := two_all vb l w hl hw h1 h2
  exact ⟨a3, fun r e => (a4 r e).1⟩
