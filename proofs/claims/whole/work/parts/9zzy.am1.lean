/-! the reference amends -/
theorem vm_szd {d : Nat} {v : VV} (hw : vw1 v) : vm v ≤ vsz (d + 1 + 1) v ∧ 1 ≤ vsz (d + 1 + 1) v ∧ (¬ vk v ≤ 1 → vm v + 1 ≤ vsz (d + 1 + 1) v) := by
  show vm v ≤ (if vk v ≤ 1 then 1 else if vk v = 6 then 1 + vm v * vc v else if vk v = 7 then 1 + sumN (vm v) (fun k => vsz (d + 1) (vd v k)) else 1 + vm v) ∧ 1 ≤ (if vk v ≤ 1 then 1 else if vk v = 6 then 1 + vm v * vc v else if vk v = 7 then 1 + sumN (vm v) (fun k => vsz (d + 1) (vd v k)) else 1 + vm v) ∧ (¬ vk v ≤ 1 → vm v + 1 ≤ (if vk v ≤ 1 then 1 else if vk v = 6 then 1 + vm v * vc v else if vk v = 7 then 1 + sumN (vm v) (fun k => vsz (d + 1) (vd v k)) else 1 + vm v))
  by_cases h1 : vk v ≤ 1
  · rw [if_pos h1]
    have := (hw.2.1 h1).1
    exact ⟨by omega, by omega, fun z => absurd h1 z⟩
  · rw [if_neg h1]
    by_cases h6 : vk v = 6
    · rw [if_pos h6]
      have a := (hw.2.2.2.1 h6).2.2.1
      have := Nat.le_mul_of_pos_right (vm v) (show 0 < vc v by omega)
      exact ⟨by omega, by omega, fun _ => by omega⟩
    · rw [if_neg h6]
      by_cases h7 : vk v = 7
      · rw [if_pos h7]
        have := sumN_ge (n := vm v) (f := fun k => vsz (d + 1) (vd v k)) (fun k _ => vsz_ge1)
        exact ⟨by omega, by omega, fun _ => by omega⟩
      · rw [if_neg h7]
        exact ⟨by omega, by omega, fun _ => by omega⟩
/-- what AMENDED makes (pure) -/
def RAM : Prop := ∀ (l w u r : VV), vwf 7 l → vwf 7 w → vwf 7 u → vsz 7 l ≤ 1000 → vsz 7 w ≤ 1000 → vsz 7 u ≤ 1000 → d_amend l w u = .inr r → vw1 r ∧ vsz 8 r ≤ 500000 ∧ (vk r = 7 → vm r = vm l) ∧ (¬ (vk w ≤ 1 ∨ vk u ≤ 1) → vm u = vm w)
theorem am_acc1 {v w u r : VV} (h : vw1 r ∧ vsz 8 r ≤ 500000 ∧ (vk r = 7 → vm r = vm v) ∧ (¬ (vk w ≤ 1 ∨ vk u ≤ 1) → vm u = vm w)) (hr : d_amend v w u = .inr r) (hone : vk w ≤ 1 ∨ vk u ≤ 1) (hg1 : vm v ≤ vsz 7 v ∧ 1 ≤ vsz 7 v ∧ (¬ vk v ≤ 1 → vm v + 1 ≤ vsz 7 v)) (hg2 : vm w ≤ vsz 7 w ∧ 1 ≤ vsz 7 w ∧ (¬ vk w ≤ 1 → vm w + 1 ≤ vsz 7 w)) (hg3 : vm u ≤ vsz 7 u ∧ 1 ≤ vsz 7 u ∧ (¬ vk u ≤ 1 → vm u + 1 ≤ vsz 7 u)) : rcb (d_amend v w u) (vm v + vq v) ≤ 3 + vS v + vS w + vS u + 0 + vsz 7 r ∧ 5 * ((rvb (d_amend v w u) (vm v + 1) : Nat) : Int) + 0 ≤ 3 * ((3 + vS v + vS w + vS u + 0 + vsz 7 r : Nat) : Int) := by
  rw [hr]
  obtain ⟨h1, -, h3, -⟩ := h
  have a : vcl r ≤ vsz 7 r := vcl_sz (d := 5) h1
  have b : vm r ≤ vsz 7 r ∧ 1 ≤ vsz 7 r ∧ (¬ vk r ≤ 1 → vm r + 1 ≤ vsz 7 r) := vm_szd (d := 5) h1
  have e1 : rcb (.inr r) (vm v + vq v) ≤ vcl r := Nat.min_le_right _ _
  have e2 : rvb (.inr r) (vm v + 1) ≤ (if vk r = 7 then vm v + 1 else 1) := by
    show (if vk r = 7 then vm v + 1 else min (vm v + 1) 1) ≤ _
    split
    · exact Nat.le_refl _
    · exact Nat.min_le_right _ _
  have e4 : vS v = vsz 7 v := rfl
  have e5 : vS w = vsz 7 w := rfl
  have e6 : vS u = vsz 7 u := rfl
  by_cases z : vk r = 7
  · rw [if_pos z] at e2
    have := h3 z
    omega
  · rw [if_neg z] at e2
    omega
theorem am_acc2 {v w u r : VV} (h : vw1 r ∧ vsz 8 r ≤ 500000 ∧ (vk r = 7 → vm r = vm v) ∧ (¬ (vk w ≤ 1 ∨ vk u ≤ 1) → vm u = vm w)) (hr : d_amend v w u = .inr r) (hone : ¬ (vk w ≤ 1 ∨ vk u ≤ 1)) (hg1 : vm v ≤ vsz 7 v ∧ 1 ≤ vsz 7 v ∧ (¬ vk v ≤ 1 → vm v + 1 ≤ vsz 7 v)) (hg2 : vm w ≤ vsz 7 w ∧ 1 ≤ vsz 7 w ∧ (¬ vk w ≤ 1 → vm w + 1 ≤ vsz 7 w)) (hg3 : vm u ≤ vsz 7 u ∧ 1 ≤ vsz 7 u ∧ (¬ vk u ≤ 1 → vm u + 1 ≤ vsz 7 u)) : rcb (d_amend v w u) (vm v + vq v) ≤ 3 + vS v + vS w + vS u + 0 + vsz 7 r ∧ 5 * ((rvb (d_amend v w u) (vm v + vm w + 1) : Nat) : Int) + 0 ≤ 3 * ((3 + vS v + vS w + vS u + 0 + vsz 7 r : Nat) : Int) := by
  rw [hr]
  obtain ⟨h1, -, h3, h4⟩ := h
  have a : vcl r ≤ vsz 7 r := vcl_sz (d := 5) h1
  have b : vm r ≤ vsz 7 r ∧ 1 ≤ vsz 7 r ∧ (¬ vk r ≤ 1 → vm r + 1 ≤ vsz 7 r) := vm_szd (d := 5) h1
  have hw1 := hg2.2.2 (fun z => hone (Or.inl z))
  have hu1 := hg3.2.2 (fun z => hone (Or.inr z))
  have hwu := h4 hone
  have e1 : rcb (.inr r) (vm v + vq v) ≤ vcl r := Nat.min_le_right _ _
  have e2 : rvb (.inr r) (vm v + vm w + 1) ≤ (if vk r = 7 then vm v + vm w + 1 else 1) := by
    show (if vk r = 7 then vm v + vm w + 1 else min (vm v + vm w + 1) 1) ≤ _
    split
    · exact Nat.le_refl _
    · exact Nat.min_le_right _ _
  have e4 : vS v = vsz 7 v := rfl
  have e5 : vS w = vsz 7 w := rfl
  have e6 : vS u = vsz 7 u := rfl
  by_cases z : vk r = 7
  · rw [if_pos z] at e2
    have := h3 z
    omega
  · rw [if_neg z] at e2
    omega
set_option maxRecDepth 20000 in
theorem pm_X12_nodePlaceOfName : mj_mmof pg_ms 237 = some ((⟨"ArrayCalculatorModel", "nodePlaceOfName", "()I"⟩, prog_14_method_98_code, 2, (Option.some Jvm.ClassFile.FieldType.int)), 12, false, mj_dec prog_14_method_98_code) := rfl
theorem dm_X12_nodePlaceOfName_0 : mj_dec prog_14_method_98_code 0 = some (.iconst 0, 1) := by decide +kernel
theorem dm_X12_nodePlaceOfName_1 : mj_dec prog_14_method_98_code 1 = some (.istore_n 1, 1) := by decide +kernel
theorem dm_X12_nodePlaceOfName_2 : mj_dec prog_14_method_98_code 2 = some (.aload_n 0, 1) := by decide +kernel
theorem dm_X12_nodePlaceOfName_3 : mj_dec prog_14_method_98_code 3 = some (.getfield 71, 3) := by decide +kernel
theorem dm_X12_nodePlaceOfName_6 : mj_dec prog_14_method_98_code 6 = some (.iload_n 1, 1) := by decide +kernel
theorem dm_X12_nodePlaceOfName_7 : mj_dec prog_14_method_98_code 7 = some (.baload, 1) := by decide +kernel
theorem dm_X12_nodePlaceOfName_8 : mj_dec prog_14_method_98_code 8 = some (.bipush 32, 2) := by decide +kernel
theorem dm_X12_nodePlaceOfName_10 : mj_dec prog_14_method_98_code 10 = some (.if_icmp .ne 9, 3) := by decide +kernel
theorem dm_X12_nodePlaceOfName_13 : mj_dec prog_14_method_98_code 13 = some (.iinc 1 1, 3) := by decide +kernel
theorem dm_X12_nodePlaceOfName_16 : mj_dec prog_14_method_98_code 16 = some (.goto (-14), 3) := by decide +kernel
theorem dm_X12_nodePlaceOfName_19 : mj_dec prog_14_method_98_code 19 = some (.iload_n 1, 1) := by decide +kernel
theorem dm_X12_nodePlaceOfName_20 : mj_dec prog_14_method_98_code 20 = some (.ireturn, 1) := by decide +kernel
theorem r_nodePl_ {xt : mj_X} {d p0 : Nat} {pre post : mj_H} {t : RS} (hm : pre.length = 102) (hd1 : 1 ≤ d) (hp : p0 < 220) (hbl : ∀ k, k < p0 → t.2.2.1 32 k = 32) (hend : t.2.2.1 32 p0 ≠ 32 ∧ -128 ≤ t.2.2.1 32 p0 ∧ t.2.2.1 32 p0 ≤ 127) : pgP xt d 237 [.ref 102] (rS pre post t) (ii ((p0 : Nat) : Int)) := by
  refine x_enter pm_X12_nodePlaceOfName (L0 := [(0, .ref 102)]) rfl (Nat.le_of_ble_eq_true rfl) (by omega) ?_
  refine me0 (pc' := 1) (S' := [ii 0]) dm_X12_nodePlaceOfName_0 rfl rfl rfl rfl ?_
  refine me1 (pc' := 2) (L' := [(1, ii 0), (0, .ref 102)]) (S' := []) dm_X12_nodePlaceOfName_1 rfl rfl rfl rfl ?_
  have lp2 : ∀ (n2 : Nat) (k : Nat), p0 - k = n2 → (k ≤ p0) → pgE xt (d - 1) 12 2 false (Option.some Jvm.ClassFile.FieldType.int) (mj_dec prog_14_method_98_code) 2 [(0, .ref 102), (1, ii ((k : Nat) : Int))] [] (rI pre post t.1 t.2.1 t.2.2.1 t.2.2.2) (fun r h' => r = some (ii ((p0 : Nat) : Int)) ∧ h' = rS pre post t) := by
    intro n2
    induction n2 using Nat.strongRecOn with
    | ind n2 ih2 =>
      intro k hm2 hk
      refine me1 (pc' := 3) (L' := [(0, .ref 102), (1, ii ((k : Nat) : Int))]) (S' := [.ref 102]) dm_X12_nodePlaceOfName_2 rfl rfl rfl rfl ?_
      refine me3 (pc' := 6) (S' := [.ref (102 + 17)]) dm_X12_nodePlaceOfName_3 (q_getr hm rfl (fun m i l => rg_32 m i l)) rfl rfl rfl ?_
      refine me1 (pc' := 7) (L' := [(0, .ref 102), (1, ii ((k : Nat) : Int))]) (S' := [ii ((k : Nat) : Int), .ref (102 + 17)]) dm_X12_nodePlaceOfName_6 rfl rfl rfl rfl ?_
      refine me3 (pc' := 8) (S' := [ii ((t.2.2.1 32) k)]) dm_X12_nodePlaceOfName_7 (q_bald (v := (t.2.2.1 32) k) (k := 32) (n := 220) hm (fun m i l I J => rc_32 m i l I J) (by omega) (by omega) (by decide) rfl) rfl rfl rfl ?_
      by_cases hkp : k < p0
      · have h32 := hbl k hkp
        refine me0 (pc' := 10) (S' := [ii 32, ii ((t.2.2.1 32) k)]) dm_X12_nodePlaceOfName_8 rfl rfl rfl rfl ?_
        refine y_2ne (a := (t.2.2.1 32) k) (b := 32) (t := 19) (pc' := 13) dm_X12_nodePlaceOfName_10 rfl rfl (by omega) (fun hb1 => ?_) (fun hb1 => ?_)
        · exfalso; omega
        · refine y_iinc (pc' := 16) (L' := [(1, ii (((k : Nat) : Int) + 1)), (0, .ref 102)]) dm_X12_nodePlaceOfName_13 (y_incp (a := ((k : Nat) : Int)) (c := 1) rfl rfl (by decide)) rfl ?_
          refine me2 (pc' := 2) (S' := []) dm_X12_nodePlaceOfName_16 rfl rfl rfl ?_
          exact pg_sub (L := [(0, .ref 102), (1, ii (((k + 1) : Nat) : Int))]) rfl rfl rfl (ih2 (p0 - (k + 1)) (by omega) (k + 1) rfl (by omega))
      · have hkp2 : k = p0 := by omega
        have h32 := hend
        rw [← hkp2] at h32
        refine me0 (pc' := 10) (S' := [ii 32, ii ((t.2.2.1 32) k)]) dm_X12_nodePlaceOfName_8 rfl rfl rfl rfl ?_
        refine y_2ne (a := (t.2.2.1 32) k) (b := 32) (t := 19) (pc' := 13) dm_X12_nodePlaceOfName_10 rfl rfl (by omega) (fun hb2 => ?_) (fun hb2 => ?_)
        · refine me1 (pc' := 20) (L' := [(0, .ref 102), (1, ii ((k : Nat) : Int))]) (S' := [ii ((k : Nat) : Int)]) dm_X12_nodePlaceOfName_19 rfl rfl rfl rfl ?_
          refine y_ret (r := some (ii ((k : Nat) : Int))) dm_X12_nodePlaceOfName_20 rfl rfl rfl ?_
          exact ⟨by rw [hkp2], rfl⟩
        · exfalso; omega
  exact pg_sub (L := [(0, .ref 102), (1, ii ((0 : Nat) : Int))]) rfl rfl rfl (lp2 _ 0 rfl (Nat.zero_le _))
abbrev HA (xt : mj_X) (d : Nat) (pre post : mj_H) (t : RS) (vz z : Int) (P : Option Value → mj_H → Prop) : Prop := pgE xt d 12 4 false (Option.some Jvm.ClassFile.FieldType.int) (mj_dec prog_14_method_99_code) 18 [(0, .ref 102), (1, ii vz), (2, ii z)] [] (rI pre post t.1 t.2.1 t.2.2.1 t.2.2.2) (P)
set_option maxRecDepth 20000 in
theorem pm_X12_amends : mj_mmof pg_ms 300 = some ((⟨"ArrayCalculatorModel", "amends", "(I)I"⟩, prog_14_method_99_code, 4, (Option.some Jvm.ClassFile.FieldType.int)), 12, false, mj_dec prog_14_method_99_code) := rfl
theorem dm_X12_amends_0 : mj_dec prog_14_method_99_code 0 = some (.aload_n 0, 1) := by decide +kernel
theorem dm_X12_amends_1 : mj_dec prog_14_method_99_code 1 = some (.aload_n 0, 1) := by decide +kernel
theorem dm_X12_amends_2 : mj_dec prog_14_method_99_code 2 = some (.getfield 498, 3) := by decide +kernel
theorem dm_X12_amends_5 : mj_dec prog_14_method_99_code 5 = some (.invokevirtual 523, 3) := by decide +kernel
theorem dm_X12_amends_8 : mj_dec prog_14_method_99_code 8 = some (.istore_n 2, 1) := by decide +kernel
theorem dm_X12_amends_9 : mj_dec prog_14_method_99_code 9 = some (.aload_n 0, 1) := by decide +kernel
theorem dm_X12_amends_10 : mj_dec prog_14_method_99_code 10 = some (.getfield 181, 3) := by decide +kernel
theorem dm_X12_amends_13 : mj_dec prog_14_method_99_code 13 = some (.ifCond .le 5, 3) := by decide +kernel
theorem dm_X12_amends_16 : mj_dec prog_14_method_99_code 16 = some (.iconst (-1), 1) := by decide +kernel
theorem dm_X12_amends_17 : mj_dec prog_14_method_99_code 17 = some (.ireturn, 1) := by decide +kernel
theorem am_start {xt : mj_X} {d : Nat} {pre post : mj_H} {t : RS} (hm : pre.length = 102) (hd1 : 1 ≤ d) {vz : Int} {Q1 Q : RS → Int → Prop} (hc : pgV xt (d - 1) 239 [.ref 102, ii (t.1 55)] (rS pre post t) (RA pre post Q1)) (kE : ∀ u z, Q1 u z → 0 < u.1 5 → Q u (-1)) (k : ∀ u z, Q1 u z → u.1 5 = 0 → HA xt (d - 1) pre post u vz z (fun r h' => ∃ x, r = some x ∧ RA pre post Q x h')) : pgV xt d 300 [.ref 102, ii vz] (rS pre post t) (RA pre post Q) := by
  refine x_enter pm_X12_amends (L0 := [(0, .ref 102), (1, ii vz)]) rfl (Nat.le_of_ble_eq_true rfl) (by omega) ?_
  refine me1 (pc' := 1) (L' := [(0, .ref 102), (1, ii vz)]) (S' := [.ref 102]) dm_X12_amends_0 rfl rfl rfl rfl ?_
  refine me1 (pc' := 2) (L' := [(0, .ref 102), (1, ii vz)]) (S' := [.ref 102, .ref 102]) dm_X12_amends_1 rfl rfl rfl rfl ?_
  refine me3 (pc' := 5) (S' := [ii (t.1 55), .ref 102]) dm_X12_amends_2 (q_geti (v := t.1 55) hm rfl (fun m i l => rg_55 m i l) rfl) rfl rfl rfl ?_
  refine x_cv (pc' := 8) (rest := []) dm_X12_amends_5 rfl (q_inv (As := [ii (t.1 55)]) (S := []) hm rfl rfl rfl) rfl rfl rfl (hc) ?_
  rintro x1 g1 f1
  obtain ⟨t1, z1, rfl, rfl, hE1, hZ1, hQ1⟩ := f1
  refine me1 (pc' := 9) (L' := [(2, ii z1), (0, .ref 102), (1, ii vz)]) (S' := []) dm_X12_amends_8 rfl rfl rfl rfl ?_
  refine me1 (pc' := 10) (L' := [(2, ii z1), (0, .ref 102), (1, ii vz)]) (S' := [.ref 102]) dm_X12_amends_9 rfl rfl rfl rfl ?_
  refine me3 (pc' := 13) (S' := [ii (t1.1 5)]) dm_X12_amends_10 (q_geti (v := t1.1 5) hm rfl (fun m i l => rg_5 m i l) rfl) rfl rfl rfl ?_
  refine y_1le (a := t1.1 5) (t := 18) (pc' := 16) dm_X12_amends_13 rfl rfl (by omega) (fun hb1 => ?_) (fun hb1 => ?_)
  · exact pg_sub (L := [(0, .ref 102), (1, ii vz), (2, ii z1)]) rfl rfl rfl (k t1 z1 hQ1 (by omega))
  · refine me0 (pc' := 17) (S' := [ii (-1)]) dm_X12_amends_16 rfl rfl rfl rfl ?_
    refine y_ret (r := some (ii (-1))) dm_X12_amends_17 rfl rfl rfl ?_
    exact ⟨_, rfl, _, _, rfl, rfl, hE1, by omega, kE t1 z1 hQ1 (by omega)⟩
theorem dm_X12_amends_18 : mj_dec prog_14_method_99_code 18 = some (.aload_n 0, 1) := by decide +kernel
theorem dm_X12_amends_19 : mj_dec prog_14_method_99_code 19 = some (.aload_n 0, 1) := by decide +kernel
theorem dm_X12_amends_20 : mj_dec prog_14_method_99_code 20 = some (.getfield 487, 3) := by decide +kernel
theorem dm_X12_amends_23 : mj_dec prog_14_method_99_code 23 = some (.invokevirtual 367, 3) := by decide +kernel
theorem dm_X12_amends_26 : mj_dec prog_14_method_99_code 26 = some (.istore_n 3, 1) := by decide +kernel
theorem dm_X12_amends_27 : mj_dec prog_14_method_99_code 27 = some (.iload_n 3, 1) := by decide +kernel
theorem dm_X12_amends_28 : mj_dec prog_14_method_99_code 28 = some (.ifCond .ge 13, 3) := by decide +kernel
theorem dm_X12_amends_31 : mj_dec prog_14_method_99_code 31 = some (.aload_n 0, 1) := by decide +kernel
theorem dm_X12_amends_32 : mj_dec prog_14_method_99_code 32 = some (.iconst 2, 1) := by decide +kernel
theorem dm_X12_amends_33 : mj_dec prog_14_method_99_code 33 = some (.aload_n 0, 1) := by decide +kernel
theorem dm_X12_amends_34 : mj_dec prog_14_method_99_code 34 = some (.invokevirtual 516, 3) := by decide +kernel
theorem dm_X12_amends_37 : mj_dec prog_14_method_99_code 37 = some (.invokevirtual 190, 3) := by decide +kernel
theorem dm_X12_amends_40 : mj_dec prog_14_method_99_code 40 = some (.ireturn, 1) := by decide +kernel
theorem am_none {xt : mj_X} {d : Nat} {pre post : mj_H} {t : RS} {P : Option Value → mj_H → Prop} (hm : pre.length = 102) {vz z : Int} {p0 : Nat} (hd1 : 2 ≤ d) (h5 : t.1 5 = 0) (hca : 0 ≤ t.1 10 ∧ t.1 10 ≤ 100) {n m : Nat} (hn : t.1 23 = (n : Int)) (hmn : t.1 24 = (m : Int)) (hn4 : n ≤ 40) (hm4 : m ≤ 40) {key : Int64} (hk56 : t.2.1 56 = key) (hf : ¬ fndK (t.2.2.2 19) n key < n) (hp : p0 < 220) (hbl : ∀ k, k < p0 → t.2.2.1 32 k = 32) (hend : t.2.2.1 32 p0 ≠ 32 ∧ -128 ≤ t.2.2.1 32 p0 ∧ t.2.2.1 32 p0 ≤ 127) (k : P (some (ii (-1))) (rS pre post (failS t 2 ((p0 : Nat) : Int)))) : HA xt d pre post t vz z P := by
  refine me1 (pc' := 19) (L' := [(0, .ref 102), (1, ii vz), (2, ii z)]) (S' := [.ref 102]) dm_X12_amends_18 rfl rfl rfl rfl ?_
  refine me1 (pc' := 20) (L' := [(0, .ref 102), (1, ii vz), (2, ii z)]) (S' := [.ref 102, .ref 102]) dm_X12_amends_19 rfl rfl rfl rfl ?_
  refine me3 (pc' := 23) (S' := [.long (t.2.1 56), .ref 102]) dm_X12_amends_20 (q_getl (v := t.2.1 56) hm rfl (fun m i l => rg_56 m i l) rfl) rfl rfl rfl ?_
  refine x_cp (pc' := 26) (v := ii (fndR (t.2.2.2 19) n (t.2.1 56))) (rest := []) dm_X12_amends_23 rfl (q_inv (As := [.long (t.2.1 56)]) (S := []) hm rfl rfl rfl) rfl rfl rfl (r_valueNamed_ (n := n) (m := m) (key := t.2.1 56) hm (by omega) hn hmn hn4 hm4) ?_
  refine pg_st (S' := [ii (-1)]) (congrArg (fun z => ii z :: []) (by rw [hk56]; exact fndR_n hf)) ?_
  refine me1 (pc' := 27) (L' := [(3, ii (-1)), (0, .ref 102), (1, ii vz), (2, ii z)]) (S' := []) dm_X12_amends_26 rfl rfl rfl rfl ?_
  refine me1 (pc' := 28) (L' := [(3, ii (-1)), (0, .ref 102), (1, ii vz), (2, ii z)]) (S' := [ii (-1)]) dm_X12_amends_27 rfl rfl rfl rfl ?_
  refine me_1f (pc' := 31) dm_X12_amends_28 rfl (by decide) rfl ?_
  refine me1 (pc' := 32) (L' := [(3, ii (-1)), (0, .ref 102), (1, ii vz), (2, ii z)]) (S' := [.ref 102]) dm_X12_amends_31 rfl rfl rfl rfl ?_
  refine me0 (pc' := 33) (S' := [ii 2, .ref 102]) dm_X12_amends_32 rfl rfl rfl rfl ?_
  refine me1 (pc' := 34) (L' := [(3, ii (-1)), (0, .ref 102), (1, ii vz), (2, ii z)]) (S' := [.ref 102, ii 2, .ref 102]) dm_X12_amends_33 rfl rfl rfl rfl ?_
  refine x_cp (pc' := 37) (v := ii ((p0 : Nat) : Int)) (rest := [ii 2, .ref 102]) dm_X12_amends_34 rfl (q_inv (As := []) (S := [ii 2, .ref 102]) hm rfl rfl rfl) rfl rfl rfl (r_nodePl_ hm (by omega) hp hbl hend) ?_
  refine x_cv (pc' := 40) (rest := []) dm_X12_amends_37 rfl (q_inv (As := [ii 2, ii ((p0 : Nat) : Int)]) (S := []) hm rfl rfl rfl) rfl rfl rfl (r_fail_ (s := t) hm (by omega) h5 hca.1 hca.2) ?_
  rintro _ _ ⟨rfl, rfl⟩
  refine y_ret (r := some (ii (-1))) dm_X12_amends_40 rfl rfl rfl ?_
  exact k
theorem dm_X12_amends_41 : mj_dec prog_14_method_99_code 41 = some (.aload_n 0, 1) := by decide +kernel
theorem dm_X12_amends_42 : mj_dec prog_14_method_99_code 42 = some (.iconst 3, 1) := by decide +kernel
theorem dm_X12_amends_43 : mj_dec prog_14_method_99_code 43 = some (.aload_n 0, 1) := by decide +kernel
theorem dm_X12_amends_44 : mj_dec prog_14_method_99_code 44 = some (.aload_n 0, 1) := by decide +kernel
theorem dm_X12_amends_45 : mj_dec prog_14_method_99_code 45 = some (.getfield 49, 3) := by decide +kernel
theorem dm_X12_amends_48 : mj_dec prog_14_method_99_code 48 = some (.iload_n 3, 1) := by decide +kernel
theorem dm_X12_amends_49 : mj_dec prog_14_method_99_code 49 = some (.iaload, 1) := by decide +kernel
theorem dm_X12_amends_50 : mj_dec prog_14_method_99_code 50 = some (.invokevirtual 165, 3) := by decide +kernel
theorem dm_X12_amends_53 : mj_dec prog_14_method_99_code 53 = some (.iadd, 1) := by decide +kernel
theorem dm_X12_amends_54 : mj_dec prog_14_method_99_code 54 = some (.aload_n 0, 1) := by decide +kernel
theorem dm_X12_amends_55 : mj_dec prog_14_method_99_code 55 = some (.iload_n 2, 1) := by decide +kernel
theorem dm_X12_amends_56 : mj_dec prog_14_method_99_code 56 = some (.invokevirtual 165, 3) := by decide +kernel
theorem dm_X12_amends_59 : mj_dec prog_14_method_99_code 59 = some (.iadd, 1) := by decide +kernel
theorem dm_X12_amends_60 : mj_dec prog_14_method_99_code 60 = some (.aload_n 0, 1) := by decide +kernel
theorem dm_X12_amends_61 : mj_dec prog_14_method_99_code 61 = some (.iload_n 1, 1) := by decide +kernel
theorem dm_X12_amends_62 : mj_dec prog_14_method_99_code 62 = some (.invokevirtual 165, 3) := by decide +kernel
theorem dm_X12_amends_65 : mj_dec prog_14_method_99_code 65 = some (.iadd, 1) := by decide +kernel
theorem dm_X12_amends_66 : mj_dec prog_14_method_99_code 66 = some (.aload_n 0, 1) := by decide +kernel
theorem dm_X12_amends_67 : mj_dec prog_14_method_99_code 67 = some (.getfield 495, 3) := by decide +kernel
theorem dm_X12_amends_70 : mj_dec prog_14_method_99_code 70 = some (.invokevirtual 199, 3) := by decide +kernel
theorem dm_X12_amends_73 : mj_dec prog_14_method_99_code 73 = some (.ifCond .ne 5, 3) := by decide +kernel
theorem dm_X12_amends_76 : mj_dec prog_14_method_99_code 76 = some (.iconst (-1), 1) := by decide +kernel
theorem dm_X12_amends_77 : mj_dec prog_14_method_99_code 77 = some (.ireturn, 1) := by decide +kernel
theorem dm_X12_amends_78 : mj_dec prog_14_method_99_code 78 = some (.aload_n 0, 1) := by decide +kernel
theorem dm_X12_amends_79 : mj_dec prog_14_method_99_code 79 = some (.iconst 0, 1) := by decide +kernel
theorem dm_X12_amends_80 : mj_dec prog_14_method_99_code 80 = some (.putfield 196, 3) := by decide +kernel
theorem dm_X12_amends_83 : mj_dec prog_14_method_99_code 83 = some (.aload_n 0, 1) := by decide +kernel
theorem dm_X12_amends_84 : mj_dec prog_14_method_99_code 84 = some (.aload_n 0, 1) := by decide +kernel
theorem dm_X12_amends_85 : mj_dec prog_14_method_99_code 85 = some (.aload_n 0, 1) := by decide +kernel
theorem dm_X12_amends_86 : mj_dec prog_14_method_99_code 86 = some (.getfield 49, 3) := by decide +kernel
theorem dm_X12_amends_89 : mj_dec prog_14_method_99_code 89 = some (.iload_n 3, 1) := by decide +kernel
theorem dm_X12_amends_90 : mj_dec prog_14_method_99_code 90 = some (.iaload, 1) := by decide +kernel
theorem dm_X12_amends_91 : mj_dec prog_14_method_99_code 91 = some (.iload_n 2, 1) := by decide +kernel
theorem dm_X12_amends_92 : mj_dec prog_14_method_99_code 92 = some (.iload_n 1, 1) := by decide +kernel
theorem dm_X12_amends_93 : mj_dec prog_14_method_99_code 93 = some (.aload_n 0, 1) := by decide +kernel
theorem dm_X12_amends_94 : mj_dec prog_14_method_99_code 94 = some (.getfield 495, 3) := by decide +kernel
theorem dm_X12_amends_97 : mj_dec prog_14_method_99_code 97 = some (.invokevirtual 532, 3) := by decide +kernel
theorem dm_X12_amends_100 : mj_dec prog_14_method_99_code 100 = some (.aload_n 0, 1) := by decide +kernel
theorem dm_X12_amends_101 : mj_dec prog_14_method_99_code 101 = some (.getfield 495, 3) := by decide +kernel
theorem dm_X12_amends_104 : mj_dec prog_14_method_99_code 104 = some (.invokevirtual 208, 3) := by decide +kernel
theorem dm_X12_amends_107 : mj_dec prog_14_method_99_code 107 = some (.ireturn, 1) := by decide +kernel
theorem am_go1 {xt : mj_X} {d hd hd2 hd3 q b base W n m j : Nat} {pre post : mj_H} {s : RS} {v w u : VV} {place nd : Int} {key : Int64} (hm : pre.length = 102) (hd1 : 60 ≤ d) (hRA : RMA) (hAM : RAM) (hB : rB s) (hv : rv s 7 hd v) (hh3 : 3 ≤ hd) (hw : rv s 7 hd2 w) (hh4 : 3 ≤ hd2) (hu : rv s 7 hd3 u) (hh5 : 3 ≤ hd3) (hz1 : vsz 7 v ≤ 1000) (hz2 : vsz 7 w ≤ 1000) (hz3 : vsz 7 u ≤ 1000) (hq : s.1 4 = (q : Int)) (hb : s.1 3 = (b : Int)) (hq3 : 3 ≤ q) (hV2 : q + 2100 < 310000) (he0 : s.1 5 = 0) (hca : 0 ≤ s.1 10 ∧ s.1 10 ≤ 100) (hC : b + 291000 ≤ 820000) (hw13 : s.1 13 = (base : Int)) (hbs : base ≤ 7900) (h8 : s.1 8 = (W : Int)) (hW5 : W ≤ 500000) (hnd : 0 ≤ nd) (hn : s.1 23 = (n : Int)) (hmn : s.1 24 = (m : Int)) (hn4 : n ≤ 40) (hm4 : m ≤ 40) (hk56 : s.2.1 56 = key) (hf : fndK (s.2.2.2 19) n key = j) (hj : j < n) (hat : s.2.2.1 21 j = (hd : Int)) (h57 : s.1 57 = place) (hone : vk w ≤ 1 ∨ vk u ≤ 1) : HA xt d pre post s (hd3 : Int) (hd2 : Int) (fun r h' => ∃ x, r = some x ∧ dres pre post s W 0 nd (dAm (cpS s) W v w u place) x h') := by
  have hB0 := hB
  obtain ⟨hB1, hB2, hB3, hB4⟩ := hB
  obtain ⟨fr, hfr, hsh, hlt, hcl, hvk, hvm, hvc, hvq, hvcl⟩ := rv_val hv
  obtain ⟨fw, hfw, hshw, hltw, hclw, hwk, hwm, hwc, hwq, hwcl⟩ := rv_val hw
  refine me1 (pc' := 19) (L' := [(0, .ref 102), (1, ii (hd3 : Int)), (2, ii (hd2 : Int))]) (S' := [.ref 102]) dm_X12_amends_18 rfl rfl rfl rfl ?_
  refine me1 (pc' := 20) (L' := [(0, .ref 102), (1, ii (hd3 : Int)), (2, ii (hd2 : Int))]) (S' := [.ref 102, .ref 102]) dm_X12_amends_19 rfl rfl rfl rfl ?_
  refine me3 (pc' := 23) (S' := [.long (s.2.1 56), .ref 102]) dm_X12_amends_20 (q_getl (v := s.2.1 56) hm rfl (fun m i l => rg_56 m i l) rfl) rfl rfl rfl ?_
  refine x_cp (pc' := 26) (v := ii (fndR (s.2.2.2 19) n (s.2.1 56))) (rest := []) dm_X12_amends_23 rfl (q_inv (As := [.long (s.2.1 56)]) (S := []) hm rfl rfl rfl) rfl rfl rfl (r_valueNamed_ (n := n) (m := m) (key := s.2.1 56) hm (by omega) hn hmn hn4 hm4) ?_
  refine pg_st (S' := [ii ((j : Nat) : Int)]) (congrArg (fun z => ii z :: []) (by rw [hk56, fndR_y (by omega), hf])) ?_
  refine me1 (pc' := 27) (L' := [(3, ii ((j : Nat) : Int)), (0, .ref 102), (1, ii (hd3 : Int)), (2, ii (hd2 : Int))]) (S' := []) dm_X12_amends_26 rfl rfl rfl rfl ?_
  refine me1 (pc' := 28) (L' := [(3, ii ((j : Nat) : Int)), (0, .ref 102), (1, ii (hd3 : Int)), (2, ii (hd2 : Int))]) (S' := [ii ((j : Nat) : Int)]) dm_X12_amends_27 rfl rfl rfl rfl ?_
  refine y_1ge (a := ((j : Nat) : Int)) (t := 41) (pc' := 31) dm_X12_amends_28 rfl rfl (by omega) (fun hb1 => ?_) (fun hb1 => ?_)
  · refine me1 (pc' := 42) (L' := [(3, ii ((j : Nat) : Int)), (0, .ref 102), (1, ii (hd3 : Int)), (2, ii (hd2 : Int))]) (S' := [.ref 102]) dm_X12_amends_41 rfl rfl rfl rfl ?_
    refine me0 (pc' := 43) (S' := [ii 3, .ref 102]) dm_X12_amends_42 rfl rfl rfl rfl ?_
    refine me1 (pc' := 44) (L' := [(3, ii ((j : Nat) : Int)), (0, .ref 102), (1, ii (hd3 : Int)), (2, ii (hd2 : Int))]) (S' := [.ref 102, ii 3, .ref 102]) dm_X12_amends_43 rfl rfl rfl rfl ?_
    refine me1 (pc' := 45) (L' := [(3, ii ((j : Nat) : Int)), (0, .ref 102), (1, ii (hd3 : Int)), (2, ii (hd2 : Int))]) (S' := [.ref 102, .ref 102, ii 3, .ref 102]) dm_X12_amends_44 rfl rfl rfl rfl ?_
    refine me3 (pc' := 48) (S' := [.ref (102 + 10), .ref 102, ii 3, .ref 102]) dm_X12_amends_45 (q_getr hm rfl (fun m i l => rg_21 m i l)) rfl rfl rfl ?_
    refine me1 (pc' := 49) (L' := [(3, ii ((j : Nat) : Int)), (0, .ref 102), (1, ii (hd3 : Int)), (2, ii (hd2 : Int))]) (S' := [ii ((j : Nat) : Int), .ref (102 + 10), .ref 102, ii 3, .ref 102]) dm_X12_amends_48 rfl rfl rfl rfl ?_
    refine me3 (pc' := 50) (S' := [ii ((s.2.2.1 21) j), .ref 102, ii 3, .ref 102]) dm_X12_amends_49 (q_iald (v := (s.2.2.1 21) j) (k := 21) (n := 40) hm (fun m i l I J => rc_21 m i l I J) (by omega) (by omega) (by decide) rfl) rfl rfl rfl ?_
    refine pg_st (S' := [ii (hd : Int), .ref 102, ii 3, .ref 102]) (congrArg (fun z => ii z :: [.ref 102, ii 3, .ref 102]) (hat)) ?_
    refine x_cp (pc' := 53) (v := ii (vsz 7 v : Int)) (rest := [ii 3, .ref 102]) dm_X12_amends_50 rfl (q_inv (As := [ii (hd : Int)]) (S := [ii 3, .ref 102]) hm rfl rfl rfl) rfl rfl rfl (r_sizeOf_ hm hB0 7 (by omega) hv) ?_
    refine y_iadd (a := 3) (b := (vsz 7 v : Int)) dm_X12_amends_53 (pc' := 54) rfl ?_
    refine me1 (pc' := 55) (L' := [(3, ii ((j : Nat) : Int)), (0, .ref 102), (1, ii (hd3 : Int)), (2, ii (hd2 : Int))]) (S' := [.ref 102, ii (3 + (vsz 7 v : Int)), .ref 102]) dm_X12_amends_54 rfl rfl rfl rfl ?_
    refine me1 (pc' := 56) (L' := [(3, ii ((j : Nat) : Int)), (0, .ref 102), (1, ii (hd3 : Int)), (2, ii (hd2 : Int))]) (S' := [ii (hd2 : Int), .ref 102, ii (3 + (vsz 7 v : Int)), .ref 102]) dm_X12_amends_55 rfl rfl rfl rfl ?_
    refine x_cp (pc' := 59) (v := ii (vsz 7 w : Int)) (rest := [ii (3 + (vsz 7 v : Int)), .ref 102]) dm_X12_amends_56 rfl (q_inv (As := [ii (hd2 : Int)]) (S := [ii (3 + (vsz 7 v : Int)), .ref 102]) hm rfl rfl rfl) rfl rfl rfl (r_sizeOf_ hm hB0 7 (by omega) hw) ?_
    refine y_iadd (a := 3 + (vsz 7 v : Int)) (b := (vsz 7 w : Int)) dm_X12_amends_59 (pc' := 60) rfl ?_
    refine me1 (pc' := 61) (L' := [(3, ii ((j : Nat) : Int)), (0, .ref 102), (1, ii (hd3 : Int)), (2, ii (hd2 : Int))]) (S' := [.ref 102, ii ((3 + (vsz 7 v : Int)) + (vsz 7 w : Int)), .ref 102]) dm_X12_amends_60 rfl rfl rfl rfl ?_
    refine me1 (pc' := 62) (L' := [(3, ii ((j : Nat) : Int)), (0, .ref 102), (1, ii (hd3 : Int)), (2, ii (hd2 : Int))]) (S' := [ii (hd3 : Int), .ref 102, ii ((3 + (vsz 7 v : Int)) + (vsz 7 w : Int)), .ref 102]) dm_X12_amends_61 rfl rfl rfl rfl ?_
    refine x_cp (pc' := 65) (v := ii (vsz 7 u : Int)) (rest := [ii ((3 + (vsz 7 v : Int)) + (vsz 7 w : Int)), .ref 102]) dm_X12_amends_62 rfl (q_inv (As := [ii (hd3 : Int)]) (S := [ii ((3 + (vsz 7 v : Int)) + (vsz 7 w : Int)), .ref 102]) hm rfl rfl rfl) rfl rfl rfl (r_sizeOf_ hm hB0 7 (by omega) hu) ?_
    refine y_iadd (a := (3 + (vsz 7 v : Int)) + (vsz 7 w : Int)) (b := (vsz 7 u : Int)) dm_X12_amends_65 (pc' := 66) rfl ?_
    refine pg_st (S' := [ii ((3 + vS v + vS w + vS u : Nat) : Int), .ref 102]) (congrArg (fun z => ii z :: [.ref 102]) (show ((3 + (vsz 7 v : Int)) + (vsz 7 w : Int)) + (vsz 7 u : Int) = ((3 + vS v + vS w + vS u : Nat) : Int) by show _ = ((3 + vsz 7 v + vsz 7 w + vsz 7 u : Nat) : Int); omega)) ?_
    have hvS : vS v = vsz 7 v := rfl
    have hwS9 : vS w = vsz 7 w := rfl
    have huS9 : vS u = vsz 7 u := rfl
    have hg1 := vm_szd (d := 5) (rv_wf hv).1
    have hg2 := vm_szd (d := 5) (rv_wf hw).1
    have hg3 := vm_szd (d := 5) (rv_wf hu).1
    by_cases hW : W < (3 + vS v + vS w + vS u)
    · refine me1 (pc' := 67) (L' := [(3, ii ((j : Nat) : Int)), (0, .ref 102), (1, ii (hd3 : Int)), (2, ii (hd2 : Int))]) (S' := [.ref 102, ii ((3 + vS v + vS w + vS u : Nat) : Int), .ref 102]) dm_X12_amends_66 rfl rfl rfl rfl ?_
      refine me3 (pc' := 70) (S' := [ii (s.1 57), ii ((3 + vS v + vS w + vS u : Nat) : Int), .ref 102]) dm_X12_amends_67 (q_geti (v := s.1 57) hm rfl (fun m i l => rg_57 m i l) rfl) rfl rfl rfl ?_
      refine pg_st (S' := [ii place, ii ((3 + vS v + vS w + vS u : Nat) : Int), .ref 102]) (congrArg (fun z => ii z :: [ii ((3 + vS v + vS w + vS u : Nat) : Int), .ref 102]) (h57)) ?_
      refine x_cv (pc' := 73) (rest := []) dm_X12_amends_70 rfl (q_inv (As := [ii ((3 + vS v + vS w + vS u : Nat) : Int), ii place]) (S := []) hm rfl rfl rfl) rfl rfl rfl ((by have z := r_takes_ (xt := xt) (d := d) (pre := pre) (post := post) (s := s) (n := ((3 + vS v + vS w + vS u : Nat) : Int)) (place := place) hm (by omega) he0 hca.1 hca.2 (by omega) (by omega) (by omega); rw [tkS_f (by omega), decide_eq_false (by omega)] at z; exact z)) ?_
      rintro _ _ ⟨rfl, rfl⟩
      refine me_1f (pc' := 76) dm_X12_amends_73 rfl (by decide) rfl ?_
      refine me0 (pc' := 77) (S' := [ii (-1)]) dm_X12_amends_76 rfl rfl rfl rfl ?_
      refine y_ret (r := some (ii (-1))) dm_X12_amends_77 rfl rfl rfl ?_
      refine ⟨_, rfl, ?_⟩
      rw [show dAm (cpS s) W v w u place = dEr (cpS s) W 10 place from dAc_no hW]
      exact tk_no (n := 0) he0 h8 hnd
    · refine me1 (pc' := 67) (L' := [(3, ii ((j : Nat) : Int)), (0, .ref 102), (1, ii (hd3 : Int)), (2, ii (hd2 : Int))]) (S' := [.ref 102, ii ((3 + vS v + vS w + vS u : Nat) : Int), .ref 102]) dm_X12_amends_66 rfl rfl rfl rfl ?_
      refine me3 (pc' := 70) (S' := [ii (s.1 57), ii ((3 + vS v + vS w + vS u : Nat) : Int), .ref 102]) dm_X12_amends_67 (q_geti (v := s.1 57) hm rfl (fun m i l => rg_57 m i l) rfl) rfl rfl rfl ?_
      refine pg_st (S' := [ii place, ii ((3 + vS v + vS w + vS u : Nat) : Int), .ref 102]) (congrArg (fun z => ii z :: [ii ((3 + vS v + vS w + vS u : Nat) : Int), .ref 102]) (h57)) ?_
      refine x_cv (pc' := 73) (rest := []) dm_X12_amends_70 rfl (q_inv (As := [ii ((3 + vS v + vS w + vS u : Nat) : Int), ii place]) (S := []) hm rfl rfl rfl) rfl rfl rfl ((by have z := r_takes_ (xt := xt) (d := d) (pre := pre) (post := post) (s := s) (n := ((3 + vS v + vS w + vS u : Nat) : Int)) (place := place) hm (by omega) he0 hca.1 hca.2 (by omega) (by omega) (by omega); rw [tkS_t (by omega), decide_eq_true (by omega)] at z; exact z)) ?_
      rintro _ _ ⟨rfl, rfl⟩
      refine me_1t (pc' := 78) dm_X12_amends_73 rfl (by decide) ?_
      refine me1 (pc' := 79) (L' := [(3, ii ((j : Nat) : Int)), (0, .ref 102), (1, ii (hd3 : Int)), (2, ii (hd2 : Int))]) (S' := [.ref 102]) dm_X12_amends_78 rfl rfl rfl rfl ?_
      refine me0 (pc' := 80) (S' := [ii 0, .ref 102]) dm_X12_amends_79 rfl rfl rfl rfl ?_
      refine me3 (pc' := 83) (S' := []) (h1 := rI pre post (va_up ((takeS s ((3 + vS v + vS w + vS u : Nat) : Int)).1) 9 0) ((takeS s ((3 + vS v + vS w + vS u : Nat) : Int)).2.1) ((takeS s ((3 + vS v + vS w + vS u : Nat) : Int)).2.2.1) ((takeS s ((3 + vS v + vS w + vS u : Nat) : Int)).2.2.2)) dm_X12_amends_80 (q_puti hm rfl rfl (fun m i l v => rf_9 m i l v)) rfl rfl rfl ?_
      obtain ⟨s2, hs2⟩ : ∃ s2 : RS, s2 = (va_up (takeS s ((3 + vS v + vS w + vS u : Nat) : Int)).1 9 0, (takeS s ((3 + vS v + vS w + vS u : Nat) : Int)).2.1, (takeS s ((3 + vS v + vS w + vS u : Nat) : Int)).2.2.1, (takeS s ((3 + vS v + vS w + vS u : Nat) : Int)).2.2.2) := ⟨_, rfl⟩
      have hT := tk_tkd (W := W) hs2 he0 h8 (by omega)
      have hqS : s2.1 4 = (q : Int) := hT.2.2.2.1.trans hq
      have hbS : s2.1 3 = (b : Int) := hT.2.2.1.trans hb
      have heS : s2.1 5 = 0 := hT.2.2.2.2.1
      have hwS : s2.1 13 = (base : Int) := hT.2.2.2.2.2.2.1.trans hw13
      have hcaS : 0 ≤ s2.1 10 ∧ s2.1 10 ≤ 100 := by rw [hT.2.1.1 10 (by decide) (by decide) (by decide) (by decide) (by decide) (by decide) (by decide) (by decide) (by decide) (by decide)]; exact hca
      have hBs : rB s2 := ⟨by omega, by omega, by omega, by omega⟩
      have hvs := rv_ext hT.1 hh3 hv
      have hws := rv_ext hT.1 hh4 hw
      have hus := rv_ext hT.1 hh5 hu
      have hww : W - (3 + vS v + vS w + vS u) + (3 + vS v + vS w + vS u) = W := by omega
      have hpl2 : s2.1 57 = place := by rw [hT.2.1.1 57 (by decide) (by decide) (by decide) (by decide) (by decide) (by decide) (by decide) (by decide) (by decide) (by decide)]; exact h57
      have hat2 : s2.2.2.1 21 j = (hd : Int) := by rw [hT.2.1.2.2.2.1 21 (by decide) (by decide) (by decide) (by decide) (by decide)]; exact hat
      refine pg_cast (h2 := rI pre post s2.1 s2.2.1 s2.2.2.1 s2.2.2.2) (by rw [hs2]) ?_
      refine me1 (pc' := 84) (L' := [(3, ii ((j : Nat) : Int)), (0, .ref 102), (1, ii (hd3 : Int)), (2, ii (hd2 : Int))]) (S' := [.ref 102]) dm_X12_amends_83 rfl rfl rfl rfl ?_
      refine me1 (pc' := 85) (L' := [(3, ii ((j : Nat) : Int)), (0, .ref 102), (1, ii (hd3 : Int)), (2, ii (hd2 : Int))]) (S' := [.ref 102, .ref 102]) dm_X12_amends_84 rfl rfl rfl rfl ?_
      refine me1 (pc' := 86) (L' := [(3, ii ((j : Nat) : Int)), (0, .ref 102), (1, ii (hd3 : Int)), (2, ii (hd2 : Int))]) (S' := [.ref 102, .ref 102, .ref 102]) dm_X12_amends_85 rfl rfl rfl rfl ?_
      refine me3 (pc' := 89) (S' := [.ref (102 + 10), .ref 102, .ref 102]) dm_X12_amends_86 (q_getr hm rfl (fun m i l => rg_21 m i l)) rfl rfl rfl ?_
      refine me1 (pc' := 90) (L' := [(3, ii ((j : Nat) : Int)), (0, .ref 102), (1, ii (hd3 : Int)), (2, ii (hd2 : Int))]) (S' := [ii ((j : Nat) : Int), .ref (102 + 10), .ref 102, .ref 102]) dm_X12_amends_89 rfl rfl rfl rfl ?_
      refine me3 (pc' := 91) (S' := [ii ((s2.2.2.1 21) j), .ref 102, .ref 102]) dm_X12_amends_90 (q_iald (v := (s2.2.2.1 21) j) (k := 21) (n := 40) hm (fun m i l I J => rc_21 m i l I J) (by omega) (by omega) (by decide) rfl) rfl rfl rfl ?_
      refine pg_st (S' := [ii (hd : Int), .ref 102, .ref 102]) (congrArg (fun z => ii z :: [.ref 102, .ref 102]) (hat2)) ?_
      refine me1 (pc' := 92) (L' := [(3, ii ((j : Nat) : Int)), (0, .ref 102), (1, ii (hd3 : Int)), (2, ii (hd2 : Int))]) (S' := [ii (hd2 : Int), ii (hd : Int), .ref 102, .ref 102]) dm_X12_amends_91 rfl rfl rfl rfl ?_
      refine me1 (pc' := 93) (L' := [(3, ii ((j : Nat) : Int)), (0, .ref 102), (1, ii (hd3 : Int)), (2, ii (hd2 : Int))]) (S' := [ii (hd3 : Int), ii (hd2 : Int), ii (hd : Int), .ref 102, .ref 102]) dm_X12_amends_92 rfl rfl rfl rfl ?_
      refine me1 (pc' := 94) (L' := [(3, ii ((j : Nat) : Int)), (0, .ref 102), (1, ii (hd3 : Int)), (2, ii (hd2 : Int))]) (S' := [.ref 102, ii (hd3 : Int), ii (hd2 : Int), ii (hd : Int), .ref 102, .ref 102]) dm_X12_amends_93 rfl rfl rfl rfl ?_
      refine me3 (pc' := 97) (S' := [ii (s2.1 57), ii (hd3 : Int), ii (hd2 : Int), ii (hd : Int), .ref 102, .ref 102]) dm_X12_amends_94 (q_geti (v := s2.1 57) hm rfl (fun m i l => rg_57 m i l) rfl) rfl rfl rfl ?_
      refine pg_st (S' := [ii place, ii (hd3 : Int), ii (hd2 : Int), ii (hd : Int), .ref 102, .ref 102]) (congrArg (fun z => ii z :: [ii (hd3 : Int), ii (hd2 : Int), ii (hd : Int), .ref 102, .ref 102]) (hpl2)) ?_
      refine x_cv (pc' := 100) (rest := [.ref 102]) dm_X12_amends_97 rfl (q_inv (As := [ii (hd : Int), ii (hd2 : Int), ii (hd3 : Int), ii place]) (S := [.ref 102]) hm rfl rfl rfl) rfl rfl rfl (r_amended1_ (e := 6) (q := q) (b := b) (s := s2) (place := place) (base := base) hm (by omega) hBs hvs hh3 hws hh4 hqS hbS hq3 (by omega) heS hcaS (by omega) hus hh5 (by omega) hwS hbs hone) ?_
      rintro x1 g1 hres
      obtain ⟨t1, hge, hGr⟩ := rG_r hres
      have hG : rG pre post s2 8 (d_amend v w u) place (rcb (d_amend v w u) (vm v + vq v)) (rvb (d_amend v w u) (vm v + 1)) x1 g1 := ⟨t1, hge, hGr⟩
      obtain ⟨z1, rfl⟩ := rG_ii hG
      subst hge
      have hpl3 : t1.1 57 = place := by rw [hGr.2.1.1 57 (by decide) (by decide) (by decide) (by decide) (by decide)]; exact hpl2
      refine me1 (pc' := 101) (L' := [(3, ii ((j : Nat) : Int)), (0, .ref 102), (1, ii (hd3 : Int)), (2, ii (hd2 : Int))]) (S' := [.ref 102, ii z1, .ref 102]) dm_X12_amends_100 rfl rfl rfl rfl ?_
      refine me3 (pc' := 104) (S' := [ii (t1.1 57), ii z1, .ref 102]) dm_X12_amends_101 (q_geti (v := t1.1 57) hm rfl (fun m i l => rg_57 m i l) rfl) rfl rfl rfl ?_
      refine pg_st (S' := [ii place, ii z1, .ref 102]) (congrArg (fun z => ii z :: [ii z1, .ref 102]) (hpl3)) ?_
      refine x_cv (pc' := 107) (rest := []) dm_X12_amends_104 rfl (q_inv (As := [ii z1, ii place]) (S := []) hm rfl rfl rfl) rfl rfl rfl (r_mdo (s := s) (s2 := s2) (W2 := W - (3 + vS v + vS w + vS u)) (cost := (3 + vS v + vS w + vS u)) (p := 0) (C := (rcb (d_amend v w u) (vm v + vq v))) (V := (rvb (d_amend v w u) (vm v + 1))) (o := d_amend v w u) (c := 0) (nd := nd) hm (by omega) hT hB0 hG hca (by omega) (by omega) hnd (fun n hn => hRA v w u n hn) (fun r hr => (hAM v w u r (rv_wf hv) (rv_wf hw) (rv_wf hu) hz1 hz2 hz3 hr).2.1) (by have := rcb_le (o := d_amend v w u) (cb := vm v + vq v); omega) (by have := rvb_le (o := d_amend v w u) (vb := (vm v + 1)); omega) (by have := rcb_le (o := d_amend v w u) (cb := vm v + vq v); have := rvb_le (o := d_amend v w u) (vb := (vm v + 1)); omega) (fun r hr h1 _ => am_acc1 (hAM v w u r (rv_wf hv) (rv_wf hw) (rv_wf hu) hz1 hz2 hz3 hr) hr hone hg1 hg2 hg3)) ?_
      rintro x9 g9 hfin
      obtain ⟨z9, rfl⟩ := dres_ii hfin
      obtain ⟨t9, rfl⟩ := dres_st hfin
      refine y_ret (r := some (ii z9)) dm_X12_amends_107 rfl rfl rfl ?_
      have e9 : dAm (cpS s) W v w u place = dMo (cpS s) (W - (3 + vS v + vS w + vS u)) 0 (d_amend v w u) place := by unfold dAm; rw [dAc_mo (by omega)]
      rw [hww] at hfin
      rw [e9]
      exact ⟨_, rfl, hfin⟩
  · exfalso; omega
theorem am_go2 {xt : mj_X} {d hd hd2 hd3 q b base W n m j : Nat} {pre post : mj_H} {s : RS} {v w u : VV} {place nd : Int} {key : Int64} (hm : pre.length = 102) (hd1 : 60 ≤ d) (hRA : RMA) (hAM : RAM) (hB : rB s) (hv : rv s 7 hd v) (hh3 : 3 ≤ hd) (hw : rv s 7 hd2 w) (hh4 : 3 ≤ hd2) (hu : rv s 7 hd3 u) (hh5 : 3 ≤ hd3) (hz1 : vsz 7 v ≤ 1000) (hz2 : vsz 7 w ≤ 1000) (hz3 : vsz 7 u ≤ 1000) (hq : s.1 4 = (q : Int)) (hb : s.1 3 = (b : Int)) (hq3 : 3 ≤ q) (hV2 : q + 2100 < 310000) (he0 : s.1 5 = 0) (hca : 0 ≤ s.1 10 ∧ s.1 10 ≤ 100) (hC : b + 291000 ≤ 820000) (hw13 : s.1 13 = (base : Int)) (hbs : base ≤ 7900) (h8 : s.1 8 = (W : Int)) (hW5 : W ≤ 500000) (hnd : 0 ≤ nd) (hn : s.1 23 = (n : Int)) (hmn : s.1 24 = (m : Int)) (hn4 : n ≤ 40) (hm4 : m ≤ 40) (hk56 : s.2.1 56 = key) (hf : fndK (s.2.2.2 19) n key = j) (hj : j < n) (hat : s.2.2.1 21 j = (hd : Int)) (h57 : s.1 57 = place) (hone : ¬ (vk w ≤ 1 ∨ vk u ≤ 1)) : HA xt d pre post s (hd3 : Int) (hd2 : Int) (fun r h' => ∃ x, r = some x ∧ dres pre post s W 0 nd (dAm (cpS s) W v w u place) x h') := by
  have hB0 := hB
  obtain ⟨hB1, hB2, hB3, hB4⟩ := hB
  obtain ⟨fr, hfr, hsh, hlt, hcl, hvk, hvm, hvc, hvq, hvcl⟩ := rv_val hv
  obtain ⟨fw, hfw, hshw, hltw, hclw, hwk, hwm, hwc, hwq, hwcl⟩ := rv_val hw
  refine me1 (pc' := 19) (L' := [(0, .ref 102), (1, ii (hd3 : Int)), (2, ii (hd2 : Int))]) (S' := [.ref 102]) dm_X12_amends_18 rfl rfl rfl rfl ?_
  refine me1 (pc' := 20) (L' := [(0, .ref 102), (1, ii (hd3 : Int)), (2, ii (hd2 : Int))]) (S' := [.ref 102, .ref 102]) dm_X12_amends_19 rfl rfl rfl rfl ?_
  refine me3 (pc' := 23) (S' := [.long (s.2.1 56), .ref 102]) dm_X12_amends_20 (q_getl (v := s.2.1 56) hm rfl (fun m i l => rg_56 m i l) rfl) rfl rfl rfl ?_
  refine x_cp (pc' := 26) (v := ii (fndR (s.2.2.2 19) n (s.2.1 56))) (rest := []) dm_X12_amends_23 rfl (q_inv (As := [.long (s.2.1 56)]) (S := []) hm rfl rfl rfl) rfl rfl rfl (r_valueNamed_ (n := n) (m := m) (key := s.2.1 56) hm (by omega) hn hmn hn4 hm4) ?_
  refine pg_st (S' := [ii ((j : Nat) : Int)]) (congrArg (fun z => ii z :: []) (by rw [hk56, fndR_y (by omega), hf])) ?_
  refine me1 (pc' := 27) (L' := [(3, ii ((j : Nat) : Int)), (0, .ref 102), (1, ii (hd3 : Int)), (2, ii (hd2 : Int))]) (S' := []) dm_X12_amends_26 rfl rfl rfl rfl ?_
  refine me1 (pc' := 28) (L' := [(3, ii ((j : Nat) : Int)), (0, .ref 102), (1, ii (hd3 : Int)), (2, ii (hd2 : Int))]) (S' := [ii ((j : Nat) : Int)]) dm_X12_amends_27 rfl rfl rfl rfl ?_
  refine y_1ge (a := ((j : Nat) : Int)) (t := 41) (pc' := 31) dm_X12_amends_28 rfl rfl (by omega) (fun hb1 => ?_) (fun hb1 => ?_)
  · refine me1 (pc' := 42) (L' := [(3, ii ((j : Nat) : Int)), (0, .ref 102), (1, ii (hd3 : Int)), (2, ii (hd2 : Int))]) (S' := [.ref 102]) dm_X12_amends_41 rfl rfl rfl rfl ?_
    refine me0 (pc' := 43) (S' := [ii 3, .ref 102]) dm_X12_amends_42 rfl rfl rfl rfl ?_
    refine me1 (pc' := 44) (L' := [(3, ii ((j : Nat) : Int)), (0, .ref 102), (1, ii (hd3 : Int)), (2, ii (hd2 : Int))]) (S' := [.ref 102, ii 3, .ref 102]) dm_X12_amends_43 rfl rfl rfl rfl ?_
    refine me1 (pc' := 45) (L' := [(3, ii ((j : Nat) : Int)), (0, .ref 102), (1, ii (hd3 : Int)), (2, ii (hd2 : Int))]) (S' := [.ref 102, .ref 102, ii 3, .ref 102]) dm_X12_amends_44 rfl rfl rfl rfl ?_
    refine me3 (pc' := 48) (S' := [.ref (102 + 10), .ref 102, ii 3, .ref 102]) dm_X12_amends_45 (q_getr hm rfl (fun m i l => rg_21 m i l)) rfl rfl rfl ?_
    refine me1 (pc' := 49) (L' := [(3, ii ((j : Nat) : Int)), (0, .ref 102), (1, ii (hd3 : Int)), (2, ii (hd2 : Int))]) (S' := [ii ((j : Nat) : Int), .ref (102 + 10), .ref 102, ii 3, .ref 102]) dm_X12_amends_48 rfl rfl rfl rfl ?_
    refine me3 (pc' := 50) (S' := [ii ((s.2.2.1 21) j), .ref 102, ii 3, .ref 102]) dm_X12_amends_49 (q_iald (v := (s.2.2.1 21) j) (k := 21) (n := 40) hm (fun m i l I J => rc_21 m i l I J) (by omega) (by omega) (by decide) rfl) rfl rfl rfl ?_
    refine pg_st (S' := [ii (hd : Int), .ref 102, ii 3, .ref 102]) (congrArg (fun z => ii z :: [.ref 102, ii 3, .ref 102]) (hat)) ?_
    refine x_cp (pc' := 53) (v := ii (vsz 7 v : Int)) (rest := [ii 3, .ref 102]) dm_X12_amends_50 rfl (q_inv (As := [ii (hd : Int)]) (S := [ii 3, .ref 102]) hm rfl rfl rfl) rfl rfl rfl (r_sizeOf_ hm hB0 7 (by omega) hv) ?_
    refine y_iadd (a := 3) (b := (vsz 7 v : Int)) dm_X12_amends_53 (pc' := 54) rfl ?_
    refine me1 (pc' := 55) (L' := [(3, ii ((j : Nat) : Int)), (0, .ref 102), (1, ii (hd3 : Int)), (2, ii (hd2 : Int))]) (S' := [.ref 102, ii (3 + (vsz 7 v : Int)), .ref 102]) dm_X12_amends_54 rfl rfl rfl rfl ?_
    refine me1 (pc' := 56) (L' := [(3, ii ((j : Nat) : Int)), (0, .ref 102), (1, ii (hd3 : Int)), (2, ii (hd2 : Int))]) (S' := [ii (hd2 : Int), .ref 102, ii (3 + (vsz 7 v : Int)), .ref 102]) dm_X12_amends_55 rfl rfl rfl rfl ?_
    refine x_cp (pc' := 59) (v := ii (vsz 7 w : Int)) (rest := [ii (3 + (vsz 7 v : Int)), .ref 102]) dm_X12_amends_56 rfl (q_inv (As := [ii (hd2 : Int)]) (S := [ii (3 + (vsz 7 v : Int)), .ref 102]) hm rfl rfl rfl) rfl rfl rfl (r_sizeOf_ hm hB0 7 (by omega) hw) ?_
    refine y_iadd (a := 3 + (vsz 7 v : Int)) (b := (vsz 7 w : Int)) dm_X12_amends_59 (pc' := 60) rfl ?_
    refine me1 (pc' := 61) (L' := [(3, ii ((j : Nat) : Int)), (0, .ref 102), (1, ii (hd3 : Int)), (2, ii (hd2 : Int))]) (S' := [.ref 102, ii ((3 + (vsz 7 v : Int)) + (vsz 7 w : Int)), .ref 102]) dm_X12_amends_60 rfl rfl rfl rfl ?_
    refine me1 (pc' := 62) (L' := [(3, ii ((j : Nat) : Int)), (0, .ref 102), (1, ii (hd3 : Int)), (2, ii (hd2 : Int))]) (S' := [ii (hd3 : Int), .ref 102, ii ((3 + (vsz 7 v : Int)) + (vsz 7 w : Int)), .ref 102]) dm_X12_amends_61 rfl rfl rfl rfl ?_
    refine x_cp (pc' := 65) (v := ii (vsz 7 u : Int)) (rest := [ii ((3 + (vsz 7 v : Int)) + (vsz 7 w : Int)), .ref 102]) dm_X12_amends_62 rfl (q_inv (As := [ii (hd3 : Int)]) (S := [ii ((3 + (vsz 7 v : Int)) + (vsz 7 w : Int)), .ref 102]) hm rfl rfl rfl) rfl rfl rfl (r_sizeOf_ hm hB0 7 (by omega) hu) ?_
    refine y_iadd (a := (3 + (vsz 7 v : Int)) + (vsz 7 w : Int)) (b := (vsz 7 u : Int)) dm_X12_amends_65 (pc' := 66) rfl ?_
    refine pg_st (S' := [ii ((3 + vS v + vS w + vS u : Nat) : Int), .ref 102]) (congrArg (fun z => ii z :: [.ref 102]) (show ((3 + (vsz 7 v : Int)) + (vsz 7 w : Int)) + (vsz 7 u : Int) = ((3 + vS v + vS w + vS u : Nat) : Int) by show _ = ((3 + vsz 7 v + vsz 7 w + vsz 7 u : Nat) : Int); omega)) ?_
    have hvS : vS v = vsz 7 v := rfl
    have hwS9 : vS w = vsz 7 w := rfl
    have huS9 : vS u = vsz 7 u := rfl
    have hg1 := vm_szd (d := 5) (rv_wf hv).1
    have hg2 := vm_szd (d := 5) (rv_wf hw).1
    have hg3 := vm_szd (d := 5) (rv_wf hu).1
    by_cases hW : W < (3 + vS v + vS w + vS u)
    · refine me1 (pc' := 67) (L' := [(3, ii ((j : Nat) : Int)), (0, .ref 102), (1, ii (hd3 : Int)), (2, ii (hd2 : Int))]) (S' := [.ref 102, ii ((3 + vS v + vS w + vS u : Nat) : Int), .ref 102]) dm_X12_amends_66 rfl rfl rfl rfl ?_
      refine me3 (pc' := 70) (S' := [ii (s.1 57), ii ((3 + vS v + vS w + vS u : Nat) : Int), .ref 102]) dm_X12_amends_67 (q_geti (v := s.1 57) hm rfl (fun m i l => rg_57 m i l) rfl) rfl rfl rfl ?_
      refine pg_st (S' := [ii place, ii ((3 + vS v + vS w + vS u : Nat) : Int), .ref 102]) (congrArg (fun z => ii z :: [ii ((3 + vS v + vS w + vS u : Nat) : Int), .ref 102]) (h57)) ?_
      refine x_cv (pc' := 73) (rest := []) dm_X12_amends_70 rfl (q_inv (As := [ii ((3 + vS v + vS w + vS u : Nat) : Int), ii place]) (S := []) hm rfl rfl rfl) rfl rfl rfl ((by have z := r_takes_ (xt := xt) (d := d) (pre := pre) (post := post) (s := s) (n := ((3 + vS v + vS w + vS u : Nat) : Int)) (place := place) hm (by omega) he0 hca.1 hca.2 (by omega) (by omega) (by omega); rw [tkS_f (by omega), decide_eq_false (by omega)] at z; exact z)) ?_
      rintro _ _ ⟨rfl, rfl⟩
      refine me_1f (pc' := 76) dm_X12_amends_73 rfl (by decide) rfl ?_
      refine me0 (pc' := 77) (S' := [ii (-1)]) dm_X12_amends_76 rfl rfl rfl rfl ?_
      refine y_ret (r := some (ii (-1))) dm_X12_amends_77 rfl rfl rfl ?_
      refine ⟨_, rfl, ?_⟩
      rw [show dAm (cpS s) W v w u place = dEr (cpS s) W 10 place from dAc_no hW]
      exact tk_no (n := 0) he0 h8 hnd
    · refine me1 (pc' := 67) (L' := [(3, ii ((j : Nat) : Int)), (0, .ref 102), (1, ii (hd3 : Int)), (2, ii (hd2 : Int))]) (S' := [.ref 102, ii ((3 + vS v + vS w + vS u : Nat) : Int), .ref 102]) dm_X12_amends_66 rfl rfl rfl rfl ?_
      refine me3 (pc' := 70) (S' := [ii (s.1 57), ii ((3 + vS v + vS w + vS u : Nat) : Int), .ref 102]) dm_X12_amends_67 (q_geti (v := s.1 57) hm rfl (fun m i l => rg_57 m i l) rfl) rfl rfl rfl ?_
      refine pg_st (S' := [ii place, ii ((3 + vS v + vS w + vS u : Nat) : Int), .ref 102]) (congrArg (fun z => ii z :: [ii ((3 + vS v + vS w + vS u : Nat) : Int), .ref 102]) (h57)) ?_
      refine x_cv (pc' := 73) (rest := []) dm_X12_amends_70 rfl (q_inv (As := [ii ((3 + vS v + vS w + vS u : Nat) : Int), ii place]) (S := []) hm rfl rfl rfl) rfl rfl rfl ((by have z := r_takes_ (xt := xt) (d := d) (pre := pre) (post := post) (s := s) (n := ((3 + vS v + vS w + vS u : Nat) : Int)) (place := place) hm (by omega) he0 hca.1 hca.2 (by omega) (by omega) (by omega); rw [tkS_t (by omega), decide_eq_true (by omega)] at z; exact z)) ?_
      rintro _ _ ⟨rfl, rfl⟩
      refine me_1t (pc' := 78) dm_X12_amends_73 rfl (by decide) ?_
      refine me1 (pc' := 79) (L' := [(3, ii ((j : Nat) : Int)), (0, .ref 102), (1, ii (hd3 : Int)), (2, ii (hd2 : Int))]) (S' := [.ref 102]) dm_X12_amends_78 rfl rfl rfl rfl ?_
      refine me0 (pc' := 80) (S' := [ii 0, .ref 102]) dm_X12_amends_79 rfl rfl rfl rfl ?_
      refine me3 (pc' := 83) (S' := []) (h1 := rI pre post (va_up ((takeS s ((3 + vS v + vS w + vS u : Nat) : Int)).1) 9 0) ((takeS s ((3 + vS v + vS w + vS u : Nat) : Int)).2.1) ((takeS s ((3 + vS v + vS w + vS u : Nat) : Int)).2.2.1) ((takeS s ((3 + vS v + vS w + vS u : Nat) : Int)).2.2.2)) dm_X12_amends_80 (q_puti hm rfl rfl (fun m i l v => rf_9 m i l v)) rfl rfl rfl ?_
      obtain ⟨s2, hs2⟩ : ∃ s2 : RS, s2 = (va_up (takeS s ((3 + vS v + vS w + vS u : Nat) : Int)).1 9 0, (takeS s ((3 + vS v + vS w + vS u : Nat) : Int)).2.1, (takeS s ((3 + vS v + vS w + vS u : Nat) : Int)).2.2.1, (takeS s ((3 + vS v + vS w + vS u : Nat) : Int)).2.2.2) := ⟨_, rfl⟩
      have hT := tk_tkd (W := W) hs2 he0 h8 (by omega)
      have hqS : s2.1 4 = (q : Int) := hT.2.2.2.1.trans hq
      have hbS : s2.1 3 = (b : Int) := hT.2.2.1.trans hb
      have heS : s2.1 5 = 0 := hT.2.2.2.2.1
      have hwS : s2.1 13 = (base : Int) := hT.2.2.2.2.2.2.1.trans hw13
      have hcaS : 0 ≤ s2.1 10 ∧ s2.1 10 ≤ 100 := by rw [hT.2.1.1 10 (by decide) (by decide) (by decide) (by decide) (by decide) (by decide) (by decide) (by decide) (by decide) (by decide)]; exact hca
      have hBs : rB s2 := ⟨by omega, by omega, by omega, by omega⟩
      have hvs := rv_ext hT.1 hh3 hv
      have hws := rv_ext hT.1 hh4 hw
      have hus := rv_ext hT.1 hh5 hu
      have hww : W - (3 + vS v + vS w + vS u) + (3 + vS v + vS w + vS u) = W := by omega
      have hpl2 : s2.1 57 = place := by rw [hT.2.1.1 57 (by decide) (by decide) (by decide) (by decide) (by decide) (by decide) (by decide) (by decide) (by decide) (by decide)]; exact h57
      have hat2 : s2.2.2.1 21 j = (hd : Int) := by rw [hT.2.1.2.2.2.1 21 (by decide) (by decide) (by decide) (by decide) (by decide)]; exact hat
      refine pg_cast (h2 := rI pre post s2.1 s2.2.1 s2.2.2.1 s2.2.2.2) (by rw [hs2]) ?_
      refine me1 (pc' := 84) (L' := [(3, ii ((j : Nat) : Int)), (0, .ref 102), (1, ii (hd3 : Int)), (2, ii (hd2 : Int))]) (S' := [.ref 102]) dm_X12_amends_83 rfl rfl rfl rfl ?_
      refine me1 (pc' := 85) (L' := [(3, ii ((j : Nat) : Int)), (0, .ref 102), (1, ii (hd3 : Int)), (2, ii (hd2 : Int))]) (S' := [.ref 102, .ref 102]) dm_X12_amends_84 rfl rfl rfl rfl ?_
      refine me1 (pc' := 86) (L' := [(3, ii ((j : Nat) : Int)), (0, .ref 102), (1, ii (hd3 : Int)), (2, ii (hd2 : Int))]) (S' := [.ref 102, .ref 102, .ref 102]) dm_X12_amends_85 rfl rfl rfl rfl ?_
      refine me3 (pc' := 89) (S' := [.ref (102 + 10), .ref 102, .ref 102]) dm_X12_amends_86 (q_getr hm rfl (fun m i l => rg_21 m i l)) rfl rfl rfl ?_
      refine me1 (pc' := 90) (L' := [(3, ii ((j : Nat) : Int)), (0, .ref 102), (1, ii (hd3 : Int)), (2, ii (hd2 : Int))]) (S' := [ii ((j : Nat) : Int), .ref (102 + 10), .ref 102, .ref 102]) dm_X12_amends_89 rfl rfl rfl rfl ?_
      refine me3 (pc' := 91) (S' := [ii ((s2.2.2.1 21) j), .ref 102, .ref 102]) dm_X12_amends_90 (q_iald (v := (s2.2.2.1 21) j) (k := 21) (n := 40) hm (fun m i l I J => rc_21 m i l I J) (by omega) (by omega) (by decide) rfl) rfl rfl rfl ?_
      refine pg_st (S' := [ii (hd : Int), .ref 102, .ref 102]) (congrArg (fun z => ii z :: [.ref 102, .ref 102]) (hat2)) ?_
      refine me1 (pc' := 92) (L' := [(3, ii ((j : Nat) : Int)), (0, .ref 102), (1, ii (hd3 : Int)), (2, ii (hd2 : Int))]) (S' := [ii (hd2 : Int), ii (hd : Int), .ref 102, .ref 102]) dm_X12_amends_91 rfl rfl rfl rfl ?_
      refine me1 (pc' := 93) (L' := [(3, ii ((j : Nat) : Int)), (0, .ref 102), (1, ii (hd3 : Int)), (2, ii (hd2 : Int))]) (S' := [ii (hd3 : Int), ii (hd2 : Int), ii (hd : Int), .ref 102, .ref 102]) dm_X12_amends_92 rfl rfl rfl rfl ?_
      refine me1 (pc' := 94) (L' := [(3, ii ((j : Nat) : Int)), (0, .ref 102), (1, ii (hd3 : Int)), (2, ii (hd2 : Int))]) (S' := [.ref 102, ii (hd3 : Int), ii (hd2 : Int), ii (hd : Int), .ref 102, .ref 102]) dm_X12_amends_93 rfl rfl rfl rfl ?_
      refine me3 (pc' := 97) (S' := [ii (s2.1 57), ii (hd3 : Int), ii (hd2 : Int), ii (hd : Int), .ref 102, .ref 102]) dm_X12_amends_94 (q_geti (v := s2.1 57) hm rfl (fun m i l => rg_57 m i l) rfl) rfl rfl rfl ?_
      refine pg_st (S' := [ii place, ii (hd3 : Int), ii (hd2 : Int), ii (hd : Int), .ref 102, .ref 102]) (congrArg (fun z => ii z :: [ii (hd3 : Int), ii (hd2 : Int), ii (hd : Int), .ref 102, .ref 102]) (hpl2)) ?_
      refine x_cv (pc' := 100) (rest := [.ref 102]) dm_X12_amends_97 rfl (q_inv (As := [ii (hd : Int), ii (hd2 : Int), ii (hd3 : Int), ii place]) (S := [.ref 102]) hm rfl rfl rfl) rfl rfl rfl (r_amended_ (e := 6) (q := q) (b := b) (s := s2) (place := place) (base := base) hm (by omega) hBs hvs hh3 hws hh4 hqS hbS hq3 (by omega) heS hcaS (by omega) hus hh5 (by omega) hwS hbs) ?_
      rintro x1 g1 hres
      obtain ⟨t1, hge, hGr⟩ := rG_r hres
      have hG : rG pre post s2 8 (d_amend v w u) place (rcb (d_amend v w u) (vm v + vq v)) (rvb (d_amend v w u) (vm v + vm w + 1)) x1 g1 := ⟨t1, hge, hGr⟩
      obtain ⟨z1, rfl⟩ := rG_ii hG
      subst hge
      have hpl3 : t1.1 57 = place := by rw [hGr.2.1.1 57 (by decide) (by decide) (by decide) (by decide) (by decide)]; exact hpl2
      refine me1 (pc' := 101) (L' := [(3, ii ((j : Nat) : Int)), (0, .ref 102), (1, ii (hd3 : Int)), (2, ii (hd2 : Int))]) (S' := [.ref 102, ii z1, .ref 102]) dm_X12_amends_100 rfl rfl rfl rfl ?_
      refine me3 (pc' := 104) (S' := [ii (t1.1 57), ii z1, .ref 102]) dm_X12_amends_101 (q_geti (v := t1.1 57) hm rfl (fun m i l => rg_57 m i l) rfl) rfl rfl rfl ?_
      refine pg_st (S' := [ii place, ii z1, .ref 102]) (congrArg (fun z => ii z :: [ii z1, .ref 102]) (hpl3)) ?_
      refine x_cv (pc' := 107) (rest := []) dm_X12_amends_104 rfl (q_inv (As := [ii z1, ii place]) (S := []) hm rfl rfl rfl) rfl rfl rfl (r_mdo (s := s) (s2 := s2) (W2 := W - (3 + vS v + vS w + vS u)) (cost := (3 + vS v + vS w + vS u)) (p := 0) (C := (rcb (d_amend v w u) (vm v + vq v))) (V := (rvb (d_amend v w u) (vm v + vm w + 1))) (o := d_amend v w u) (c := 0) (nd := nd) hm (by omega) hT hB0 hG hca (by omega) (by omega) hnd (fun n hn => hRA v w u n hn) (fun r hr => (hAM v w u r (rv_wf hv) (rv_wf hw) (rv_wf hu) hz1 hz2 hz3 hr).2.1) (by have := rcb_le (o := d_amend v w u) (cb := vm v + vq v); omega) (by have := rvb_le (o := d_amend v w u) (vb := (vm v + vm w + 1)); omega) (by have := rcb_le (o := d_amend v w u) (cb := vm v + vq v); have := rvb_le (o := d_amend v w u) (vb := (vm v + vm w + 1)); omega) (fun r hr h1 _ => am_acc2 (hAM v w u r (rv_wf hv) (rv_wf hw) (rv_wf hu) hz1 hz2 hz3 hr) hr hone hg1 hg2 hg3)) ?_
      rintro x9 g9 hfin
      obtain ⟨z9, rfl⟩ := dres_ii hfin
      obtain ⟨t9, rfl⟩ := dres_st hfin
      refine y_ret (r := some (ii z9)) dm_X12_amends_107 rfl rfl rfl ?_
      have e9 : dAm (cpS s) W v w u place = dMo (cpS s) (W - (3 + vS v + vS w + vS u)) 0 (d_amend v w u) place := by unfold dAm; rw [dAc_mo (by omega)]
      rw [hww] at hfin
      rw [e9]
      exact ⟨_, rfl, hfin⟩
  · exfalso; omega
