/-! the reference: groups -/
theorem rpw_off {s t : RS} {base n e : Nat} {ch : Nat → VV} (h : rpw s t base n e ch) (hs : s.1 13 = (base : Int)) : rext s (va_up t.1 13 (base : Int), t.2.1, t.2.2.1, t.2.2.2) ∧ rfr s (va_up t.1 13 (base : Int), t.2.1, t.2.2.1, t.2.2.2) := by
  obtain ⟨a1, a2, a3, a4, a5, a6, a7, a8, a9, a10⟩ := h
  refine ⟨⟨?_, ?_, a1.2.2.1, a1.2.2.2⟩, ⟨fun k c3 c4 c5 c6 c17 => ?_, a4, a5, a6, fun j hj => a7 j (by omega)⟩⟩
  · show s.1 4 ≤ va_up t.1 13 (base : Int) 4
    rw [up_ne _ _ (by decide)]
    exact a1.1
  · show s.1 3 ≤ va_up t.1 13 (base : Int) 3
    rw [up_ne _ _ (by decide)]
    exact a1.2.1
  · show va_up t.1 13 (base : Int) k = _
    by_cases z : k = 13
    · subst z; rw [up_eq, hs]
    · rw [up_ne _ _ z]; exact a2 k c3 c4 c5 c6 z c17
theorem flt_pos {f : Nat → Bool} : ∀ i, 0 < (flt f i).1 → ∃ x, x < i ∧ f x = true := by
  intro i
  induction i with
  | zero => intro h; exact absurd h (Nat.lt_irrefl _)
  | succ i ih =>
    intro h
    cases hf : f i with
    | true => exact ⟨i, Nat.lt_succ_self _, hf⟩
    | false =>
      rw [flt_n hf] at h
      obtain ⟨x, h1, h2⟩ := ih h
      exact ⟨x, by omega, h2⟩
theorem flt_pos2 {f : Nat → Bool} {x i : Nat} (h : x < i) (hf : f x = true) : 0 < (flt f i).1 := by
  have h1 := flt_mono (f := f) (show x + 1 ≤ i from h)
  rw [flt_1, if_pos hf] at h1
  omega
theorem unq_mono {same : Nat → Nat → Bool} {k m : Nat} (h : k ≤ m) : (unq same k).1 ≤ (unq same m).1 ∧ ∀ j, j < (unq same k).1 → (unq same m).2 j = (unq same k).2 j := by
  induction m with
  | zero => rw [show k = 0 by omega]; exact ⟨Nat.le_refl _, fun _ _ => rfl⟩
  | succ m ih =>
    by_cases z : k = m + 1
    · rw [z]; exact ⟨Nat.le_refl _, fun _ _ => rfl⟩
    · obtain ⟨h1, h2⟩ := ih (by omega)
      cases ha : allN (unq same m).1 (fun j => !(same m ((unq same m).2 j))) with
      | true =>
        rw [unq_s ha]
        refine ⟨by show _ ≤ (unq same m).1 + 1; omega, fun j hj => ?_⟩
        show va_up (unq same m).2 (unq same m).1 m j = _
        rw [up_ne _ _ (by omega)]
        exact h2 j hj
      | false =>
        rw [unq_n ha]
        exact ⟨h1, h2⟩
theorem unq_rep {v : VV} : ∀ k i, i < k → ∃ j, j < (unq (nsame v) k).1 ∧ vn v i = vn v ((unq (nsame v) k).2 j) := by
  intro k
  induction k with
  | zero => intro i h; exact absurd h (Nat.not_lt_zero _)
  | succ k ih =>
    intro i h
    cases ha : allN (unq (nsame v) k).1 (fun j => !(nsame v k ((unq (nsame v) k).2 j))) with
    | true =>
      rw [unq_s ha]
      by_cases z : i = k
      · exact ⟨(unq (nsame v) k).1, Nat.lt_succ_self _, by show _ = vn v (va_up _ _ _ _); rw [up_eq, z]⟩
      · obtain ⟨j, h1, h2⟩ := ih i (by omega)
        exact ⟨j, Nat.lt_succ_of_lt h1, by show _ = vn v (va_up _ _ _ _); rw [up_ne _ _ (by omega)]; exact h2⟩
    | false =>
      rw [unq_n ha]
      by_cases z : i = k
      · subst z
        refine Classical.byContradiction fun q => ?_
        have h3 : allN (unq (nsame v) i).1 (fun j => !(nsame v i ((unq (nsame v) i).2 j))) = true := allN_ye fun j hj => by
          cases hn : nsame v i ((unq (nsame v) i).2 j) with
          | false => rfl
          | true => exact absurd ⟨j, hj, of_decide_eq_true hn⟩ q
        rw [h3] at ha
        cases ha
      · exact ih i (by omega)
/-- the k-th item is the first of its like -/
theorem gr_first {v : VV} {k m : Nat} {o : Nat → Nat} (hk : k < vm v) (hu : unq (nsame v) k = (m, o)) (h : ∀ x, x < k → decide (vn v x = vn v k) = false) : unq (nsame v) (k + 1) = (m + 1, va_up o m k) ∧ m < grN v ∧ grV v m = vrow 4 (flt (fun i => decide (vn v i = vn v k)) (vm v)).1 (fun j => Int64.ofInt (((flt (fun i => decide (vn v i = vn v k)) (vm v)).2 j : Nat) : Int)) ∧ grC v m = (flt (fun i => decide (vn v i = vn v k)) (vm v)).1 := by
  have hle := unq_le (nsame v) k
  have h1 : allN (unq (nsame v) k).1 (fun j => !(nsame v k ((unq (nsame v) k).2 j))) = true := allN_ye fun j hj => by
    have h2 := h _ (hle.2 j hj)
    have h3 := of_decide_eq_false h2
    exact decide_eq_false fun z => h3 z.symm
  have h4 := unq_s h1
  rw [hu] at h4
  obtain ⟨m1, m2⟩ := unq_mono (same := nsame v) (show k + 1 ≤ vm v from hk)
  rw [h4] at m1 m2
  have hg : grO v m = k := by
    have := m2 m (Nat.lt_succ_self _)
    have e1 : grO v m = va_up o m k m := this
    rw [e1, up_eq]
  have hF : grF v m = fun i => decide (vn v i = vn v k) := by unfold grF; rw [hg]
  refine ⟨h4, m1, ?_, ?_⟩
  · unfold grV grC; rw [hF]
  · unfold grC; rw [hF]
theorem gr_notf {v : VV} {k : Nat} (h : ∃ x, x < k ∧ decide (vn v x = vn v k) = true) : unq (nsame v) (k + 1) = unq (nsame v) k := by
  obtain ⟨x, h1, h2⟩ := h
  obtain ⟨j, h3, h4⟩ := unq_rep k x h1
  refine unq_n (allN_no ⟨j, h3, decide_eq_true ?_⟩)
  exact (of_decide_eq_true h2).symm.trans h4
theorem gr_all {v : VV} {m : Nat} (h : m ≤ grN v) : sumN m (grC v) ≤ vm v := Nat.le_trans (sumN_nm h) (gr_sum v (vm v))
set_option maxRecDepth 20000 in
theorem pm_X12_groups : mj_mmof pg_ms 288 = some ((⟨"ArrayCalculatorModel", "groups", "(II)I"⟩, prog_14_method_37_code, 8, (Option.some Jvm.ClassFile.FieldType.int)), 12, false, mj_dec prog_14_method_37_code) := rfl
theorem dm_X12_groups_0 : mj_dec prog_14_method_37_code 0 = some (.aload_n 0, 1) := by decide +kernel
theorem dm_X12_groups_1 : mj_dec prog_14_method_37_code 1 = some (.iload_n 1, 1) := by decide +kernel
theorem dm_X12_groups_2 : mj_dec prog_14_method_37_code 2 = some (.invokevirtual 149, 3) := by decide +kernel
theorem dm_X12_groups_5 : mj_dec prog_14_method_37_code 5 = some (.ifCond .ne 10, 3) := by decide +kernel
theorem dm_X12_groups_8 : mj_dec prog_14_method_37_code 8 = some (.aload_n 0, 1) := by decide +kernel
theorem dm_X12_groups_9 : mj_dec prog_14_method_37_code 9 = some (.iconst 3, 1) := by decide +kernel
theorem dm_X12_groups_10 : mj_dec prog_14_method_37_code 10 = some (.iload_n 2, 1) := by decide +kernel
theorem dm_X12_groups_11 : mj_dec prog_14_method_37_code 11 = some (.invokevirtual 190, 3) := by decide +kernel
theorem dm_X12_groups_14 : mj_dec prog_14_method_37_code 14 = some (.ireturn, 1) := by decide +kernel
theorem dm_X12_groups_15 : mj_dec prog_14_method_37_code 15 = some (.aload_n 0, 1) := by decide +kernel
theorem dm_X12_groups_16 : mj_dec prog_14_method_37_code 16 = some (.getfield 202, 3) := by decide +kernel
theorem dm_X12_groups_19 : mj_dec prog_14_method_37_code 19 = some (.istore_n 3, 1) := by decide +kernel
theorem dm_X12_groups_20 : mj_dec prog_14_method_37_code 20 = some (.iconst 0, 1) := by decide +kernel
theorem dm_X12_groups_21 : mj_dec prog_14_method_37_code 21 = some (.istore 4, 2) := by decide +kernel
theorem dm_X12_groups_23 : mj_dec prog_14_method_37_code 23 = some (.iload 4, 2) := by decide +kernel
theorem dm_X12_groups_25 : mj_dec prog_14_method_37_code 25 = some (.aload_n 0, 1) := by decide +kernel
theorem dm_X12_groups_26 : mj_dec prog_14_method_37_code 26 = some (.iload_n 1, 1) := by decide +kernel
theorem dm_X12_groups_27 : mj_dec prog_14_method_37_code 27 = some (.invokevirtual 134, 3) := by decide +kernel
theorem dm_X12_groups_30 : mj_dec prog_14_method_37_code 30 = some (.if_icmp .ge 133, 3) := by decide +kernel
theorem dm_X12_groups_33 : mj_dec prog_14_method_37_code 33 = some (.iconst 0, 1) := by decide +kernel
theorem dm_X12_groups_34 : mj_dec prog_14_method_37_code 34 = some (.istore 5, 2) := by decide +kernel
theorem dm_X12_groups_36 : mj_dec prog_14_method_37_code 36 = some (.iconst 1, 1) := by decide +kernel
theorem dm_X12_groups_37 : mj_dec prog_14_method_37_code 37 = some (.istore 6, 2) := by decide +kernel
theorem dm_X12_groups_39 : mj_dec prog_14_method_37_code 39 = some (.iconst 0, 1) := by decide +kernel
theorem dm_X12_groups_40 : mj_dec prog_14_method_37_code 40 = some (.istore 7, 2) := by decide +kernel
theorem dm_X12_groups_42 : mj_dec prog_14_method_37_code 42 = some (.iload 7, 2) := by decide +kernel
theorem dm_X12_groups_44 : mj_dec prog_14_method_37_code 44 = some (.aload_n 0, 1) := by decide +kernel
theorem dm_X12_groups_45 : mj_dec prog_14_method_37_code 45 = some (.iload_n 1, 1) := by decide +kernel
theorem dm_X12_groups_46 : mj_dec prog_14_method_37_code 46 = some (.invokevirtual 134, 3) := by decide +kernel
theorem dm_X12_groups_49 : mj_dec prog_14_method_37_code 49 = some (.if_icmp .ge 66, 3) := by decide +kernel
theorem dm_X12_groups_52 : mj_dec prog_14_method_37_code 52 = some (.iload 6, 2) := by decide +kernel
theorem dm_X12_groups_54 : mj_dec prog_14_method_37_code 54 = some (.ifCond .eq 61, 3) := by decide +kernel
theorem dm_X12_groups_57 : mj_dec prog_14_method_37_code 57 = some (.aload_n 0, 1) := by decide +kernel
theorem dm_X12_groups_58 : mj_dec prog_14_method_37_code 58 = some (.iload_n 1, 1) := by decide +kernel
theorem dm_X12_groups_59 : mj_dec prog_14_method_37_code 59 = some (.iload 7, 2) := by decide +kernel
theorem dm_X12_groups_61 : mj_dec prog_14_method_37_code 61 = some (.invokevirtual 138, 3) := by decide +kernel
theorem dm_X12_groups_64 : mj_dec prog_14_method_37_code 64 = some (.aload_n 0, 1) := by decide +kernel
theorem dm_X12_groups_65 : mj_dec prog_14_method_37_code 65 = some (.iload_n 1, 1) := by decide +kernel
theorem dm_X12_groups_66 : mj_dec prog_14_method_37_code 66 = some (.iload 4, 2) := by decide +kernel
theorem dm_X12_groups_68 : mj_dec prog_14_method_37_code 68 = some (.invokevirtual 138, 3) := by decide +kernel
theorem dm_X12_groups_71 : mj_dec prog_14_method_37_code 71 = some (.lcmp, 1) := by decide +kernel
theorem dm_X12_groups_72 : mj_dec prog_14_method_37_code 72 = some (.ifCond .eq 6, 3) := by decide +kernel
theorem dm_X12_groups_75 : mj_dec prog_14_method_37_code 75 = some (.goto 34, 3) := by decide +kernel
theorem dm_X12_groups_78 : mj_dec prog_14_method_37_code 78 = some (.iload 5, 2) := by decide +kernel
theorem dm_X12_groups_80 : mj_dec prog_14_method_37_code 80 = some (.ifCond .gt 10, 3) := by decide +kernel
theorem dm_X12_groups_83 : mj_dec prog_14_method_37_code 83 = some (.iload 7, 2) := by decide +kernel
theorem dm_X12_groups_85 : mj_dec prog_14_method_37_code 85 = some (.iload 4, 2) := by decide +kernel
theorem dm_X12_groups_87 : mj_dec prog_14_method_37_code 87 = some (.if_icmp .ne 7, 3) := by decide +kernel
theorem dm_X12_groups_90 : mj_dec prog_14_method_37_code 90 = some (.iconst 1, 1) := by decide +kernel
theorem dm_X12_groups_91 : mj_dec prog_14_method_37_code 91 = some (.goto 4, 3) := by decide +kernel
theorem dm_X12_groups_94 : mj_dec prog_14_method_37_code 94 = some (.iconst 0, 1) := by decide +kernel
theorem dm_X12_groups_95 : mj_dec prog_14_method_37_code 95 = some (.istore 6, 2) := by decide +kernel
theorem dm_X12_groups_97 : mj_dec prog_14_method_37_code 97 = some (.aload_n 0, 1) := by decide +kernel
theorem dm_X12_groups_98 : mj_dec prog_14_method_37_code 98 = some (.getfield 33, 3) := by decide +kernel
theorem dm_X12_groups_101 : mj_dec prog_14_method_37_code 101 = some (.iload 5, 2) := by decide +kernel
theorem dm_X12_groups_103 : mj_dec prog_14_method_37_code 103 = some (.iload 7, 2) := by decide +kernel
theorem dm_X12_groups_105 : mj_dec prog_14_method_37_code 105 = some (.iastore, 1) := by decide +kernel
theorem dm_X12_groups_106 : mj_dec prog_14_method_37_code 106 = some (.iinc 5 1, 3) := by decide +kernel
theorem dm_X12_groups_109 : mj_dec prog_14_method_37_code 109 = some (.iinc 7 1, 3) := by decide +kernel
theorem dm_X12_groups_112 : mj_dec prog_14_method_37_code 112 = some (.goto (-70), 3) := by decide +kernel
theorem dm_X12_groups_115 : mj_dec prog_14_method_37_code 115 = some (.iload 6, 2) := by decide +kernel
theorem dm_X12_groups_117 : mj_dec prog_14_method_37_code 117 = some (.ifCond .ne 6, 3) := by decide +kernel
theorem dm_X12_groups_120 : mj_dec prog_14_method_37_code 120 = some (.goto 37, 3) := by decide +kernel
theorem dm_X12_groups_123 : mj_dec prog_14_method_37_code 123 = some (.aload_n 0, 1) := by decide +kernel
theorem dm_X12_groups_124 : mj_dec prog_14_method_37_code 124 = some (.getfield 202, 3) := by decide +kernel
theorem dm_X12_groups_127 : mj_dec prog_14_method_37_code 127 = some (.iload_n 3, 1) := by decide +kernel
theorem dm_X12_groups_128 : mj_dec prog_14_method_37_code 128 = some (.isub, 1) := by decide +kernel
theorem dm_X12_groups_129 : mj_dec prog_14_method_37_code 129 = some (.bipush 24, 2) := by decide +kernel
theorem dm_X12_groups_131 : mj_dec prog_14_method_37_code 131 = some (.if_icmp .ne 16, 3) := by decide +kernel
theorem dm_X12_groups_134 : mj_dec prog_14_method_37_code 134 = some (.aload_n 0, 1) := by decide +kernel
theorem dm_X12_groups_135 : mj_dec prog_14_method_37_code 135 = some (.iload_n 3, 1) := by decide +kernel
theorem dm_X12_groups_136 : mj_dec prog_14_method_37_code 136 = some (.putfield 202, 3) := by decide +kernel
theorem dm_X12_groups_139 : mj_dec prog_14_method_37_code 139 = some (.aload_n 0, 1) := by decide +kernel
theorem dm_X12_groups_140 : mj_dec prog_14_method_37_code 140 = some (.bipush 8, 2) := by decide +kernel
theorem dm_X12_groups_142 : mj_dec prog_14_method_37_code 142 = some (.iload_n 2, 1) := by decide +kernel
theorem dm_X12_groups_143 : mj_dec prog_14_method_37_code 143 = some (.invokevirtual 190, 3) := by decide +kernel
theorem dm_X12_groups_146 : mj_dec prog_14_method_37_code 146 = some (.ireturn, 1) := by decide +kernel
theorem dm_X12_groups_147 : mj_dec prog_14_method_37_code 147 = some (.aload_n 0, 1) := by decide +kernel
theorem dm_X12_groups_148 : mj_dec prog_14_method_37_code 148 = some (.aload_n 0, 1) := by decide +kernel
theorem dm_X12_groups_149 : mj_dec prog_14_method_37_code 149 = some (.iload 5, 2) := by decide +kernel
theorem dm_X12_groups_151 : mj_dec prog_14_method_37_code 151 = some (.invokevirtual 230, 3) := by decide +kernel
theorem dm_X12_groups_154 : mj_dec prog_14_method_37_code 154 = some (.invokevirtual 264, 3) := by decide +kernel
theorem dm_X12_groups_157 : mj_dec prog_14_method_37_code 157 = some (.iinc 4 1, 3) := by decide +kernel
theorem dm_X12_groups_160 : mj_dec prog_14_method_37_code 160 = some (.goto (-137), 3) := by decide +kernel
theorem dm_X12_groups_163 : mj_dec prog_14_method_37_code 163 = some (.aload_n 0, 1) := by decide +kernel
theorem dm_X12_groups_164 : mj_dec prog_14_method_37_code 164 = some (.iload_n 3, 1) := by decide +kernel
theorem dm_X12_groups_165 : mj_dec prog_14_method_37_code 165 = some (.invokevirtual 268, 3) := by decide +kernel
theorem dm_X12_groups_168 : mj_dec prog_14_method_37_code 168 = some (.ireturn, 1) := by decide +kernel
theorem r_groups_ {base : Nat} {xt : mj_X} {d e hd q b : Nat} {pre post : mj_H} {s : RS} {v : VV} {place : Int} (hm : pre.length = 102) (hd1 : 6 ≤ d) (hB : rB s) (hv : rv s (e + 1) hd v) (hh3 : 3 ≤ hd) (hq : s.1 4 = (q : Int)) (hb : s.1 3 = (b : Int)) (hq3 : 3 ≤ q) (hV2 : q < 310000) (he0 : s.1 5 = 0) (hca : 0 ≤ s.1 10 ∧ s.1 10 ≤ 100) (hC : b + 300 ≤ 820000) (hV3 : q + 30 < 310000) (hw13 : s.1 13 = (base : Int)) (hbs : base ≤ 7900) : pgV xt d 288 [.ref 102, ii (hd : Int), ii place] (rS pre post s) (rresP pre post s (e + 2) (m_grp v) place (vm v + min 24 (grN v)) (1 + min 24 (grN v))) := by
  have hB0 := hB
  obtain ⟨hB1, hB2, hB3, hB4⟩ := hB
  obtain ⟨fr, hfr, hsh, hlt, hcl, hvk, hvm, hvc, hvq, hvcl⟩ := rv_val hv
  have hq5 : vk v ≤ 5 → vq v = vm v := vq_m
  refine x_enter pm_X12_groups (L0 := [(0, .ref 102), (1, ii (hd : Int)), (2, ii place)]) rfl (Nat.le_of_ble_eq_true rfl) (by omega) ?_
  refine me1 (pc' := 1) (L' := [(0, .ref 102), (1, ii (hd : Int)), (2, ii place)]) (S' := [.ref 102]) dm_X12_groups_0 rfl rfl rfl rfl ?_
  refine me1 (pc' := 2) (L' := [(0, .ref 102), (1, ii (hd : Int)), (2, ii place)]) (S' := [ii (hd : Int), .ref 102]) dm_X12_groups_1 rfl rfl rfl rfl ?_
  refine x_cp (pc' := 5) (v := zz (decide (2 ≤ vk v ∧ vk v ≤ 5))) (rest := []) dm_X12_groups_2 rfl (q_inv (As := [ii (hd : Int)]) (S := []) hm rfl rfl rfl) rfl rfl rfl (r_isRow_ hm (by omega) hB0 hv) ?_
  refine y_zne (c := decide (2 ≤ vk v ∧ vk v ≤ 5)) (t := 15) (pc' := 8) dm_X12_groups_5 rfl rfl (fun hb1 => ?_) (fun hb1 => ?_)
  · replace hb1 := dT hb1
    refine me1 (pc' := 16) (L' := [(0, .ref 102), (1, ii (hd : Int)), (2, ii place)]) (S' := [.ref 102]) dm_X12_groups_15 rfl rfl rfl rfl ?_
    refine me3 (pc' := 19) (S' := [ii (s.1 13)]) dm_X12_groups_16 (q_geti (v := s.1 13) hm rfl (fun m i l => rg_13 m i l) rfl) rfl rfl rfl ?_
    refine pg_st (S' := [ii ((base : Nat) : Int)]) (congrArg (fun z => ii z :: []) (hw13)) ?_
    refine me1 (pc' := 20) (L' := [(3, ii ((base : Nat) : Int)), (0, .ref 102), (1, ii (hd : Int)), (2, ii place)]) (S' := []) dm_X12_groups_19 rfl rfl rfl rfl ?_
    refine me0 (pc' := 21) (S' := [ii 0]) dm_X12_groups_20 rfl rfl rfl rfl ?_
    refine me1 (pc' := 23) (L' := [(4, ii 0), (3, ii ((base : Nat) : Int)), (0, .ref 102), (1, ii (hd : Int)), (2, ii place)]) (S' := []) dm_X12_groups_21 rfl rfl rfl rfl ?_
    have lp23 : ∀ (n23 : Nat) (k : Nat) (m : Nat) (o : Nat → Nat) (t : RS), vm v - k = n23 → (k ≤ vm v) → (unq (nsame v) k = (m, o)) → (rpw s t base m (e + 1) (grV v)) → ((b : Int) ≤ t.1 3 ∧ t.1 3 ≤ (b : Int) + ((sumN m (grC v) : Nat) : Int)) → ((q : Int) ≤ t.1 4 ∧ t.1 4 ≤ (q : Int) + ((m : Nat) : Int)) → (m ≤ 24) → pgE xt (d - 1) 12 8 false (Option.some Jvm.ClassFile.FieldType.int) (mj_dec prog_14_method_37_code) 23 [(0, .ref 102), (1, ii (hd : Int)), (2, ii place), (3, ii ((base : Nat) : Int)), (4, ii ((k : Nat) : Int))] [] (rI pre post t.1 t.2.1 t.2.2.1 t.2.2.2) (fun r h' => ∃ x, r = some x ∧ rresP pre post s (e + 2) (m_grp v) place (vm v + min 24 (grN v)) (1 + min 24 (grN v)) x h') := by
      intro n23
      induction n23 using Nat.strongRecOn with
      | ind n23 ih23 =>
        intro k m o t hm23 hk hun hpw ht3 ht4 hm24
        obtain ⟨qt, hqt⟩ : ∃ qt : Nat, t.1 4 = (qt : Int) := ⟨(t.1 4).toNat, by omega⟩
        obtain ⟨bt, hbt⟩ : ∃ bt : Nat, t.1 3 = (bt : Int) := ⟨(t.1 3).toNat, by omega⟩
        have hle := unq_le (nsame v) k
        rw [hun] at hle
        have hgm : m ≤ grN v := by have := (unq_mono (same := nsame v) hk).1; rw [hun] at this; exact this
        have hga := gr_all hgm
        have hBt : rB t := ⟨by omega, by omega, by omega, by omega⟩
        have he0t : t.1 5 = 0 := hpw.2.2.2.2.2.2.2.1.trans he0
        have h10t : t.1 10 = s.1 10 := hpw.2.1 10 (by decide) (by decide) (by decide) (by decide) (by decide) (by decide)
        have hvt := rv_ext hpw.1 hh3 hv
        refine me1 (pc' := 25) (L' := [(0, .ref 102), (1, ii (hd : Int)), (2, ii place), (3, ii ((base : Nat) : Int)), (4, ii ((k : Nat) : Int))]) (S' := [ii ((k : Nat) : Int)]) dm_X12_groups_23 rfl rfl rfl rfl ?_
        refine me1 (pc' := 26) (L' := [(0, .ref 102), (1, ii (hd : Int)), (2, ii place), (3, ii ((base : Nat) : Int)), (4, ii ((k : Nat) : Int))]) (S' := [.ref 102, ii ((k : Nat) : Int)]) dm_X12_groups_25 rfl rfl rfl rfl ?_
        refine me1 (pc' := 27) (L' := [(0, .ref 102), (1, ii (hd : Int)), (2, ii place), (3, ii ((base : Nat) : Int)), (4, ii ((k : Nat) : Int))]) (S' := [ii (hd : Int), .ref 102, ii ((k : Nat) : Int)]) dm_X12_groups_26 rfl rfl rfl rfl ?_
        refine x_cp (pc' := 30) (v := ii (vm v : Int)) (rest := [ii ((k : Nat) : Int)]) dm_X12_groups_27 rfl (q_inv (As := [ii (hd : Int)]) (S := [ii ((k : Nat) : Int)]) hm rfl rfl rfl) rfl rfl rfl (r_many_ hm (by omega) hBt hvt) ?_
        refine y_2ge (a := ((k : Nat) : Int)) (b := (vm v : Int)) (t := 163) (pc' := 33) dm_X12_groups_30 rfl rfl (by omega) (fun hb2 => ?_) (fun hb2 => ?_)
        · refine me1 (pc' := 164) (L' := [(0, .ref 102), (1, ii (hd : Int)), (2, ii place), (3, ii ((base : Nat) : Int)), (4, ii ((k : Nat) : Int))]) (S' := [.ref 102]) dm_X12_groups_163 rfl rfl rfl rfl ?_
          refine me1 (pc' := 165) (L' := [(0, .ref 102), (1, ii (hd : Int)), (2, ii place), (3, ii ((base : Nat) : Int)), (4, ii ((k : Nat) : Int))]) (S' := [ii ((base : Nat) : Int), .ref 102]) dm_X12_groups_164 rfl rfl rfl rfl ?_
          have hkn : k = vm v := by omega
          rw [hkn] at hun
          have hgN : grN v = m := by unfold grN; rw [hun]
          refine x_cv (pc' := 168) (rest := []) dm_X12_groups_165 rfl (q_inv (As := [ii ((base : Nat) : Int)]) (S := []) hm rfl rfl rfl) rfl rfl rfl (r_nest_ (s := t) (q := qt) (b := bt) (n := m) (base := base) hm (by omega) hqt hbt (by omega) (by omega) he0t (by omega) (by omega) hpw.2.2.1 (by omega) (rpw_O hpw (by omega))) ?_
          rintro _ _ ⟨rfl, rfl⟩
          refine y_ret (r := some (ii (qt : Int))) dm_X12_groups_168 rfl rfl rfl ?_
          rw [show m_grp v = .inr (vnest m (grV v)) by unfold m_grp; rw [if_neg (by omega), if_neg (by omega), hgN]]
          exact ⟨_, rfl, rpw_nestP hpw hw13 he0 hqt (by omega) hbt (by omega) (by omega) (by omega)⟩
        · refine me0 (pc' := 34) (S' := [ii 0]) dm_X12_groups_33 rfl rfl rfl rfl ?_
          refine me1 (pc' := 36) (L' := [(5, ii 0), (0, .ref 102), (1, ii (hd : Int)), (2, ii place), (3, ii ((base : Nat) : Int)), (4, ii ((k : Nat) : Int))]) (S' := []) dm_X12_groups_34 rfl rfl rfl rfl ?_
          refine me0 (pc' := 37) (S' := [ii 1]) dm_X12_groups_36 rfl rfl rfl rfl ?_
          refine pg_st (S' := [zz true]) rfl ?_
          refine me1 (pc' := 39) (L' := [(6, zz true), (5, ii 0), (0, .ref 102), (1, ii (hd : Int)), (2, ii place), (3, ii ((base : Nat) : Int)), (4, ii ((k : Nat) : Int))]) (S' := []) dm_X12_groups_37 rfl rfl rfl rfl ?_
          refine me0 (pc' := 40) (S' := [ii 0]) dm_X12_groups_39 rfl rfl rfl rfl ?_
          refine me1 (pc' := 42) (L' := [(7, ii 0), (6, zz true), (5, ii 0), (0, .ref 102), (1, ii (hd : Int)), (2, ii place), (3, ii ((base : Nat) : Int)), (4, ii ((k : Nat) : Int))]) (S' := []) dm_X12_groups_40 rfl rfl rfl rfl ?_
          have lp42 : ∀ (n42 : Nat) (i : Nat) (n : Nat) (c : Bool) (P : Nat → Int) (g : Nat → Nat), vm v - i = n42 → (i ≤ vm v) → (n ≤ i) → (c = true → flt (fun i => decide (vn v i = vn v k)) i = (n, g) ∧ (∀ j, j < n → P j = ((g j : Nat) : Int)) ∧ ∀ x, x < i → x < k → decide (vn v x = vn v k) = false) → (c = false → ∃ x, x < k ∧ decide (vn v x = vn v k) = true) → pgE xt (d - 1) 12 8 false (Option.some Jvm.ClassFile.FieldType.int) (mj_dec prog_14_method_37_code) 42 [(0, .ref 102), (1, ii (hd : Int)), (2, ii place), (3, ii ((base : Nat) : Int)), (4, ii ((k : Nat) : Int)), (5, ii ((n : Nat) : Int)), (6, zz c), (7, ii ((i : Nat) : Int))] [] (rI pre post ((ordS t P).1) ((ordS t P).2.1) ((ordS t P).2.2.1) ((ordS t P).2.2.2)) (fun r h' => ∃ x, r = some x ∧ rresP pre post s (e + 2) (m_grp v) place (vm v + min 24 (grN v)) (1 + min 24 (grN v)) x h') := by
            intro n42
            induction n42 using Nat.strongRecOn with
            | ind n42 ih42 =>
              intro i n c P g hm42 hi hn hc1 hc0
              refine me1 (pc' := 44) (L' := [(0, .ref 102), (1, ii (hd : Int)), (2, ii place), (3, ii ((base : Nat) : Int)), (4, ii ((k : Nat) : Int)), (5, ii ((n : Nat) : Int)), (6, zz c), (7, ii ((i : Nat) : Int))]) (S' := [ii ((i : Nat) : Int)]) dm_X12_groups_42 rfl rfl rfl rfl ?_
              refine me1 (pc' := 45) (L' := [(0, .ref 102), (1, ii (hd : Int)), (2, ii place), (3, ii ((base : Nat) : Int)), (4, ii ((k : Nat) : Int)), (5, ii ((n : Nat) : Int)), (6, zz c), (7, ii ((i : Nat) : Int))]) (S' := [.ref 102, ii ((i : Nat) : Int)]) dm_X12_groups_44 rfl rfl rfl rfl ?_
              refine me1 (pc' := 46) (L' := [(0, .ref 102), (1, ii (hd : Int)), (2, ii place), (3, ii ((base : Nat) : Int)), (4, ii ((k : Nat) : Int)), (5, ii ((n : Nat) : Int)), (6, zz c), (7, ii ((i : Nat) : Int))]) (S' := [ii (hd : Int), .ref 102, ii ((i : Nat) : Int)]) dm_X12_groups_45 rfl rfl rfl rfl ?_
              refine x_cp (pc' := 49) (v := ii (vm v : Int)) (rest := [ii ((i : Nat) : Int)]) dm_X12_groups_46 rfl (q_inv (As := [ii (hd : Int)]) (S := [ii ((i : Nat) : Int)]) hm rfl rfl rfl) rfl rfl rfl (r_many_ hm (by omega) (rB_ord hBt) (rv_ord hh3 hvt)) ?_
              refine y_2ge (a := ((i : Nat) : Int)) (b := (vm v : Int)) (t := 115) (pc' := 52) dm_X12_groups_49 rfl rfl (by omega) (fun hb3 => ?_) (fun hb3 => ?_)
              · refine me1 (pc' := 117) (L' := [(0, .ref 102), (1, ii (hd : Int)), (2, ii place), (3, ii ((base : Nat) : Int)), (4, ii ((k : Nat) : Int)), (5, ii ((n : Nat) : Int)), (6, zz c), (7, ii ((i : Nat) : Int))]) (S' := [zz c]) dm_X12_groups_115 rfl rfl rfl rfl ?_
                refine y_zne (c := c) (t := 123) (pc' := 120) dm_X12_groups_117 rfl rfl (fun hb4 => ?_) (fun hb4 => ?_)
                · refine me1 (pc' := 124) (L' := [(0, .ref 102), (1, ii (hd : Int)), (2, ii place), (3, ii ((base : Nat) : Int)), (4, ii ((k : Nat) : Int)), (5, ii ((n : Nat) : Int)), (6, zz c), (7, ii ((i : Nat) : Int))]) (S' := [.ref 102]) dm_X12_groups_123 rfl rfl rfl rfl ?_
                  refine me3 (pc' := 127) (S' := [ii (((ordS t P).1) 13)]) dm_X12_groups_124 (q_geti (v := ((ordS t P).1) 13) hm rfl (fun m i l => rg_13 m i l) rfl) rfl rfl rfl ?_
                  refine pg_st (S' := [ii ((base + m : Nat) : Int)]) (congrArg (fun z => ii z :: []) (hpw.2.2.1)) ?_
                  refine me1 (pc' := 128) (L' := [(0, .ref 102), (1, ii (hd : Int)), (2, ii place), (3, ii ((base : Nat) : Int)), (4, ii ((k : Nat) : Int)), (5, ii ((n : Nat) : Int)), (6, zz c), (7, ii ((i : Nat) : Int))]) (S' := [ii ((base : Nat) : Int), ii ((base + m : Nat) : Int)]) dm_X12_groups_127 rfl rfl rfl rfl ?_
                  refine y_isub (a := ((base + m : Nat) : Int)) (b := ((base : Nat) : Int)) dm_X12_groups_128 (pc' := 129) rfl ?_
                  refine me0 (pc' := 131) (S' := [ii 24, ii (((base + m : Nat) : Int) - ((base : Nat) : Int))]) dm_X12_groups_129 rfl rfl rfl rfl ?_
                  refine y_2ne (a := ((base + m : Nat) : Int) - ((base : Nat) : Int)) (b := 24) (t := 147) (pc' := 134) dm_X12_groups_131 rfl rfl (by omega) (fun hb5 => ?_) (fun hb5 => ?_)
                  · refine me1 (pc' := 148) (L' := [(0, .ref 102), (1, ii (hd : Int)), (2, ii place), (3, ii ((base : Nat) : Int)), (4, ii ((k : Nat) : Int)), (5, ii ((n : Nat) : Int)), (6, zz c), (7, ii ((i : Nat) : Int))]) (S' := [.ref 102]) dm_X12_groups_147 rfl rfl rfl rfl ?_
                    refine me1 (pc' := 149) (L' := [(0, .ref 102), (1, ii (hd : Int)), (2, ii place), (3, ii ((base : Nat) : Int)), (4, ii ((k : Nat) : Int)), (5, ii ((n : Nat) : Int)), (6, zz c), (7, ii ((i : Nat) : Int))]) (S' := [.ref 102, .ref 102]) dm_X12_groups_148 rfl rfl rfl rfl ?_
                    refine me1 (pc' := 151) (L' := [(0, .ref 102), (1, ii (hd : Int)), (2, ii place), (3, ii ((base : Nat) : Int)), (4, ii ((k : Nat) : Int)), (5, ii ((n : Nat) : Int)), (6, zz c), (7, ii ((i : Nat) : Int))]) (S' := [ii ((n : Nat) : Int), .ref 102, .ref 102]) dm_X12_groups_149 rfl rfl rfl rfl ?_
                    have hgf := gr_first (show k < vm v by omega) hun (fun x hx => (hc1 hb4).2.2 x (by omega) hx)
                    have hin : i = vm v := by omega
                    have hfe := (hc1 hb4).1
                    rw [hin] at hfe
                    have hfl := (flt_le (fun i => decide (vn v i = vn v k)) (vm v)).2
                    rw [hfe] at hfl
                    have hgC : grC v m = n := by rw [hgf.2.2.2, hfe]
                    have hga2 := gr_all (v := v) (m := m + 1) hgf.2.1
                    have hss : sumN (m + 1) (grC v) = sumN m (grC v) + grC v m := rfl
                    have hOO : ∀ j, j < n → 0 ≤ (ordS t P).2.2.1 14 j ∧ (ordS t P).2.2.1 14 j ≤ 1000 := fun j hj => by rw [ordS_14, (hc1 hb4).2.1 j hj]; have hq9 : g j < vm v := hfl j hj; omega
                    refine x_cv (pc' := 154) (rest := [.ref 102]) dm_X12_groups_151 rfl (q_inv (As := [ii ((n : Nat) : Int)]) (S := [.ref 102]) hm rfl rfl rfl) rfl rfl rfl (r_places_ (e := e) (q := qt) (b := bt) (n := n) (s := (ordS t P)) (place := place) hm (by omega) hqt hbt (by omega) (by omega) he0t (by omega) (by omega) hOO) ?_
                    rintro _ _ ⟨t1, rfl, r1, r2, r3, r4, r5, r6, p1, r7, rfl, r8⟩
                    have r3o := rcb_w r3
                    have r4o := rvb_w r4
                    replace r8 := rv_cg (by omega) (fun j hj => by rw [ordS_14, (hc1 hb4).2.1 j hj]) r8
                    rw [show vrow 4 n (fun j => Int64.ofInt ((g j : Nat) : Int)) = vrow 4 (flt (fun i => decide (vn v i = vn v k)) (vm v)).1 (fun j => Int64.ofInt (((flt (fun i => decide (vn v i = vn v k)) (vm v)).2 j : Nat) : Int)) by rw [hfe]] at r8
                    refine x_cn (pc' := 157) (rest := []) dm_X12_groups_154 rfl (q_inv (As := [ii (p1 : Int)]) (S := []) hm rfl rfl rfl) rfl rfl rfl (r_push_ (s := t1) (n := base + m) hm (by omega) ((r2.1 13 (by decide) (by decide) (by decide) (by decide) (by decide)).trans hpw.2.2.1) (by omega)) ?_
                    rintro _ rfl
                    refine y_iinc (pc' := 160) (L' := [(4, ii (((k : Nat) : Int) + 1)), (0, .ref 102), (1, ii (hd : Int)), (2, ii place), (3, ii ((base : Nat) : Int)), (5, ii ((n : Nat) : Int)), (6, zz c), (7, ii ((i : Nat) : Int))]) dm_X12_groups_157 (y_incp (a := ((k : Nat) : Int)) (c := 1) rfl rfl (by decide)) rfl ?_
                    refine me2 (pc' := 23) (S' := []) dm_X12_groups_160 rfl rfl rfl ?_
                    exact pg_sub (L := [(0, .ref 102), (1, ii (hd : Int)), (2, ii place), (3, ii ((base : Nat) : Int)), (4, ii (((k + 1) : Nat) : Int))]) rfl rfl rfl (ih23 (vm v - (k + 1)) (by omega) (k + 1) (m + 1) (va_up o m k) (pushS t1 (base + m) (p1 : Int)) rfl (by omega) hgf.1 (rpw_push (rpw_fr (rpw_pre hpw (rpre_ord t P)) r1 r2 (r5.trans he0t.symm) r6) r7 (by rw [hgf.2.2.1]; exact r8)) (show _ ≤ t1.1 3 ∧ t1.1 3 ≤ _ by have := r1.2.1; have e3 : (ordS t P).1 3 = t.1 3 := rfl; have hss : sumN (m + 1) (grC v) = sumN m (grC v) + grC v m := rfl; omega) (show _ ≤ t1.1 4 ∧ t1.1 4 ≤ _ by have := r1.1; have e4 : (ordS t P).1 4 = t.1 4 := rfl; omega) (by omega))
                  · refine me1 (pc' := 135) (L' := [(0, .ref 102), (1, ii (hd : Int)), (2, ii place), (3, ii ((base : Nat) : Int)), (4, ii ((k : Nat) : Int)), (5, ii ((n : Nat) : Int)), (6, zz c), (7, ii ((i : Nat) : Int))]) (S' := [.ref 102]) dm_X12_groups_134 rfl rfl rfl rfl ?_
                    refine me1 (pc' := 136) (L' := [(0, .ref 102), (1, ii (hd : Int)), (2, ii place), (3, ii ((base : Nat) : Int)), (4, ii ((k : Nat) : Int)), (5, ii ((n : Nat) : Int)), (6, zz c), (7, ii ((i : Nat) : Int))]) (S' := [ii ((base : Nat) : Int), .ref 102]) dm_X12_groups_135 rfl rfl rfl rfl ?_
                    refine me3 (pc' := 139) (S' := []) (h1 := rI pre post (va_up ((ordS t P).1) 13 ((base : Nat) : Int)) ((ordS t P).2.1) ((ordS t P).2.2.1) ((ordS t P).2.2.2)) dm_X12_groups_136 (q_puti hm rfl rfl (fun m i l v => rf_13 m i l v)) rfl rfl rfl ?_
                    refine pg_cast (h2 := rI pre post ((va_up (ordS t P).1 13 (base : Int), (ordS t P).2.1, (ordS t P).2.2.1, (ordS t P).2.2.2).1) ((va_up (ordS t P).1 13 (base : Int), (ordS t P).2.1, (ordS t P).2.2.1, (ordS t P).2.2.2).2.1) ((va_up (ordS t P).1 13 (base : Int), (ordS t P).2.1, (ordS t P).2.2.1, (ordS t P).2.2.2).2.2.1) ((va_up (ordS t P).1 13 (base : Int), (ordS t P).2.1, (ordS t P).2.2.1, (ordS t P).2.2.2).2.2.2)) rfl ?_
                    refine me1 (pc' := 140) (L' := [(0, .ref 102), (1, ii (hd : Int)), (2, ii place), (3, ii ((base : Nat) : Int)), (4, ii ((k : Nat) : Int)), (5, ii ((n : Nat) : Int)), (6, zz c), (7, ii ((i : Nat) : Int))]) (S' := [.ref 102]) dm_X12_groups_139 rfl rfl rfl rfl ?_
                    refine me0 (pc' := 142) (S' := [ii 8, .ref 102]) dm_X12_groups_140 rfl rfl rfl rfl ?_
                    refine me1 (pc' := 143) (L' := [(0, .ref 102), (1, ii (hd : Int)), (2, ii place), (3, ii ((base : Nat) : Int)), (4, ii ((k : Nat) : Int)), (5, ii ((n : Nat) : Int)), (6, zz c), (7, ii ((i : Nat) : Int))]) (S' := [ii place, ii 8, .ref 102]) dm_X12_groups_142 rfl rfl rfl rfl ?_
                    have hgf := gr_first (show k < vm v by omega) hun (fun x hx => (hc1 hb4).2.2 x (by omega) hx)
                    refine x_cv (pc' := 146) (rest := []) dm_X12_groups_143 rfl (q_inv (As := [ii 8, ii place]) (S := []) hm rfl rfl rfl) rfl rfl rfl (r_fail_ (s := (va_up (ordS t P).1 13 (base : Int), (ordS t P).2.1, (ordS t P).2.2.1, (ordS t P).2.2.2)) hm (by omega) (show (va_up (ordS t P).1 13 (base : Int)) 5 = 0 by rw [up_ne _ _ (by decide)]; exact he0t) (show 0 ≤ (va_up (ordS t P).1 13 (base : Int)) 10 by rw [up_ne _ _ (by decide)]; exact (h10t.symm ▸ hca.1)) (show (va_up (ordS t P).1 13 (base : Int)) 10 ≤ 100 by rw [up_ne _ _ (by decide)]; exact (h10t.symm ▸ hca.2))) ?_
                    rintro _ _ ⟨rfl, rfl⟩
                    refine y_ret (r := some (ii (-1))) dm_X12_groups_146 rfl rfl rfl ?_
                    rw [show m_grp v = .inl 8 by unfold m_grp; rw [if_neg (by omega), if_pos (by omega)]]
                    obtain ⟨z1, z2⟩ := rpw_off (rpw_pre hpw (rpre_ord t P)) hw13
                    exact ⟨_, rfl, rresP_of (rres_failT z1 z2 (show va_up (ordS t P).1 13 (base : Int) 3 ≤ _ by rw [up_ne _ _ (by decide)]; show t.1 3 ≤ _; omega) (show va_up (ordS t P).1 13 (base : Int) 4 ≤ _ by rw [up_ne _ _ (by decide)]; show t.1 4 ≤ _; omega))⟩
                · refine me2 (pc' := 157) (S' := []) dm_X12_groups_120 rfl rfl rfl ?_
                  refine y_iinc (pc' := 160) (L' := [(4, ii (((k : Nat) : Int) + 1)), (0, .ref 102), (1, ii (hd : Int)), (2, ii place), (3, ii ((base : Nat) : Int)), (5, ii ((n : Nat) : Int)), (6, zz c), (7, ii ((i : Nat) : Int))]) dm_X12_groups_157 (y_incp (a := ((k : Nat) : Int)) (c := 1) rfl rfl (by decide)) rfl ?_
                  refine me2 (pc' := 23) (S' := []) dm_X12_groups_160 rfl rfl rfl ?_
                  exact pg_sub (L := [(0, .ref 102), (1, ii (hd : Int)), (2, ii place), (3, ii ((base : Nat) : Int)), (4, ii (((k + 1) : Nat) : Int))]) rfl rfl rfl (ih23 (vm v - (k + 1)) (by omega) (k + 1) m o (ordS t P) rfl (by omega) ((gr_notf (hc0 hb4)).trans hun) (rpw_pre hpw (rpre_ord t P)) ht3 ht4 hm24)
              · refine me1 (pc' := 54) (L' := [(0, .ref 102), (1, ii (hd : Int)), (2, ii place), (3, ii ((base : Nat) : Int)), (4, ii ((k : Nat) : Int)), (5, ii ((n : Nat) : Int)), (6, zz c), (7, ii ((i : Nat) : Int))]) (S' := [zz c]) dm_X12_groups_52 rfl rfl rfl rfl ?_
                refine y_zeq (c := c) (t := 115) (pc' := 57) dm_X12_groups_54 rfl rfl (fun hb6 => ?_) (fun hb6 => ?_)
                · have hcF := hb6
                  refine me1 (pc' := 117) (L' := [(0, .ref 102), (1, ii (hd : Int)), (2, ii place), (3, ii ((base : Nat) : Int)), (4, ii ((k : Nat) : Int)), (5, ii ((n : Nat) : Int)), (6, zz c), (7, ii ((i : Nat) : Int))]) (S' := [zz c]) dm_X12_groups_115 rfl rfl rfl rfl ?_
                  refine y_zne (c := c) (t := 123) (pc' := 120) dm_X12_groups_117 rfl rfl (fun hb7 => ?_) (fun hb7 => ?_)
                  · exact absurd hb7 (by rw [hcF]; decide)
                  · refine me2 (pc' := 157) (S' := []) dm_X12_groups_120 rfl rfl rfl ?_
                    refine y_iinc (pc' := 160) (L' := [(4, ii (((k : Nat) : Int) + 1)), (0, .ref 102), (1, ii (hd : Int)), (2, ii place), (3, ii ((base : Nat) : Int)), (5, ii ((n : Nat) : Int)), (6, zz c), (7, ii ((i : Nat) : Int))]) dm_X12_groups_157 (y_incp (a := ((k : Nat) : Int)) (c := 1) rfl rfl (by decide)) rfl ?_
                    refine me2 (pc' := 23) (S' := []) dm_X12_groups_160 rfl rfl rfl ?_
                    exact pg_sub (L := [(0, .ref 102), (1, ii (hd : Int)), (2, ii place), (3, ii ((base : Nat) : Int)), (4, ii (((k + 1) : Nat) : Int))]) rfl rfl rfl (ih23 (vm v - (k + 1)) (by omega) (k + 1) m o (ordS t P) rfl (by omega) ((gr_notf (hc0 hb7)).trans hun) (rpw_pre hpw (rpre_ord t P)) ht3 ht4 hm24)
                · have hcv := hb6
                  refine me1 (pc' := 58) (L' := [(0, .ref 102), (1, ii (hd : Int)), (2, ii place), (3, ii ((base : Nat) : Int)), (4, ii ((k : Nat) : Int)), (5, ii ((n : Nat) : Int)), (6, zz c), (7, ii ((i : Nat) : Int))]) (S' := [.ref 102]) dm_X12_groups_57 rfl rfl rfl rfl ?_
                  refine me1 (pc' := 59) (L' := [(0, .ref 102), (1, ii (hd : Int)), (2, ii place), (3, ii ((base : Nat) : Int)), (4, ii ((k : Nat) : Int)), (5, ii ((n : Nat) : Int)), (6, zz c), (7, ii ((i : Nat) : Int))]) (S' := [ii (hd : Int), .ref 102]) dm_X12_groups_58 rfl rfl rfl rfl ?_
                  refine me1 (pc' := 61) (L' := [(0, .ref 102), (1, ii (hd : Int)), (2, ii place), (3, ii ((base : Nat) : Int)), (4, ii ((k : Nat) : Int)), (5, ii ((n : Nat) : Int)), (6, zz c), (7, ii ((i : Nat) : Int))]) (S' := [ii ((i : Nat) : Int), ii (hd : Int), .ref 102]) dm_X12_groups_59 rfl rfl rfl rfl ?_
                  refine x_cp (pc' := 64) (v := .long (vn v i)) (rest := []) dm_X12_groups_61 rfl (q_inv (As := [ii (hd : Int), ii ((i : Nat) : Int)]) (S := []) hm rfl rfl rfl) rfl rfl rfl (r_number_ (k := i) hm (by omega) (rB_ord hBt) (rv_ord hh3 hvt) (by omega) (by omega)) ?_
                  refine me1 (pc' := 65) (L' := [(0, .ref 102), (1, ii (hd : Int)), (2, ii place), (3, ii ((base : Nat) : Int)), (4, ii ((k : Nat) : Int)), (5, ii ((n : Nat) : Int)), (6, zz c), (7, ii ((i : Nat) : Int))]) (S' := [.ref 102, .long (vn v i)]) dm_X12_groups_64 rfl rfl rfl rfl ?_
                  refine me1 (pc' := 66) (L' := [(0, .ref 102), (1, ii (hd : Int)), (2, ii place), (3, ii ((base : Nat) : Int)), (4, ii ((k : Nat) : Int)), (5, ii ((n : Nat) : Int)), (6, zz c), (7, ii ((i : Nat) : Int))]) (S' := [ii (hd : Int), .ref 102, .long (vn v i)]) dm_X12_groups_65 rfl rfl rfl rfl ?_
                  refine me1 (pc' := 68) (L' := [(0, .ref 102), (1, ii (hd : Int)), (2, ii place), (3, ii ((base : Nat) : Int)), (4, ii ((k : Nat) : Int)), (5, ii ((n : Nat) : Int)), (6, zz c), (7, ii ((i : Nat) : Int))]) (S' := [ii ((k : Nat) : Int), ii (hd : Int), .ref 102, .long (vn v i)]) dm_X12_groups_66 rfl rfl rfl rfl ?_
                  refine x_cp (pc' := 71) (v := .long (vn v k)) (rest := [.long (vn v i)]) dm_X12_groups_68 rfl (q_inv (As := [ii (hd : Int), ii ((k : Nat) : Int)]) (S := [.long (vn v i)]) hm rfl rfl rfl) rfl rfl rfl (r_number_ (k := k) hm (by omega) (rB_ord hBt) (rv_ord hh3 hvt) (by omega) (by omega)) ?_
                  refine y_leq (x := vn v i) (y := vn v k) (t := 78) (pc1 := 72) (pc' := 75) dm_X12_groups_71 rfl dm_X12_groups_72 rfl rfl (fun hb8 => ?_) (fun hb8 => ?_)
                  · have hb8i := congrArg Int64.toInt hb8
                    have heq : vn v i = vn v k := hb8
                    refine me1 (pc' := 80) (L' := [(0, .ref 102), (1, ii (hd : Int)), (2, ii place), (3, ii ((base : Nat) : Int)), (4, ii ((k : Nat) : Int)), (5, ii ((n : Nat) : Int)), (6, zz c), (7, ii ((i : Nat) : Int))]) (S' := [ii ((n : Nat) : Int)]) dm_X12_groups_78 rfl rfl rfl rfl ?_
                    refine y_1gt (a := ((n : Nat) : Int)) (t := 90) (pc' := 83) dm_X12_groups_80 rfl rfl (by omega) (fun hb9 => ?_) (fun hb9 => ?_)
                    · obtain ⟨x0, hx0, hx1⟩ := flt_pos (f := (fun i => decide (vn v i = vn v k))) i (by rw [(hc1 hcv).1]; show 0 < n; omega)
                      have hik : ¬ i < k := fun z => by have := (hc1 hcv).2.2 x0 hx0 (by omega); rw [hx1] at this; cases this
                      refine me0 (pc' := 91) (S' := [ii 1]) dm_X12_groups_90 rfl rfl rfl rfl ?_
                      refine me2 (pc' := 95) (S' := [ii 1]) dm_X12_groups_91 rfl rfl rfl ?_
                      refine pg_st (S' := [zz true]) rfl ?_
                      refine me1 (pc' := 97) (L' := [(6, zz true), (0, .ref 102), (1, ii (hd : Int)), (2, ii place), (3, ii ((base : Nat) : Int)), (4, ii ((k : Nat) : Int)), (5, ii ((n : Nat) : Int)), (7, ii ((i : Nat) : Int))]) (S' := []) dm_X12_groups_95 rfl rfl rfl rfl ?_
                      refine me1 (pc' := 98) (L' := [(6, zz true), (0, .ref 102), (1, ii (hd : Int)), (2, ii place), (3, ii ((base : Nat) : Int)), (4, ii ((k : Nat) : Int)), (5, ii ((n : Nat) : Int)), (7, ii ((i : Nat) : Int))]) (S' := [.ref 102]) dm_X12_groups_97 rfl rfl rfl rfl ?_
                      refine me3 (pc' := 101) (S' := [.ref (102 + 5)]) dm_X12_groups_98 (q_getr hm rfl (fun m i l => rg_14 m i l)) rfl rfl rfl ?_
                      refine me1 (pc' := 103) (L' := [(6, zz true), (0, .ref 102), (1, ii (hd : Int)), (2, ii place), (3, ii ((base : Nat) : Int)), (4, ii ((k : Nat) : Int)), (5, ii ((n : Nat) : Int)), (7, ii ((i : Nat) : Int))]) (S' := [ii ((n : Nat) : Int), .ref (102 + 5)]) dm_X12_groups_101 rfl rfl rfl rfl ?_
                      refine me1 (pc' := 105) (L' := [(6, zz true), (0, .ref 102), (1, ii (hd : Int)), (2, ii place), (3, ii ((base : Nat) : Int)), (4, ii ((k : Nat) : Int)), (5, ii ((n : Nat) : Int)), (7, ii ((i : Nat) : Int))]) (S' := [ii ((i : Nat) : Int), ii ((n : Nat) : Int), .ref (102 + 5)]) dm_X12_groups_103 rfl rfl rfl rfl ?_
                      refine me3 (pc' := 106) (S' := []) (h1 := rI pre post ((ordS t P).1) ((ordS t P).2.1) (va_up ((ordS t P).2.2.1) 14 (va_up (((ordS t P).2.2.1) 14) n ((i : Nat) : Int))) ((ordS t P).2.2.2)) dm_X12_groups_105 (q_iast (j := ((n : Nat) : Int)) (k := 14) (n := 260) hm (fun m i l I J => rc_14 m i l I J) (fun m i l I J f => rs_14 m i l I J f) (by omega) (by omega) (by decide)) rfl rfl rfl ?_
                      refine pg_cast (h2 := rI pre post ((ordS t (va_up P n ((i : Nat) : Int))).1) ((ordS t (va_up P n ((i : Nat) : Int))).2.1) ((ordS t (va_up P n ((i : Nat) : Int))).2.2.1) ((ordS t (va_up P n ((i : Nat) : Int))).2.2.2)) (ord_up t P n _) ?_
                      refine y_iinc (pc' := 109) (L' := [(5, ii (((n : Nat) : Int) + 1)), (6, zz true), (0, .ref 102), (1, ii (hd : Int)), (2, ii place), (3, ii ((base : Nat) : Int)), (4, ii ((k : Nat) : Int)), (7, ii ((i : Nat) : Int))]) dm_X12_groups_106 (y_incp (a := ((n : Nat) : Int)) (c := 1) rfl rfl (by decide)) rfl ?_
                      refine y_iinc (pc' := 112) (L' := [(7, ii (((i : Nat) : Int) + 1)), (5, ii (((n : Nat) : Int) + 1)), (6, zz true), (0, .ref 102), (1, ii (hd : Int)), (2, ii place), (3, ii ((base : Nat) : Int)), (4, ii ((k : Nat) : Int))]) dm_X12_groups_109 (y_incp (a := ((i : Nat) : Int)) (c := 1) rfl rfl (by decide)) rfl ?_
                      refine me2 (pc' := 42) (S' := []) dm_X12_groups_112 rfl rfl rfl ?_
                      exact pg_sub (L := [(0, .ref 102), (1, ii (hd : Int)), (2, ii place), (3, ii ((base : Nat) : Int)), (4, ii ((k : Nat) : Int)), (5, ii (((n + 1) : Nat) : Int)), (6, zz true), (7, ii (((i + 1) : Nat) : Int))]) rfl rfl rfl (ih42 (vm v - (i + 1)) (by omega) (i + 1) (n + 1) true (va_up P n ((i : Nat) : Int)) (va_up g n i) rfl (by omega) (by omega) (fun _ => ⟨by rw [flt_s (f := (fun i => decide (vn v i = vn v k))) (decide_eq_true heq), (hc1 hcv).1], fun j hj => by rw [up_at, up_at]; by_cases z : j = n; (rw [if_pos z, if_pos z]); (rw [if_neg z, if_neg z]; exact (hc1 hcv).2.1 j (by omega)), fun x h1 h2 => by by_cases y : x = i; (exfalso; omega); exact (hc1 hcv).2.2 x (by omega) h2⟩) (fun z => absurd z (by decide)))
                    · refine me1 (pc' := 85) (L' := [(0, .ref 102), (1, ii (hd : Int)), (2, ii place), (3, ii ((base : Nat) : Int)), (4, ii ((k : Nat) : Int)), (5, ii ((n : Nat) : Int)), (6, zz c), (7, ii ((i : Nat) : Int))]) (S' := [ii ((i : Nat) : Int)]) dm_X12_groups_83 rfl rfl rfl rfl ?_
                      refine me1 (pc' := 87) (L' := [(0, .ref 102), (1, ii (hd : Int)), (2, ii place), (3, ii ((base : Nat) : Int)), (4, ii ((k : Nat) : Int)), (5, ii ((n : Nat) : Int)), (6, zz c), (7, ii ((i : Nat) : Int))]) (S' := [ii ((k : Nat) : Int), ii ((i : Nat) : Int)]) dm_X12_groups_85 rfl rfl rfl rfl ?_
                      refine y_2ne (a := ((i : Nat) : Int)) (b := ((k : Nat) : Int)) (t := 94) (pc' := 90) dm_X12_groups_87 rfl rfl (by omega) (fun hb10 => ?_) (fun hb10 => ?_)
                      · have hex : ∃ x, x < k ∧ decide (vn v x = vn v k) = true := by
                          rcases Nat.lt_or_ge i k with z | z
                          · exact ⟨i, z, decide_eq_true heq⟩
                          · have := flt_pos2 (f := (fun i => decide (vn v i = vn v k))) (x := k) (i := i) (by omega) (decide_eq_true rfl); rw [(hc1 hcv).1] at this; exact absurd this (by show ¬ 0 < n; omega)
                        refine me0 (pc' := 95) (S' := [ii 0]) dm_X12_groups_94 rfl rfl rfl rfl ?_
                        refine pg_st (S' := [zz false]) rfl ?_
                        refine me1 (pc' := 97) (L' := [(6, zz false), (0, .ref 102), (1, ii (hd : Int)), (2, ii place), (3, ii ((base : Nat) : Int)), (4, ii ((k : Nat) : Int)), (5, ii ((n : Nat) : Int)), (7, ii ((i : Nat) : Int))]) (S' := []) dm_X12_groups_95 rfl rfl rfl rfl ?_
                        refine me1 (pc' := 98) (L' := [(6, zz false), (0, .ref 102), (1, ii (hd : Int)), (2, ii place), (3, ii ((base : Nat) : Int)), (4, ii ((k : Nat) : Int)), (5, ii ((n : Nat) : Int)), (7, ii ((i : Nat) : Int))]) (S' := [.ref 102]) dm_X12_groups_97 rfl rfl rfl rfl ?_
                        refine me3 (pc' := 101) (S' := [.ref (102 + 5)]) dm_X12_groups_98 (q_getr hm rfl (fun m i l => rg_14 m i l)) rfl rfl rfl ?_
                        refine me1 (pc' := 103) (L' := [(6, zz false), (0, .ref 102), (1, ii (hd : Int)), (2, ii place), (3, ii ((base : Nat) : Int)), (4, ii ((k : Nat) : Int)), (5, ii ((n : Nat) : Int)), (7, ii ((i : Nat) : Int))]) (S' := [ii ((n : Nat) : Int), .ref (102 + 5)]) dm_X12_groups_101 rfl rfl rfl rfl ?_
                        refine me1 (pc' := 105) (L' := [(6, zz false), (0, .ref 102), (1, ii (hd : Int)), (2, ii place), (3, ii ((base : Nat) : Int)), (4, ii ((k : Nat) : Int)), (5, ii ((n : Nat) : Int)), (7, ii ((i : Nat) : Int))]) (S' := [ii ((i : Nat) : Int), ii ((n : Nat) : Int), .ref (102 + 5)]) dm_X12_groups_103 rfl rfl rfl rfl ?_
                        refine me3 (pc' := 106) (S' := []) (h1 := rI pre post ((ordS t P).1) ((ordS t P).2.1) (va_up ((ordS t P).2.2.1) 14 (va_up (((ordS t P).2.2.1) 14) n ((i : Nat) : Int))) ((ordS t P).2.2.2)) dm_X12_groups_105 (q_iast (j := ((n : Nat) : Int)) (k := 14) (n := 260) hm (fun m i l I J => rc_14 m i l I J) (fun m i l I J f => rs_14 m i l I J f) (by omega) (by omega) (by decide)) rfl rfl rfl ?_
                        refine pg_cast (h2 := rI pre post ((ordS t (va_up P n ((i : Nat) : Int))).1) ((ordS t (va_up P n ((i : Nat) : Int))).2.1) ((ordS t (va_up P n ((i : Nat) : Int))).2.2.1) ((ordS t (va_up P n ((i : Nat) : Int))).2.2.2)) (ord_up t P n _) ?_
                        refine y_iinc (pc' := 109) (L' := [(5, ii (((n : Nat) : Int) + 1)), (6, zz false), (0, .ref 102), (1, ii (hd : Int)), (2, ii place), (3, ii ((base : Nat) : Int)), (4, ii ((k : Nat) : Int)), (7, ii ((i : Nat) : Int))]) dm_X12_groups_106 (y_incp (a := ((n : Nat) : Int)) (c := 1) rfl rfl (by decide)) rfl ?_
                        refine y_iinc (pc' := 112) (L' := [(7, ii (((i : Nat) : Int) + 1)), (5, ii (((n : Nat) : Int) + 1)), (6, zz false), (0, .ref 102), (1, ii (hd : Int)), (2, ii place), (3, ii ((base : Nat) : Int)), (4, ii ((k : Nat) : Int))]) dm_X12_groups_109 (y_incp (a := ((i : Nat) : Int)) (c := 1) rfl rfl (by decide)) rfl ?_
                        refine me2 (pc' := 42) (S' := []) dm_X12_groups_112 rfl rfl rfl ?_
                        exact pg_sub (L := [(0, .ref 102), (1, ii (hd : Int)), (2, ii place), (3, ii ((base : Nat) : Int)), (4, ii ((k : Nat) : Int)), (5, ii (((n + 1) : Nat) : Int)), (6, zz false), (7, ii (((i + 1) : Nat) : Int))]) rfl rfl rfl (ih42 (vm v - (i + 1)) (by omega) (i + 1) (n + 1) false (va_up P n ((i : Nat) : Int)) (va_up g n i) rfl (by omega) (by omega) (fun z => absurd z (by decide)) (fun _ => hex))
                      · refine me0 (pc' := 91) (S' := [ii 1]) dm_X12_groups_90 rfl rfl rfl rfl ?_
                        refine me2 (pc' := 95) (S' := [ii 1]) dm_X12_groups_91 rfl rfl rfl ?_
                        refine pg_st (S' := [zz true]) rfl ?_
                        refine me1 (pc' := 97) (L' := [(6, zz true), (0, .ref 102), (1, ii (hd : Int)), (2, ii place), (3, ii ((base : Nat) : Int)), (4, ii ((k : Nat) : Int)), (5, ii ((n : Nat) : Int)), (7, ii ((i : Nat) : Int))]) (S' := []) dm_X12_groups_95 rfl rfl rfl rfl ?_
                        refine me1 (pc' := 98) (L' := [(6, zz true), (0, .ref 102), (1, ii (hd : Int)), (2, ii place), (3, ii ((base : Nat) : Int)), (4, ii ((k : Nat) : Int)), (5, ii ((n : Nat) : Int)), (7, ii ((i : Nat) : Int))]) (S' := [.ref 102]) dm_X12_groups_97 rfl rfl rfl rfl ?_
                        refine me3 (pc' := 101) (S' := [.ref (102 + 5)]) dm_X12_groups_98 (q_getr hm rfl (fun m i l => rg_14 m i l)) rfl rfl rfl ?_
                        refine me1 (pc' := 103) (L' := [(6, zz true), (0, .ref 102), (1, ii (hd : Int)), (2, ii place), (3, ii ((base : Nat) : Int)), (4, ii ((k : Nat) : Int)), (5, ii ((n : Nat) : Int)), (7, ii ((i : Nat) : Int))]) (S' := [ii ((n : Nat) : Int), .ref (102 + 5)]) dm_X12_groups_101 rfl rfl rfl rfl ?_
                        refine me1 (pc' := 105) (L' := [(6, zz true), (0, .ref 102), (1, ii (hd : Int)), (2, ii place), (3, ii ((base : Nat) : Int)), (4, ii ((k : Nat) : Int)), (5, ii ((n : Nat) : Int)), (7, ii ((i : Nat) : Int))]) (S' := [ii ((i : Nat) : Int), ii ((n : Nat) : Int), .ref (102 + 5)]) dm_X12_groups_103 rfl rfl rfl rfl ?_
                        refine me3 (pc' := 106) (S' := []) (h1 := rI pre post ((ordS t P).1) ((ordS t P).2.1) (va_up ((ordS t P).2.2.1) 14 (va_up (((ordS t P).2.2.1) 14) n ((i : Nat) : Int))) ((ordS t P).2.2.2)) dm_X12_groups_105 (q_iast (j := ((n : Nat) : Int)) (k := 14) (n := 260) hm (fun m i l I J => rc_14 m i l I J) (fun m i l I J f => rs_14 m i l I J f) (by omega) (by omega) (by decide)) rfl rfl rfl ?_
                        refine pg_cast (h2 := rI pre post ((ordS t (va_up P n ((i : Nat) : Int))).1) ((ordS t (va_up P n ((i : Nat) : Int))).2.1) ((ordS t (va_up P n ((i : Nat) : Int))).2.2.1) ((ordS t (va_up P n ((i : Nat) : Int))).2.2.2)) (ord_up t P n _) ?_
                        refine y_iinc (pc' := 109) (L' := [(5, ii (((n : Nat) : Int) + 1)), (6, zz true), (0, .ref 102), (1, ii (hd : Int)), (2, ii place), (3, ii ((base : Nat) : Int)), (4, ii ((k : Nat) : Int)), (7, ii ((i : Nat) : Int))]) dm_X12_groups_106 (y_incp (a := ((n : Nat) : Int)) (c := 1) rfl rfl (by decide)) rfl ?_
                        refine y_iinc (pc' := 112) (L' := [(7, ii (((i : Nat) : Int) + 1)), (5, ii (((n : Nat) : Int) + 1)), (6, zz true), (0, .ref 102), (1, ii (hd : Int)), (2, ii place), (3, ii ((base : Nat) : Int)), (4, ii ((k : Nat) : Int))]) dm_X12_groups_109 (y_incp (a := ((i : Nat) : Int)) (c := 1) rfl rfl (by decide)) rfl ?_
                        refine me2 (pc' := 42) (S' := []) dm_X12_groups_112 rfl rfl rfl ?_
                        exact pg_sub (L := [(0, .ref 102), (1, ii (hd : Int)), (2, ii place), (3, ii ((base : Nat) : Int)), (4, ii ((k : Nat) : Int)), (5, ii (((n + 1) : Nat) : Int)), (6, zz true), (7, ii (((i + 1) : Nat) : Int))]) rfl rfl rfl (ih42 (vm v - (i + 1)) (by omega) (i + 1) (n + 1) true (va_up P n ((i : Nat) : Int)) (va_up g n i) rfl (by omega) (by omega) (fun _ => ⟨by rw [flt_s (f := (fun i => decide (vn v i = vn v k))) (decide_eq_true heq), (hc1 hcv).1], fun j hj => by rw [up_at, up_at]; by_cases z : j = n; (rw [if_pos z, if_pos z]); (rw [if_neg z, if_neg z]; exact (hc1 hcv).2.1 j (by omega)), fun x h1 h2 => by by_cases y : x = i; (exfalso; omega); exact (hc1 hcv).2.2 x (by omega) h2⟩) (fun z => absurd z (by decide)))
                  · have hb8i : ¬ (vn v i).toInt = (vn v k).toInt := fun z => hb8 (Int64.toInt_inj.mp z)
                    have hneq : ¬ (vn v i = vn v k) := hb8
                    refine me2 (pc' := 109) (S' := []) dm_X12_groups_75 rfl rfl rfl ?_
                    refine y_iinc (pc' := 112) (L' := [(7, ii (((i : Nat) : Int) + 1)), (0, .ref 102), (1, ii (hd : Int)), (2, ii place), (3, ii ((base : Nat) : Int)), (4, ii ((k : Nat) : Int)), (5, ii ((n : Nat) : Int)), (6, zz c)]) dm_X12_groups_109 (y_incp (a := ((i : Nat) : Int)) (c := 1) rfl rfl (by decide)) rfl ?_
                    refine me2 (pc' := 42) (S' := []) dm_X12_groups_112 rfl rfl rfl ?_
                    exact pg_sub (L := [(0, .ref 102), (1, ii (hd : Int)), (2, ii place), (3, ii ((base : Nat) : Int)), (4, ii ((k : Nat) : Int)), (5, ii ((n : Nat) : Int)), (6, zz c), (7, ii (((i + 1) : Nat) : Int))]) rfl rfl rfl (ih42 (vm v - (i + 1)) (by omega) (i + 1) n c P g rfl (by omega) (by omega) (fun z => ⟨(flt_n (f := (fun i => decide (vn v i = vn v k))) (decide_eq_false hneq)).trans (hc1 z).1, (hc1 z).2.1, fun x h1 h2 => by by_cases y : x = i; (rw [y]; exact decide_eq_false hneq); exact (hc1 z).2.2 x (by omega) h2⟩) hc0)
          refine pg_cast (h2 := rI pre post ((ordS t (t.2.2.1 14)).1) ((ordS t (t.2.2.1 14)).2.1) ((ordS t (t.2.2.1 14)).2.2.1) ((ordS t (t.2.2.1 14)).2.2.2)) (ord_0 t) ?_
          exact pg_sub (L := [(0, .ref 102), (1, ii (hd : Int)), (2, ii place), (3, ii ((base : Nat) : Int)), (4, ii ((k : Nat) : Int)), (5, ii ((0 : Nat) : Int)), (6, zz true), (7, ii ((0 : Nat) : Int))]) rfl rfl rfl (lp42 _ 0 0 true (t.2.2.1 14) (fun _ => 0) rfl (Nat.zero_le _) (Nat.le_refl _) (fun _ => ⟨rfl, fun j hj => absurd hj (Nat.not_lt_zero j), fun x hx => absurd hx (Nat.not_lt_zero x)⟩) (fun z => absurd z (by decide)))
    exact pg_sub (L := [(0, .ref 102), (1, ii (hd : Int)), (2, ii place), (3, ii ((base : Nat) : Int)), (4, ii ((0 : Nat) : Int))]) rfl rfl rfl (lp23 _ 0 0 (fun _ => 0) s rfl (Nat.zero_le _) rfl (rpw_0 hw13) (by show _ ∧ _ ≤ (b : Int) + ((0 : Nat) : Int); omega) (by omega) (by decide))
  · replace hb1 := dF hb1
    refine me1 (pc' := 9) (L' := [(0, .ref 102), (1, ii (hd : Int)), (2, ii place)]) (S' := [.ref 102]) dm_X12_groups_8 rfl rfl rfl rfl ?_
    refine me0 (pc' := 10) (S' := [ii 3, .ref 102]) dm_X12_groups_9 rfl rfl rfl rfl ?_
    refine me1 (pc' := 11) (L' := [(0, .ref 102), (1, ii (hd : Int)), (2, ii place)]) (S' := [ii place, ii 3, .ref 102]) dm_X12_groups_10 rfl rfl rfl rfl ?_
    refine x_cv (pc' := 14) (rest := []) dm_X12_groups_11 rfl (q_inv (As := [ii 3, ii place]) (S := []) hm rfl rfl rfl) rfl rfl rfl (r_fail_ (s := s) hm (by omega) he0 hca.1 hca.2) ?_
    rintro _ _ ⟨rfl, rfl⟩
    refine y_ret (r := some (ii (-1))) dm_X12_groups_14 rfl rfl rfl ?_
    rw [show m_grp v = .inl 3 by unfold m_grp; rw [if_pos (by omega)]]
    exact ⟨_, rfl, rresP_of (rres_fail (rpre_rf s) he0)⟩
