theorem rv_veq {s : RS} {d : Nat} : ∀ {hd : Nat} {v w : VV}, veq d v w → rv s d hd v → rv s d hd w := by
  induction d with
  | zero => intro hd v w _ h; exact h.elim
  | succ d ih =>
    intro hd v w he h
    have hw := veq_w1 he h.1
    have hq := veq_q he
    obtain ⟨e1, e2, e3, e4, e5⟩ := he
    obtain ⟨-, b2, b3, fr, b4, b5, b6, b7⟩ := h
    have hcl : vcl w = vcl v := by unfold vcl; rw [← e1, ← e2, hq]
    refine ⟨hw, b2, by rw [← e1, ← e2, ← e3]; exact b3, fr, b4, by rw [hcl]; exact b5, fun z k hk => ?_, fun z k hk => ?_⟩
    · rw [hq] at hk
      rw [b6 (by rw [e1]; exact z) k hk, e4 k hk]
    · have z2 : vk v = 7 := e1.trans z
      obtain ⟨p, p1, p2, p3⟩ := b7 z2 k (by omega)
      exact ⟨p, p1, p2, ih (e5 z2 k (by omega)) p3⟩
theorem rres_ve {pre post : mj_H} {s : RS} {e cb vb : Nat} {v w : VV} {place : Int} {x : Value} {h' : mj_H} (h : veq e v w) (hr : rres pre post s e (.inr v) place cb vb x h') : rres pre post s e (.inr w) place cb vb x h' := by
  obtain ⟨s1, a1, a2, a3, a4, a5, a6, a7, p, a8, a9, a10⟩ := hr
  cases e with
  | zero => exact absurd a10 id
  | succ e =>
    have z1 := rcb_v (v := v) (w := w) (cb := cb) h.1 h.2.1 h.2.2.1
    have z2 := rvb_v (v := v) (w := w) (vb := vb) h.1
    exact ⟨s1, a1, a2, a3, by omega, by omega, a6, a7, p, a8, a9, rv_veq h a10⟩
theorem rB_pre {s t : RS} (h : rpre s t) (hB : rB s) : rB t := by
  unfold rB
  rw [h.2.2.1, h.2.2.2.1]
  exact hB
theorem woF_f {e : Nat} {v w : VV} {k : Nat} (h : ∃ j, j < vm w ∧ vsame e (vit v k) (vit w j) = true) : woF e v w k = false := by
  obtain ⟨j, h1, h2⟩ := h
  exact allN_f h1 (by rw [h2]; rfl)
theorem woF_t {e : Nat} {v w : VV} {k : Nat} (h : ∀ j, j < vm w → vsame e (vit v k) (vit w j) = false) : woF e v w k = true := allN_iff.mpr (fun j hj => by rw [h j hj]; rfl)
set_option maxRecDepth 20000 in
theorem pm_X12_without : mj_mmof pg_ms 272 = some ((⟨"ArrayCalculatorModel", "without", "(III)I"⟩, prog_14_method_62_code, 8, (Option.some Jvm.ClassFile.FieldType.int)), 12, false, mj_dec prog_14_method_62_code) := rfl
theorem dm_X12_without_0 : mj_dec prog_14_method_62_code 0 = some (.aload_n 0, 1) := by decide +kernel
theorem dm_X12_without_1 : mj_dec prog_14_method_62_code 1 = some (.iload_n 1, 1) := by decide +kernel
theorem dm_X12_without_2 : mj_dec prog_14_method_62_code 2 = some (.invokevirtual 162, 3) := by decide +kernel
theorem dm_X12_without_5 : mj_dec prog_14_method_62_code 5 = some (.ifCond .eq 10, 3) := by decide +kernel
theorem dm_X12_without_8 : mj_dec prog_14_method_62_code 8 = some (.aload_n 0, 1) := by decide +kernel
theorem dm_X12_without_9 : mj_dec prog_14_method_62_code 9 = some (.iconst 3, 1) := by decide +kernel
theorem dm_X12_without_10 : mj_dec prog_14_method_62_code 10 = some (.iload_n 3, 1) := by decide +kernel
theorem dm_X12_without_11 : mj_dec prog_14_method_62_code 11 = some (.invokevirtual 190, 3) := by decide +kernel
theorem dm_X12_without_14 : mj_dec prog_14_method_62_code 14 = some (.ireturn, 1) := by decide +kernel
theorem dm_X12_without_15 : mj_dec prog_14_method_62_code 15 = some (.iconst 0, 1) := by decide +kernel
theorem dm_X12_without_16 : mj_dec prog_14_method_62_code 16 = some (.istore 4, 2) := by decide +kernel
theorem dm_X12_without_18 : mj_dec prog_14_method_62_code 18 = some (.iconst 0, 1) := by decide +kernel
theorem dm_X12_without_19 : mj_dec prog_14_method_62_code 19 = some (.istore 5, 2) := by decide +kernel
theorem dm_X12_without_21 : mj_dec prog_14_method_62_code 21 = some (.iload 5, 2) := by decide +kernel
theorem dm_X12_without_23 : mj_dec prog_14_method_62_code 23 = some (.aload_n 0, 1) := by decide +kernel
theorem dm_X12_without_24 : mj_dec prog_14_method_62_code 24 = some (.iload_n 1, 1) := by decide +kernel
theorem dm_X12_without_25 : mj_dec prog_14_method_62_code 25 = some (.invokevirtual 134, 3) := by decide +kernel
theorem dm_X12_without_28 : mj_dec prog_14_method_62_code 28 = some (.if_icmp .ge 78, 3) := by decide +kernel
theorem dm_X12_without_31 : mj_dec prog_14_method_62_code 31 = some (.iconst 0, 1) := by decide +kernel
theorem dm_X12_without_32 : mj_dec prog_14_method_62_code 32 = some (.istore 6, 2) := by decide +kernel
theorem dm_X12_without_34 : mj_dec prog_14_method_62_code 34 = some (.iconst 0, 1) := by decide +kernel
theorem dm_X12_without_35 : mj_dec prog_14_method_62_code 35 = some (.istore 7, 2) := by decide +kernel
theorem dm_X12_without_37 : mj_dec prog_14_method_62_code 37 = some (.iload 7, 2) := by decide +kernel
theorem dm_X12_without_39 : mj_dec prog_14_method_62_code 39 = some (.aload_n 0, 1) := by decide +kernel
theorem dm_X12_without_40 : mj_dec prog_14_method_62_code 40 = some (.iload_n 2, 1) := by decide +kernel
theorem dm_X12_without_41 : mj_dec prog_14_method_62_code 41 = some (.invokevirtual 134, 3) := by decide +kernel
theorem dm_X12_without_44 : mj_dec prog_14_method_62_code 44 = some (.if_icmp .ge 36, 3) := by decide +kernel
theorem dm_X12_without_47 : mj_dec prog_14_method_62_code 47 = some (.iload 6, 2) := by decide +kernel
theorem dm_X12_without_49 : mj_dec prog_14_method_62_code 49 = some (.ifCond .ne 31, 3) := by decide +kernel
theorem dm_X12_without_52 : mj_dec prog_14_method_62_code 52 = some (.aload_n 0, 1) := by decide +kernel
theorem dm_X12_without_53 : mj_dec prog_14_method_62_code 53 = some (.aload_n 0, 1) := by decide +kernel
theorem dm_X12_without_54 : mj_dec prog_14_method_62_code 54 = some (.iload_n 1, 1) := by decide +kernel
theorem dm_X12_without_55 : mj_dec prog_14_method_62_code 55 = some (.iload 5, 2) := by decide +kernel
theorem dm_X12_without_57 : mj_dec prog_14_method_62_code 57 = some (.iconst 0, 1) := by decide +kernel
theorem dm_X12_without_58 : mj_dec prog_14_method_62_code 58 = some (.invokevirtual 159, 3) := by decide +kernel
theorem dm_X12_without_61 : mj_dec prog_14_method_62_code 61 = some (.aload_n 0, 1) := by decide +kernel
theorem dm_X12_without_62 : mj_dec prog_14_method_62_code 62 = some (.iload_n 2, 1) := by decide +kernel
theorem dm_X12_without_63 : mj_dec prog_14_method_62_code 63 = some (.iload 7, 2) := by decide +kernel
theorem dm_X12_without_65 : mj_dec prog_14_method_62_code 65 = some (.iconst 1, 1) := by decide +kernel
theorem dm_X12_without_66 : mj_dec prog_14_method_62_code 66 = some (.invokevirtual 159, 3) := by decide +kernel
theorem dm_X12_without_69 : mj_dec prog_14_method_62_code 69 = some (.invokevirtual 177, 3) := by decide +kernel
theorem dm_X12_without_72 : mj_dec prog_14_method_62_code 72 = some (.istore 6, 2) := by decide +kernel
theorem dm_X12_without_74 : mj_dec prog_14_method_62_code 74 = some (.iinc 7 1, 3) := by decide +kernel
theorem dm_X12_without_77 : mj_dec prog_14_method_62_code 77 = some (.goto (-40), 3) := by decide +kernel
theorem dm_X12_without_80 : mj_dec prog_14_method_62_code 80 = some (.iload 6, 2) := by decide +kernel
theorem dm_X12_without_82 : mj_dec prog_14_method_62_code 82 = some (.ifCond .eq 6, 3) := by decide +kernel
theorem dm_X12_without_85 : mj_dec prog_14_method_62_code 85 = some (.goto 15, 3) := by decide +kernel
theorem dm_X12_without_88 : mj_dec prog_14_method_62_code 88 = some (.aload_n 0, 1) := by decide +kernel
theorem dm_X12_without_89 : mj_dec prog_14_method_62_code 89 = some (.getfield 33, 3) := by decide +kernel
theorem dm_X12_without_92 : mj_dec prog_14_method_62_code 92 = some (.iload 4, 2) := by decide +kernel
theorem dm_X12_without_94 : mj_dec prog_14_method_62_code 94 = some (.iload 5, 2) := by decide +kernel
theorem dm_X12_without_96 : mj_dec prog_14_method_62_code 96 = some (.iastore, 1) := by decide +kernel
theorem dm_X12_without_97 : mj_dec prog_14_method_62_code 97 = some (.iinc 4 1, 3) := by decide +kernel
theorem dm_X12_without_100 : mj_dec prog_14_method_62_code 100 = some (.iinc 5 1, 3) := by decide +kernel
theorem dm_X12_without_103 : mj_dec prog_14_method_62_code 103 = some (.goto (-82), 3) := by decide +kernel
theorem dm_X12_without_106 : mj_dec prog_14_method_62_code 106 = some (.aload_n 0, 1) := by decide +kernel
theorem dm_X12_without_107 : mj_dec prog_14_method_62_code 107 = some (.iload_n 1, 1) := by decide +kernel
theorem dm_X12_without_108 : mj_dec prog_14_method_62_code 108 = some (.invokevirtual 146, 3) := by decide +kernel
theorem dm_X12_without_111 : mj_dec prog_14_method_62_code 111 = some (.bipush 6, 2) := by decide +kernel
theorem dm_X12_without_113 : mj_dec prog_14_method_62_code 113 = some (.if_icmp .ne 17, 3) := by decide +kernel
theorem dm_X12_without_116 : mj_dec prog_14_method_62_code 116 = some (.iload 4, 2) := by decide +kernel
theorem dm_X12_without_118 : mj_dec prog_14_method_62_code 118 = some (.ifCond .ne 12, 3) := by decide +kernel
theorem dm_X12_without_121 : mj_dec prog_14_method_62_code 121 = some (.aload_n 0, 1) := by decide +kernel
theorem dm_X12_without_122 : mj_dec prog_14_method_62_code 122 = some (.iconst 4, 1) := by decide +kernel
theorem dm_X12_without_123 : mj_dec prog_14_method_62_code 123 = some (.iload_n 3, 1) := by decide +kernel
theorem dm_X12_without_124 : mj_dec prog_14_method_62_code 124 = some (.invokevirtual 190, 3) := by decide +kernel
theorem dm_X12_without_127 : mj_dec prog_14_method_62_code 127 = some (.goto 10, 3) := by decide +kernel
theorem dm_X12_without_130 : mj_dec prog_14_method_62_code 130 = some (.aload_n 0, 1) := by decide +kernel
theorem dm_X12_without_131 : mj_dec prog_14_method_62_code 131 = some (.iload_n 1, 1) := by decide +kernel
theorem dm_X12_without_132 : mj_dec prog_14_method_62_code 132 = some (.iload 4, 2) := by decide +kernel
theorem dm_X12_without_134 : mj_dec prog_14_method_62_code 134 = some (.invokevirtual 223, 3) := by decide +kernel
theorem dm_X12_without_137 : mj_dec prog_14_method_62_code 137 = some (.ireturn, 1) := by decide +kernel
theorem r_without_ {xt : mj_X} {d e hd hd2 q b : Nat} {pre post : mj_H} {s : RS} {v w : VV} {place : Int} (hm : pre.length = 102) (hd1 : 3 * e + 12 ≤ d) (hB : rB s) (hv : rv s (e + 1) hd v) (hh3 : 3 ≤ hd) (hw : rv s (e + 1) hd2 w) (hh4 : 3 ≤ hd2) (hq : s.1 4 = (q : Int)) (hb : s.1 3 = (b : Int)) (hq3 : 3 ≤ q) (hV2 : q < 310000) (he0 : s.1 5 = 0) (hca : 0 ≤ s.1 10 ∧ s.1 10 ≤ 100) (hC : b + 300 ≤ 820000) : pgV xt d 272 [.ref 102, ii (hd : Int), ii (hd2 : Int), ii place] (rS pre post s) (rres pre post s (e + 1) (d_wo (e + 1) v w) place 144 1) := by
  have hB0 := hB
  obtain ⟨hB1, hB2, hB3, hB4⟩ := hB
  obtain ⟨fr, hfr, hsh, hlt, hcl, hvk, hvm, hvc, hvq, hvcl⟩ := rv_val hv
  obtain ⟨fw, hfw, hshw, hltw, hclw, hwk, hwm, hwc, hwq, hwcl⟩ := rv_val hw
  have h6c : vk v = 6 → 1 ≤ vc v ∧ vm v ≤ 12 := fun z => ⟨(hv.1.2.2.2.1 z).2.2.1, (hv.1.2.2.2.1 z).2.1⟩
  have h7m : vk v = 7 → vm v ≤ 24 := fun z => (hv.1.2.2.2.2.1 z).1
  refine x_enter pm_X12_without (L0 := [(0, .ref 102), (1, ii (hd : Int)), (2, ii (hd2 : Int)), (3, ii place)]) rfl (Nat.le_of_ble_eq_true rfl) (by omega) ?_
  refine me1 (pc' := 1) (L' := [(0, .ref 102), (1, ii (hd : Int)), (2, ii (hd2 : Int)), (3, ii place)]) (S' := [.ref 102]) dm_X12_without_0 rfl rfl rfl rfl ?_
  refine me1 (pc' := 2) (L' := [(0, .ref 102), (1, ii (hd : Int)), (2, ii (hd2 : Int)), (3, ii place)]) (S' := [ii (hd : Int), .ref 102]) dm_X12_without_1 rfl rfl rfl rfl ?_
  refine x_cp (pc' := 5) (v := zz (decide (vk v ≤ 1))) (rest := []) dm_X12_without_2 rfl (q_inv (As := [ii (hd : Int)]) (S := []) hm rfl rfl rfl) rfl rfl rfl (r_isOne_ hm (by omega) hB0 hv) ?_
  refine y_zeq (c := decide (vk v ≤ 1)) (t := 15) (pc' := 8) dm_X12_without_5 rfl rfl (fun hb1 => ?_) (fun hb1 => ?_)
  · replace hb1 := dF hb1
    refine me0 (pc' := 16) (S' := [ii 0]) dm_X12_without_15 rfl rfl rfl rfl ?_
    refine me1 (pc' := 18) (L' := [(4, ii 0), (0, .ref 102), (1, ii (hd : Int)), (2, ii (hd2 : Int)), (3, ii place)]) (S' := []) dm_X12_without_16 rfl rfl rfl rfl ?_
    refine me0 (pc' := 19) (S' := [ii 0]) dm_X12_without_18 rfl rfl rfl rfl ?_
    refine me1 (pc' := 21) (L' := [(5, ii 0), (4, ii 0), (0, .ref 102), (1, ii (hd : Int)), (2, ii (hd2 : Int)), (3, ii place)]) (S' := []) dm_X12_without_19 rfl rfl rfl rfl ?_
    have lp21 : ∀ (n21 : Nat) (k : Nat) (n : Nat) (o : Nat → Nat) (t : RS), vm v - k = n21 → (k ≤ vm v) → ((flt (woF (e + 1) v w) k) = (n, o)) → (rpre s t) → (∀ j, j < n → t.2.2.1 14 j = ((o j : Nat) : Int)) → pgE xt (d - 1) 12 8 false (Option.some Jvm.ClassFile.FieldType.int) (mj_dec prog_14_method_62_code) 21 [(0, .ref 102), (1, ii (hd : Int)), (2, ii (hd2 : Int)), (3, ii place), (4, ii ((n : Nat) : Int)), (5, ii ((k : Nat) : Int))] [] (rI pre post t.1 t.2.1 t.2.2.1 t.2.2.2) (fun r h' => ∃ x, r = some x ∧ rres pre post s (e + 1) (d_wo (e + 1) v w) place 144 1 x h') := by
      intro n21
      induction n21 using Nat.strongRecOn with
      | ind n21 ih21 =>
        intro k n o t hm21 hk hfe hpt hO
        have hfl : n ≤ k := by have := (flt_le (woF (e + 1) v w) k).1; rw [hfe] at this; exact this
        have hfl2 : ∀ j, j < n → o j < k := by have := (flt_le (woF (e + 1) v w) k).2; rw [hfe] at this; exact this
        have hvt := rv_ext hpt.1 hh3 hv
        have hBt := rB_pre hpt hB0
        refine me1 (pc' := 23) (L' := [(0, .ref 102), (1, ii (hd : Int)), (2, ii (hd2 : Int)), (3, ii place), (4, ii ((n : Nat) : Int)), (5, ii ((k : Nat) : Int))]) (S' := [ii ((k : Nat) : Int)]) dm_X12_without_21 rfl rfl rfl rfl ?_
        refine me1 (pc' := 24) (L' := [(0, .ref 102), (1, ii (hd : Int)), (2, ii (hd2 : Int)), (3, ii place), (4, ii ((n : Nat) : Int)), (5, ii ((k : Nat) : Int))]) (S' := [.ref 102, ii ((k : Nat) : Int)]) dm_X12_without_23 rfl rfl rfl rfl ?_
        refine me1 (pc' := 25) (L' := [(0, .ref 102), (1, ii (hd : Int)), (2, ii (hd2 : Int)), (3, ii place), (4, ii ((n : Nat) : Int)), (5, ii ((k : Nat) : Int))]) (S' := [ii (hd : Int), .ref 102, ii ((k : Nat) : Int)]) dm_X12_without_24 rfl rfl rfl rfl ?_
        refine x_cp (pc' := 28) (v := ii (vm v : Int)) (rest := [ii ((k : Nat) : Int)]) dm_X12_without_25 rfl (q_inv (As := [ii (hd : Int)]) (S := [ii ((k : Nat) : Int)]) hm rfl rfl rfl) rfl rfl rfl (r_many_ hm (by omega) hBt hvt) ?_
        refine y_2ge (a := ((k : Nat) : Int)) (b := (vm v : Int)) (t := 106) (pc' := 31) dm_X12_without_28 rfl rfl (by omega) (fun hb2 => ?_) (fun hb2 => ?_)
        · refine me1 (pc' := 107) (L' := [(0, .ref 102), (1, ii (hd : Int)), (2, ii (hd2 : Int)), (3, ii place), (4, ii ((n : Nat) : Int)), (5, ii ((k : Nat) : Int))]) (S' := [.ref 102]) dm_X12_without_106 rfl rfl rfl rfl ?_
          refine me1 (pc' := 108) (L' := [(0, .ref 102), (1, ii (hd : Int)), (2, ii (hd2 : Int)), (3, ii place), (4, ii ((n : Nat) : Int)), (5, ii ((k : Nat) : Int))]) (S' := [ii (hd : Int), .ref 102]) dm_X12_without_107 rfl rfl rfl rfl ?_
          refine x_cp (pc' := 111) (v := ii (vk v : Int)) (rest := []) dm_X12_without_108 rfl (q_inv (As := [ii (hd : Int)]) (S := []) hm rfl rfl rfl) rfl rfl rfl (r_kindOf_ hm (by omega) hBt hvt) ?_
          refine me0 (pc' := 113) (S' := [ii 6, ii (vk v : Int)]) dm_X12_without_111 rfl rfl rfl rfl ?_
          refine y_2ne (a := (vk v : Int)) (b := 6) (t := 130) (pc' := 116) dm_X12_without_113 rfl rfl (by omega) (fun hb3 => ?_) (fun hb3 => ?_)
          · refine me1 (pc' := 131) (L' := [(0, .ref 102), (1, ii (hd : Int)), (2, ii (hd2 : Int)), (3, ii place), (4, ii ((n : Nat) : Int)), (5, ii ((k : Nat) : Int))]) (S' := [.ref 102]) dm_X12_without_130 rfl rfl rfl rfl ?_
            refine me1 (pc' := 132) (L' := [(0, .ref 102), (1, ii (hd : Int)), (2, ii (hd2 : Int)), (3, ii place), (4, ii ((n : Nat) : Int)), (5, ii ((k : Nat) : Int))]) (S' := [ii (hd : Int), .ref 102]) dm_X12_without_131 rfl rfl rfl rfl ?_
            refine me1 (pc' := 134) (L' := [(0, .ref 102), (1, ii (hd : Int)), (2, ii (hd2 : Int)), (3, ii place), (4, ii ((n : Nat) : Int)), (5, ii ((k : Nat) : Int))]) (S' := [ii ((n : Nat) : Int), ii (hd : Int), .ref 102]) dm_X12_without_132 rfl rfl rfl rfl ?_
            have hkn : k = vm v := by omega
            have hpc : pcl v n ≤ 144 := by unfold pcl; split; (have hm12 := Nat.mul_le_mul (show n ≤ 12 by omega) hvc; omega); omega
            have hOO : ∀ j, j < n → 0 ≤ t.2.2.1 14 j ∧ t.2.2.1 14 j < vm v := fun j hj => by rw [hO j hj]; have := hfl2 j hj; omega
            refine x_cv (pc' := 137) (rest := []) dm_X12_without_134 rfl (q_inv (As := [ii (hd : Int), ii ((n : Nat) : Int)]) (S := []) hm rfl rfl rfl) rfl rfl rfl (r_picked_ (s := t) (q := q) (b := b) (place := place) hm (by omega) hBt hvt hh3 (by rw [hpt.2.2.2.1]; exact hq) (by rw [hpt.2.2.1]; exact hb) hq3 hV2 (by rw [hpt.2.2.2.2.1]; exact he0) (n := n) (by omega) (by omega) (by omega) (by omega) hOO) ?_
            rintro _ _ ⟨t1, rfl, r1, r2, r3, r4, r5, r6, p1, r7, rfl, r8⟩
            refine y_ret (r := some (ii (p1 : Int))) dm_X12_without_137 rfl rfl rfl ?_
            rw [hkn] at hfe
            rw [show d_wo (e + 1) v w = .inr (vpick v o n) by unfold d_wo; rw [if_neg (by omega), hfe]; by_cases z7 : vk v = 7; (exact s_pick_7 z7 (by omega)); first | exact s_pick_6 (by omega) (by omega) (by omega) | exact s_pick_r (by omega)]
            refine ⟨_, rfl, rres_up (rres_bk hpt (rres_ve (vpick_congr (by omega) (fun j hj => ?_)) ⟨t1, rfl, r1, r2, r3, r4, r5, r6, p1, r7, rfl, r8⟩)) hpc (Nat.le_refl _)⟩
            show (t.2.2.1 14 j).toNat = _
            rw [hO j hj]
            rfl
          · refine me1 (pc' := 118) (L' := [(0, .ref 102), (1, ii (hd : Int)), (2, ii (hd2 : Int)), (3, ii place), (4, ii ((n : Nat) : Int)), (5, ii ((k : Nat) : Int))]) (S' := [ii ((n : Nat) : Int)]) dm_X12_without_116 rfl rfl rfl rfl ?_
            refine y_1ne (a := ((n : Nat) : Int)) (t := 130) (pc' := 121) dm_X12_without_118 rfl rfl (by omega) (fun hb4 => ?_) (fun hb4 => ?_)
            · refine me1 (pc' := 131) (L' := [(0, .ref 102), (1, ii (hd : Int)), (2, ii (hd2 : Int)), (3, ii place), (4, ii ((n : Nat) : Int)), (5, ii ((k : Nat) : Int))]) (S' := [.ref 102]) dm_X12_without_130 rfl rfl rfl rfl ?_
              refine me1 (pc' := 132) (L' := [(0, .ref 102), (1, ii (hd : Int)), (2, ii (hd2 : Int)), (3, ii place), (4, ii ((n : Nat) : Int)), (5, ii ((k : Nat) : Int))]) (S' := [ii (hd : Int), .ref 102]) dm_X12_without_131 rfl rfl rfl rfl ?_
              refine me1 (pc' := 134) (L' := [(0, .ref 102), (1, ii (hd : Int)), (2, ii (hd2 : Int)), (3, ii place), (4, ii ((n : Nat) : Int)), (5, ii ((k : Nat) : Int))]) (S' := [ii ((n : Nat) : Int), ii (hd : Int), .ref 102]) dm_X12_without_132 rfl rfl rfl rfl ?_
              have hkn : k = vm v := by omega
              have hpc : pcl v n ≤ 144 := by unfold pcl; split; (have hm12 := Nat.mul_le_mul (show n ≤ 12 by omega) hvc; omega); omega
              have hOO : ∀ j, j < n → 0 ≤ t.2.2.1 14 j ∧ t.2.2.1 14 j < vm v := fun j hj => by rw [hO j hj]; have := hfl2 j hj; omega
              refine x_cv (pc' := 137) (rest := []) dm_X12_without_134 rfl (q_inv (As := [ii (hd : Int), ii ((n : Nat) : Int)]) (S := []) hm rfl rfl rfl) rfl rfl rfl (r_picked_ (s := t) (q := q) (b := b) (place := place) hm (by omega) hBt hvt hh3 (by rw [hpt.2.2.2.1]; exact hq) (by rw [hpt.2.2.1]; exact hb) hq3 hV2 (by rw [hpt.2.2.2.2.1]; exact he0) (n := n) (by omega) (by omega) (by omega) (by omega) hOO) ?_
              rintro _ _ ⟨t1, rfl, r1, r2, r3, r4, r5, r6, p1, r7, rfl, r8⟩
              refine y_ret (r := some (ii (p1 : Int))) dm_X12_without_137 rfl rfl rfl ?_
              rw [hkn] at hfe
              rw [show d_wo (e + 1) v w = .inr (vpick v o n) by unfold d_wo; rw [if_neg (by omega), hfe]; by_cases z7 : vk v = 7; (exact s_pick_7 z7 (by omega)); first | exact s_pick_6 (by omega) (by omega) (by omega) | exact s_pick_r (by omega)]
              refine ⟨_, rfl, rres_up (rres_bk hpt (rres_ve (vpick_congr (by omega) (fun j hj => ?_)) ⟨t1, rfl, r1, r2, r3, r4, r5, r6, p1, r7, rfl, r8⟩)) hpc (Nat.le_refl _)⟩
              show (t.2.2.1 14 j).toNat = _
              rw [hO j hj]
              rfl
            · refine me1 (pc' := 122) (L' := [(0, .ref 102), (1, ii (hd : Int)), (2, ii (hd2 : Int)), (3, ii place), (4, ii ((n : Nat) : Int)), (5, ii ((k : Nat) : Int))]) (S' := [.ref 102]) dm_X12_without_121 rfl rfl rfl rfl ?_
              refine me0 (pc' := 123) (S' := [ii 4, .ref 102]) dm_X12_without_122 rfl rfl rfl rfl ?_
              refine me1 (pc' := 124) (L' := [(0, .ref 102), (1, ii (hd : Int)), (2, ii (hd2 : Int)), (3, ii place), (4, ii ((n : Nat) : Int)), (5, ii ((k : Nat) : Int))]) (S' := [ii place, ii 4, .ref 102]) dm_X12_without_123 rfl rfl rfl rfl ?_
              refine x_cv (pc' := 127) (rest := []) dm_X12_without_124 rfl (q_inv (As := [ii 4, ii place]) (S := []) hm rfl rfl rfl) rfl rfl rfl (r_fail_ (s := t) hm (by omega) (hpt.2.2.2.2.1.trans he0) (by rw [hpt.2.2.2.2.2.2.1]; exact hca.1) (by rw [hpt.2.2.2.2.2.2.1]; exact hca.2)) ?_
              rintro _ _ ⟨rfl, rfl⟩
              refine me2 (pc' := 137) (S' := [ii (-1)]) dm_X12_without_127 rfl rfl rfl ?_
              refine y_ret (r := some (ii (-1))) dm_X12_without_137 rfl rfl rfl ?_
              have hkn : k = vm v := by omega
              rw [hkn] at hfe
              rw [show d_wo (e + 1) v w = .inl 4 by unfold d_wo; rw [if_neg (by omega), hfe]; exact s_pick_60 (by omega) (by omega)]
              exact ⟨_, rfl, rres_fail hpt he0⟩
        · refine me0 (pc' := 32) (S' := [ii 0]) dm_X12_without_31 rfl rfl rfl rfl ?_
          refine me1 (pc' := 34) (L' := [(6, ii 0), (0, .ref 102), (1, ii (hd : Int)), (2, ii (hd2 : Int)), (3, ii place), (4, ii ((n : Nat) : Int)), (5, ii ((k : Nat) : Int))]) (S' := []) dm_X12_without_32 rfl rfl rfl rfl ?_
          refine me0 (pc' := 35) (S' := [ii 0]) dm_X12_without_34 rfl rfl rfl rfl ?_
          refine me1 (pc' := 37) (L' := [(7, ii 0), (6, ii 0), (0, .ref 102), (1, ii (hd : Int)), (2, ii (hd2 : Int)), (3, ii place), (4, ii ((n : Nat) : Int)), (5, ii ((k : Nat) : Int))]) (S' := []) dm_X12_without_35 rfl rfl rfl rfl ?_
          have lp37 : ∀ (n37 : Nat) (i : Nat) (c : Bool) (u : RS), vm w - i = n37 → (i ≤ vm w) → (c = false → ∀ j, j < i → vsame (e + 1) (vit v k) (vit w j) = false) → (c = true → ∃ j, j < vm w ∧ vsame (e + 1) (vit v k) (vit w j) = true) → (rpre s u) → (∀ j, j < n → u.2.2.1 14 j = ((o j : Nat) : Int)) → pgE xt (d - 1) 12 8 false (Option.some Jvm.ClassFile.FieldType.int) (mj_dec prog_14_method_62_code) 37 [(0, .ref 102), (1, ii (hd : Int)), (2, ii (hd2 : Int)), (3, ii place), (4, ii ((n : Nat) : Int)), (5, ii ((k : Nat) : Int)), (6, zz c), (7, ii ((i : Nat) : Int))] [] (rI pre post u.1 u.2.1 u.2.2.1 u.2.2.2) (fun r h' => ∃ x, r = some x ∧ rres pre post s (e + 1) (d_wo (e + 1) v w) place 144 1 x h') := by
            intro n37
            induction n37 using Nat.strongRecOn with
            | ind n37 ih37 =>
              intro i c u hm37 hi hc0 hc1 hpu hOu
              have hvu := rv_ext hpu.1 hh3 hv
              have hwu := rv_ext hpu.1 hh4 hw
              have hBu := rB_pre hpu hB0
              have hu4 : u.1 4 = s.1 4 := hpu.2.2.2.1
              refine me1 (pc' := 39) (L' := [(0, .ref 102), (1, ii (hd : Int)), (2, ii (hd2 : Int)), (3, ii place), (4, ii ((n : Nat) : Int)), (5, ii ((k : Nat) : Int)), (6, zz c), (7, ii ((i : Nat) : Int))]) (S' := [ii ((i : Nat) : Int)]) dm_X12_without_37 rfl rfl rfl rfl ?_
              refine me1 (pc' := 40) (L' := [(0, .ref 102), (1, ii (hd : Int)), (2, ii (hd2 : Int)), (3, ii place), (4, ii ((n : Nat) : Int)), (5, ii ((k : Nat) : Int)), (6, zz c), (7, ii ((i : Nat) : Int))]) (S' := [.ref 102, ii ((i : Nat) : Int)]) dm_X12_without_39 rfl rfl rfl rfl ?_
              refine me1 (pc' := 41) (L' := [(0, .ref 102), (1, ii (hd : Int)), (2, ii (hd2 : Int)), (3, ii place), (4, ii ((n : Nat) : Int)), (5, ii ((k : Nat) : Int)), (6, zz c), (7, ii ((i : Nat) : Int))]) (S' := [ii (hd2 : Int), .ref 102, ii ((i : Nat) : Int)]) dm_X12_without_40 rfl rfl rfl rfl ?_
              refine x_cp (pc' := 44) (v := ii (vm w : Int)) (rest := [ii ((i : Nat) : Int)]) dm_X12_without_41 rfl (q_inv (As := [ii (hd2 : Int)]) (S := [ii ((i : Nat) : Int)]) hm rfl rfl rfl) rfl rfl rfl (r_many_ hm (by omega) hBu hwu) ?_
              refine y_2ge (a := ((i : Nat) : Int)) (b := (vm w : Int)) (t := 80) (pc' := 47) dm_X12_without_44 rfl rfl (by omega) (fun hb5 => ?_) (fun hb5 => ?_)
              · refine me1 (pc' := 82) (L' := [(0, .ref 102), (1, ii (hd : Int)), (2, ii (hd2 : Int)), (3, ii place), (4, ii ((n : Nat) : Int)), (5, ii ((k : Nat) : Int)), (6, zz c), (7, ii ((i : Nat) : Int))]) (S' := [zz c]) dm_X12_without_80 rfl rfl rfl rfl ?_
                refine y_zeq (c := c) (t := 88) (pc' := 85) dm_X12_without_82 rfl rfl (fun hb6 => ?_) (fun hb6 => ?_)
                · have hwo : woF (e + 1) v w k = true := by first | exact woF_t (fun j hj => hc0 hb6 j (by omega)) | exact Bool.noConfusion (hcT.symm.trans hb6)
                  refine me1 (pc' := 89) (L' := [(0, .ref 102), (1, ii (hd : Int)), (2, ii (hd2 : Int)), (3, ii place), (4, ii ((n : Nat) : Int)), (5, ii ((k : Nat) : Int)), (6, zz c), (7, ii ((i : Nat) : Int))]) (S' := [.ref 102]) dm_X12_without_88 rfl rfl rfl rfl ?_
                  refine me3 (pc' := 92) (S' := [.ref (102 + 5)]) dm_X12_without_89 (q_getr hm rfl (fun m i l => rg_14 m i l)) rfl rfl rfl ?_
                  refine me1 (pc' := 94) (L' := [(0, .ref 102), (1, ii (hd : Int)), (2, ii (hd2 : Int)), (3, ii place), (4, ii ((n : Nat) : Int)), (5, ii ((k : Nat) : Int)), (6, zz c), (7, ii ((i : Nat) : Int))]) (S' := [ii ((n : Nat) : Int), .ref (102 + 5)]) dm_X12_without_92 rfl rfl rfl rfl ?_
                  refine me1 (pc' := 96) (L' := [(0, .ref 102), (1, ii (hd : Int)), (2, ii (hd2 : Int)), (3, ii place), (4, ii ((n : Nat) : Int)), (5, ii ((k : Nat) : Int)), (6, zz c), (7, ii ((i : Nat) : Int))]) (S' := [ii ((k : Nat) : Int), ii ((n : Nat) : Int), .ref (102 + 5)]) dm_X12_without_94 rfl rfl rfl rfl ?_
                  refine me3 (pc' := 97) (S' := []) (h1 := rI pre post u.1 u.2.1 (va_up u.2.2.1 14 (va_up (u.2.2.1 14) n ((k : Nat) : Int))) u.2.2.2) dm_X12_without_96 (q_iast (j := ((n : Nat) : Int)) (k := 14) (n := 260) hm (fun m i l I J => rc_14 m i l I J) (fun m i l I J f => rs_14 m i l I J f) (by omega) (by omega) (by decide)) rfl rfl rfl ?_
                  refine pg_cast (h2 := rI pre post ((ordS u (va_up (u.2.2.1 14) n ((k : Nat) : Int))).1) ((ordS u (va_up (u.2.2.1 14) n ((k : Nat) : Int))).2.1) ((ordS u (va_up (u.2.2.1 14) n ((k : Nat) : Int))).2.2.1) ((ordS u (va_up (u.2.2.1 14) n ((k : Nat) : Int))).2.2.2)) rfl ?_
                  refine y_iinc (pc' := 100) (L' := [(4, ii (((n : Nat) : Int) + 1)), (0, .ref 102), (1, ii (hd : Int)), (2, ii (hd2 : Int)), (3, ii place), (5, ii ((k : Nat) : Int)), (6, zz c), (7, ii ((i : Nat) : Int))]) dm_X12_without_97 (y_incp (a := ((n : Nat) : Int)) (c := 1) rfl rfl (by decide)) rfl ?_
                  refine y_iinc (pc' := 103) (L' := [(5, ii (((k : Nat) : Int) + 1)), (4, ii (((n : Nat) : Int) + 1)), (0, .ref 102), (1, ii (hd : Int)), (2, ii (hd2 : Int)), (3, ii place), (6, zz c), (7, ii ((i : Nat) : Int))]) dm_X12_without_100 (y_incp (a := ((k : Nat) : Int)) (c := 1) rfl rfl (by decide)) rfl ?_
                  refine me2 (pc' := 21) (S' := []) dm_X12_without_103 rfl rfl rfl ?_
                  exact pg_sub (L := [(0, .ref 102), (1, ii (hd : Int)), (2, ii (hd2 : Int)), (3, ii place), (4, ii (((n + 1) : Nat) : Int)), (5, ii (((k + 1) : Nat) : Int))]) rfl rfl rfl (ih21 (vm v - (k + 1)) (by omega) (k + 1) (n + 1) (va_up o n k) (ordS u (va_up (u.2.2.1 14) n ((k : Nat) : Int))) rfl (by omega) (by rw [flt_s hwo, hfe]) (rpre_tr hpu (rpre_ord u _)) (fun j hj => by rw [ordS_14, up_at, up_at]; by_cases z : j = n; (rw [if_pos z, if_pos z]); (rw [if_neg z, if_neg z]; exact hOu j (by omega))))
                · have hwo : woF (e + 1) v w k = false := woF_f (hc1 hb6)
                  refine me2 (pc' := 100) (S' := []) dm_X12_without_85 rfl rfl rfl ?_
                  refine y_iinc (pc' := 103) (L' := [(5, ii (((k : Nat) : Int) + 1)), (0, .ref 102), (1, ii (hd : Int)), (2, ii (hd2 : Int)), (3, ii place), (4, ii ((n : Nat) : Int)), (6, zz c), (7, ii ((i : Nat) : Int))]) dm_X12_without_100 (y_incp (a := ((k : Nat) : Int)) (c := 1) rfl rfl (by decide)) rfl ?_
                  refine me2 (pc' := 21) (S' := []) dm_X12_without_103 rfl rfl rfl ?_
                  exact pg_sub (L := [(0, .ref 102), (1, ii (hd : Int)), (2, ii (hd2 : Int)), (3, ii place), (4, ii ((n : Nat) : Int)), (5, ii (((k + 1) : Nat) : Int))]) rfl rfl rfl (ih21 (vm v - (k + 1)) (by omega) (k + 1) n o u rfl (by omega) ((flt_n hwo).trans hfe) hpu hOu)
              · refine me1 (pc' := 49) (L' := [(0, .ref 102), (1, ii (hd : Int)), (2, ii (hd2 : Int)), (3, ii place), (4, ii ((n : Nat) : Int)), (5, ii ((k : Nat) : Int)), (6, zz c), (7, ii ((i : Nat) : Int))]) (S' := [zz c]) dm_X12_without_47 rfl rfl rfl rfl ?_
                refine y_zne (c := c) (t := 80) (pc' := 52) dm_X12_without_49 rfl rfl (fun hb7 => ?_) (fun hb7 => ?_)
                · have hcT : c = true := hb7
                  refine me1 (pc' := 82) (L' := [(0, .ref 102), (1, ii (hd : Int)), (2, ii (hd2 : Int)), (3, ii place), (4, ii ((n : Nat) : Int)), (5, ii ((k : Nat) : Int)), (6, zz c), (7, ii ((i : Nat) : Int))]) (S' := [zz c]) dm_X12_without_80 rfl rfl rfl rfl ?_
                  refine y_zeq (c := c) (t := 88) (pc' := 85) dm_X12_without_82 rfl rfl (fun hb8 => ?_) (fun hb8 => ?_)
                  · have hwo : woF (e + 1) v w k = true := by first | exact woF_t (fun j hj => hc0 hb8 j (by omega)) | exact Bool.noConfusion (hcT.symm.trans hb8)
                    refine me1 (pc' := 89) (L' := [(0, .ref 102), (1, ii (hd : Int)), (2, ii (hd2 : Int)), (3, ii place), (4, ii ((n : Nat) : Int)), (5, ii ((k : Nat) : Int)), (6, zz c), (7, ii ((i : Nat) : Int))]) (S' := [.ref 102]) dm_X12_without_88 rfl rfl rfl rfl ?_
                    refine me3 (pc' := 92) (S' := [.ref (102 + 5)]) dm_X12_without_89 (q_getr hm rfl (fun m i l => rg_14 m i l)) rfl rfl rfl ?_
                    refine me1 (pc' := 94) (L' := [(0, .ref 102), (1, ii (hd : Int)), (2, ii (hd2 : Int)), (3, ii place), (4, ii ((n : Nat) : Int)), (5, ii ((k : Nat) : Int)), (6, zz c), (7, ii ((i : Nat) : Int))]) (S' := [ii ((n : Nat) : Int), .ref (102 + 5)]) dm_X12_without_92 rfl rfl rfl rfl ?_
                    refine me1 (pc' := 96) (L' := [(0, .ref 102), (1, ii (hd : Int)), (2, ii (hd2 : Int)), (3, ii place), (4, ii ((n : Nat) : Int)), (5, ii ((k : Nat) : Int)), (6, zz c), (7, ii ((i : Nat) : Int))]) (S' := [ii ((k : Nat) : Int), ii ((n : Nat) : Int), .ref (102 + 5)]) dm_X12_without_94 rfl rfl rfl rfl ?_
                    refine me3 (pc' := 97) (S' := []) (h1 := rI pre post u.1 u.2.1 (va_up u.2.2.1 14 (va_up (u.2.2.1 14) n ((k : Nat) : Int))) u.2.2.2) dm_X12_without_96 (q_iast (j := ((n : Nat) : Int)) (k := 14) (n := 260) hm (fun m i l I J => rc_14 m i l I J) (fun m i l I J f => rs_14 m i l I J f) (by omega) (by omega) (by decide)) rfl rfl rfl ?_
                    refine pg_cast (h2 := rI pre post ((ordS u (va_up (u.2.2.1 14) n ((k : Nat) : Int))).1) ((ordS u (va_up (u.2.2.1 14) n ((k : Nat) : Int))).2.1) ((ordS u (va_up (u.2.2.1 14) n ((k : Nat) : Int))).2.2.1) ((ordS u (va_up (u.2.2.1 14) n ((k : Nat) : Int))).2.2.2)) rfl ?_
                    refine y_iinc (pc' := 100) (L' := [(4, ii (((n : Nat) : Int) + 1)), (0, .ref 102), (1, ii (hd : Int)), (2, ii (hd2 : Int)), (3, ii place), (5, ii ((k : Nat) : Int)), (6, zz c), (7, ii ((i : Nat) : Int))]) dm_X12_without_97 (y_incp (a := ((n : Nat) : Int)) (c := 1) rfl rfl (by decide)) rfl ?_
                    refine y_iinc (pc' := 103) (L' := [(5, ii (((k : Nat) : Int) + 1)), (4, ii (((n : Nat) : Int) + 1)), (0, .ref 102), (1, ii (hd : Int)), (2, ii (hd2 : Int)), (3, ii place), (6, zz c), (7, ii ((i : Nat) : Int))]) dm_X12_without_100 (y_incp (a := ((k : Nat) : Int)) (c := 1) rfl rfl (by decide)) rfl ?_
                    refine me2 (pc' := 21) (S' := []) dm_X12_without_103 rfl rfl rfl ?_
                    exact pg_sub (L := [(0, .ref 102), (1, ii (hd : Int)), (2, ii (hd2 : Int)), (3, ii place), (4, ii (((n + 1) : Nat) : Int)), (5, ii (((k + 1) : Nat) : Int))]) rfl rfl rfl (ih21 (vm v - (k + 1)) (by omega) (k + 1) (n + 1) (va_up o n k) (ordS u (va_up (u.2.2.1 14) n ((k : Nat) : Int))) rfl (by omega) (by rw [flt_s hwo, hfe]) (rpre_tr hpu (rpre_ord u _)) (fun j hj => by rw [ordS_14, up_at, up_at]; by_cases z : j = n; (rw [if_pos z, if_pos z]); (rw [if_neg z, if_neg z]; exact hOu j (by omega))))
                  · have hwo : woF (e + 1) v w k = false := woF_f (hc1 hb8)
                    refine me2 (pc' := 100) (S' := []) dm_X12_without_85 rfl rfl rfl ?_
                    refine y_iinc (pc' := 103) (L' := [(5, ii (((k : Nat) : Int) + 1)), (0, .ref 102), (1, ii (hd : Int)), (2, ii (hd2 : Int)), (3, ii place), (4, ii ((n : Nat) : Int)), (6, zz c), (7, ii ((i : Nat) : Int))]) dm_X12_without_100 (y_incp (a := ((k : Nat) : Int)) (c := 1) rfl rfl (by decide)) rfl ?_
                    refine me2 (pc' := 21) (S' := []) dm_X12_without_103 rfl rfl rfl ?_
                    exact pg_sub (L := [(0, .ref 102), (1, ii (hd : Int)), (2, ii (hd2 : Int)), (3, ii place), (4, ii ((n : Nat) : Int)), (5, ii (((k + 1) : Nat) : Int))]) rfl rfl rfl (ih21 (vm v - (k + 1)) (by omega) (k + 1) n o u rfl (by omega) ((flt_n hwo).trans hfe) hpu hOu)
                · have hcv := hb7
                  refine me1 (pc' := 53) (L' := [(0, .ref 102), (1, ii (hd : Int)), (2, ii (hd2 : Int)), (3, ii place), (4, ii ((n : Nat) : Int)), (5, ii ((k : Nat) : Int)), (6, zz c), (7, ii ((i : Nat) : Int))]) (S' := [.ref 102]) dm_X12_without_52 rfl rfl rfl rfl ?_
                  refine me1 (pc' := 54) (L' := [(0, .ref 102), (1, ii (hd : Int)), (2, ii (hd2 : Int)), (3, ii place), (4, ii ((n : Nat) : Int)), (5, ii ((k : Nat) : Int)), (6, zz c), (7, ii ((i : Nat) : Int))]) (S' := [.ref 102, .ref 102]) dm_X12_without_53 rfl rfl rfl rfl ?_
                  refine me1 (pc' := 55) (L' := [(0, .ref 102), (1, ii (hd : Int)), (2, ii (hd2 : Int)), (3, ii place), (4, ii ((n : Nat) : Int)), (5, ii ((k : Nat) : Int)), (6, zz c), (7, ii ((i : Nat) : Int))]) (S' := [ii (hd : Int), .ref 102, .ref 102]) dm_X12_without_54 rfl rfl rfl rfl ?_
                  refine me1 (pc' := 57) (L' := [(0, .ref 102), (1, ii (hd : Int)), (2, ii (hd2 : Int)), (3, ii place), (4, ii ((n : Nat) : Int)), (5, ii ((k : Nat) : Int)), (6, zz c), (7, ii ((i : Nat) : Int))]) (S' := [ii ((k : Nat) : Int), ii (hd : Int), .ref 102, .ref 102]) dm_X12_without_55 rfl rfl rfl rfl ?_
                  refine me0 (pc' := 58) (S' := [ii 0, ii ((k : Nat) : Int), ii (hd : Int), .ref 102, .ref 102]) dm_X12_without_57 rfl rfl rfl rfl ?_
                  refine x_cv (pc' := 61) (rest := [.ref 102]) dm_X12_without_58 rfl (q_inv (As := [ii (hd : Int), ii ((k : Nat) : Int), ii 0]) (S := [.ref 102]) hm rfl rfl rfl) rfl rfl rfl (r_itemAt_ (s := u) (t := 0) hm (by omega) hBu hvu (by omega) (by omega) (by omega)) ?_
                  rintro _ _ ⟨p1, s1, rfl, rfl, hpv1, hws1, hp31⟩
                  refine me1 (pc' := 62) (L' := [(0, .ref 102), (1, ii (hd : Int)), (2, ii (hd2 : Int)), (3, ii place), (4, ii ((n : Nat) : Int)), (5, ii ((k : Nat) : Int)), (6, zz c), (7, ii ((i : Nat) : Int))]) (S' := [.ref 102, ii (p1 : Int), .ref 102]) dm_X12_without_61 rfl rfl rfl rfl ?_
                  refine me1 (pc' := 63) (L' := [(0, .ref 102), (1, ii (hd : Int)), (2, ii (hd2 : Int)), (3, ii place), (4, ii ((n : Nat) : Int)), (5, ii ((k : Nat) : Int)), (6, zz c), (7, ii ((i : Nat) : Int))]) (S' := [ii (hd2 : Int), .ref 102, ii (p1 : Int), .ref 102]) dm_X12_without_62 rfl rfl rfl rfl ?_
                  refine me1 (pc' := 65) (L' := [(0, .ref 102), (1, ii (hd : Int)), (2, ii (hd2 : Int)), (3, ii place), (4, ii ((n : Nat) : Int)), (5, ii ((k : Nat) : Int)), (6, zz c), (7, ii ((i : Nat) : Int))]) (S' := [ii ((i : Nat) : Int), ii (hd2 : Int), .ref 102, ii (p1 : Int), .ref 102]) dm_X12_without_63 rfl rfl rfl rfl ?_
                  refine me0 (pc' := 66) (S' := [ii 1, ii ((i : Nat) : Int), ii (hd2 : Int), .ref 102, ii (p1 : Int), .ref 102]) dm_X12_without_65 rfl rfl rfl rfl ?_
                  have h3a := vw3_of (by omega) hws1
                  have hs4 : s1.1 4 = s.1 4 := by rw [h3a.1]; exact hu4
                  refine x_cv (pc' := 69) (rest := [ii (p1 : Int), .ref 102]) dm_X12_without_66 rfl (q_inv (As := [ii (hd2 : Int), ii ((i : Nat) : Int), ii 1]) (S := [ii (p1 : Int), .ref 102]) hm rfl rfl rfl) rfl rfl rfl (r_itemAt_ (s := s1) (t := 1) hm (by omega) (rB_vw h3a hBu) (rv_ext (vw3_pre h3a).1 hh4 hwu) (by omega) (by omega) (by omega)) ?_
                  rintro _ _ ⟨p2, s2, rfl, rfl, hpv2, hws2, hp32⟩
                  have h3b := vw3_of (by omega) hws2
                  refine x_cp (pc' := 72) (v := zz (vsame (e + 1) (vit v k) (vit w i))) (rest := []) dm_X12_without_69 rfl (q_inv (As := [ii (p1 : Int), ii (p2 : Int)]) (S := []) hm rfl rfl rfl) rfl rfl rfl (r_isSame_ hm (rB_vw h3b (rB_vw h3a hBu)) (e + 1) (by omega) (rv_vw (by omega) hws2 (by omega) hpv1) hpv2) ?_
                  refine me1 (pc' := 74) (L' := [(6, zz (vsame (e + 1) (vit v k) (vit w i))), (0, .ref 102), (1, ii (hd : Int)), (2, ii (hd2 : Int)), (3, ii place), (4, ii ((n : Nat) : Int)), (5, ii ((k : Nat) : Int)), (7, ii ((i : Nat) : Int))]) (S' := []) dm_X12_without_72 rfl rfl rfl rfl ?_
                  refine y_iinc (pc' := 77) (L' := [(7, ii (((i : Nat) : Int) + 1)), (6, zz (vsame (e + 1) (vit v k) (vit w i))), (0, .ref 102), (1, ii (hd : Int)), (2, ii (hd2 : Int)), (3, ii place), (4, ii ((n : Nat) : Int)), (5, ii ((k : Nat) : Int))]) dm_X12_without_74 (y_incp (a := ((i : Nat) : Int)) (c := 1) rfl rfl (by decide)) rfl ?_
                  refine me2 (pc' := 37) (S' := []) dm_X12_without_77 rfl rfl rfl ?_
                  exact pg_sub (L := [(0, .ref 102), (1, ii (hd : Int)), (2, ii (hd2 : Int)), (3, ii place), (4, ii ((n : Nat) : Int)), (5, ii ((k : Nat) : Int)), (6, zz (vsame (e + 1) (vit v k) (vit w i))), (7, ii (((i + 1) : Nat) : Int))]) rfl rfl rfl (ih37 (vm w - (i + 1)) (by omega) (i + 1) (vsame (e + 1) (vit v k) (vit w i)) s2 rfl (by omega) (fun z j hj => by by_cases y : j = i; (rw [y]; exact z); exact hc0 hcv j (by omega)) (fun z => ⟨i, by omega, z⟩) (rpre_tr hpu (rpre_tr (vw3_pre h3a) (vw3_pre h3b))) (fun j hj => by rw [h3b.2.2.2.1 14 (by decide) (by decide), h3a.2.2.2.1 14 (by decide) (by decide)]; exact hOu j hj))
          exact pg_sub (L := [(0, .ref 102), (1, ii (hd : Int)), (2, ii (hd2 : Int)), (3, ii place), (4, ii ((n : Nat) : Int)), (5, ii ((k : Nat) : Int)), (6, zz false), (7, ii ((0 : Nat) : Int))]) rfl rfl rfl (lp37 _ 0 false t rfl (Nat.zero_le _) (fun _ j hj => absurd hj (Nat.not_lt_zero j)) (fun z => absurd z (by decide)) hpt hO)
    exact pg_sub (L := [(0, .ref 102), (1, ii (hd : Int)), (2, ii (hd2 : Int)), (3, ii place), (4, ii ((0 : Nat) : Int)), (5, ii ((0 : Nat) : Int))]) rfl rfl rfl (lp21 _ 0 0 (fun _ => 0) s rfl (Nat.zero_le _) rfl (rpre_rf s) (fun j hj => absurd hj (Nat.not_lt_zero j)))
  · replace hb1 := dT hb1
    refine me1 (pc' := 9) (L' := [(0, .ref 102), (1, ii (hd : Int)), (2, ii (hd2 : Int)), (3, ii place)]) (S' := [.ref 102]) dm_X12_without_8 rfl rfl rfl rfl ?_
    refine me0 (pc' := 10) (S' := [ii 3, .ref 102]) dm_X12_without_9 rfl rfl rfl rfl ?_
    refine me1 (pc' := 11) (L' := [(0, .ref 102), (1, ii (hd : Int)), (2, ii (hd2 : Int)), (3, ii place)]) (S' := [ii place, ii 3, .ref 102]) dm_X12_without_10 rfl rfl rfl rfl ?_
    refine x_cv (pc' := 14) (rest := []) dm_X12_without_11 rfl (q_inv (As := [ii 3, ii place]) (S := []) hm rfl rfl rfl) rfl rfl rfl (r_fail_ (s := s) hm (by omega) he0 hca.1 hca.2) ?_
    rintro _ _ ⟨rfl, rfl⟩
    refine y_ret (r := some (ii (-1))) dm_X12_without_14 rfl rfl rfl ?_
    rw [show d_wo (e + 1) v w = .inl 3 by unfold d_wo; rw [if_pos (by omega)]]
    exact ⟨_, rfl, rres_fail (rpre_rf s) he0⟩
