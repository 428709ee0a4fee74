theorem srtO_c (v : VV) (hk : vk v ≤ 7) : (srtO v = 1 ∧ (vk v = 0 ∨ 2 ≤ vk v ∧ vk v ≤ 5 ∧ vk v ≠ 3)) ∨ (srtO v = 2 ∧ (vk v = 1 ∨ vk v = 3)) ∨ (srtO v = 3 ∧ vk v = 6) ∨ (srtO v = 4 ∧ vk v = 7) := by
  unfold srtO
  split
  · omega
  · split
    · omega
    · split
      · omega
      · omega
theorem rpw_O {s t : RS} {base n e : Nat} {ch : Nat → VV} (h : rpw s t base n (e + 1) ch) (hB : t.1 4 ≤ 310000) : ∀ k, k < n → 0 ≤ t.2.2.1 12 (base + k) ∧ t.2.2.1 12 (base + k) ≤ 310000 := by
  intro k hk
  obtain ⟨-, -, -, -, -, -, -, -, -, a10⟩ := h
  obtain ⟨p, p1, p2, p3⟩ := a10 k hk
  have := p3.2.1
  rw [p2]
  omega
theorem pushS_eq {pre post : mj_H} (t : RS) (m : Nat) (x : Int) : rS pre post (va_up t.1 13 ((m : Int) + 1), t.2.1, va_up t.2.2.1 12 (va_up (t.2.2.1 12) m x), t.2.2.2) = rS pre post (pushS t m x) := rfl
set_option maxRecDepth 20000 in
theorem pm_X12_joined : mj_mmof pg_ms 259 = some ((⟨"ArrayCalculatorModel", "joined", "(III)I"⟩, prog_14_method_55_code, 10, (Option.some Jvm.ClassFile.FieldType.int)), 12, false, mj_dec prog_14_method_55_code) := rfl
theorem dm_X12_joined_0 : mj_dec prog_14_method_55_code 0 = some (.aload_n 0, 1) := by decide +kernel
theorem dm_X12_joined_1 : mj_dec prog_14_method_55_code 1 = some (.iload_n 1, 1) := by decide +kernel
theorem dm_X12_joined_2 : mj_dec prog_14_method_55_code 2 = some (.invokevirtual 347, 3) := by decide +kernel
theorem dm_X12_joined_5 : mj_dec prog_14_method_55_code 5 = some (.istore 4, 2) := by decide +kernel
theorem dm_X12_joined_7 : mj_dec prog_14_method_55_code 7 = some (.aload_n 0, 1) := by decide +kernel
theorem dm_X12_joined_8 : mj_dec prog_14_method_55_code 8 = some (.iload_n 1, 1) := by decide +kernel
theorem dm_X12_joined_9 : mj_dec prog_14_method_55_code 9 = some (.invokevirtual 134, 3) := by decide +kernel
theorem dm_X12_joined_12 : mj_dec prog_14_method_55_code 12 = some (.aload_n 0, 1) := by decide +kernel
theorem dm_X12_joined_13 : mj_dec prog_14_method_55_code 13 = some (.iload_n 2, 1) := by decide +kernel
theorem dm_X12_joined_14 : mj_dec prog_14_method_55_code 14 = some (.invokevirtual 134, 3) := by decide +kernel
theorem dm_X12_joined_17 : mj_dec prog_14_method_55_code 17 = some (.iadd, 1) := by decide +kernel
theorem dm_X12_joined_18 : mj_dec prog_14_method_55_code 18 = some (.istore 5, 2) := by decide +kernel
theorem dm_X12_joined_20 : mj_dec prog_14_method_55_code 20 = some (.iload 4, 2) := by decide +kernel
theorem dm_X12_joined_22 : mj_dec prog_14_method_55_code 22 = some (.aload_n 0, 1) := by decide +kernel
theorem dm_X12_joined_23 : mj_dec prog_14_method_55_code 23 = some (.iload_n 2, 1) := by decide +kernel
theorem dm_X12_joined_24 : mj_dec prog_14_method_55_code 24 = some (.invokevirtual 347, 3) := by decide +kernel
theorem dm_X12_joined_27 : mj_dec prog_14_method_55_code 27 = some (.if_icmp .ne 28, 3) := by decide +kernel
theorem dm_X12_joined_30 : mj_dec prog_14_method_55_code 30 = some (.iload 4, 2) := by decide +kernel
theorem dm_X12_joined_32 : mj_dec prog_14_method_55_code 32 = some (.iconst 4, 1) := by decide +kernel
theorem dm_X12_joined_33 : mj_dec prog_14_method_55_code 33 = some (.if_icmp .eq 22, 3) := by decide +kernel
theorem dm_X12_joined_36 : mj_dec prog_14_method_55_code 36 = some (.iload 4, 2) := by decide +kernel
theorem dm_X12_joined_38 : mj_dec prog_14_method_55_code 38 = some (.iconst 3, 1) := by decide +kernel
theorem dm_X12_joined_39 : mj_dec prog_14_method_55_code 39 = some (.if_icmp .ne 97, 3) := by decide +kernel
theorem dm_X12_joined_42 : mj_dec prog_14_method_55_code 42 = some (.aload_n 0, 1) := by decide +kernel
theorem dm_X12_joined_43 : mj_dec prog_14_method_55_code 43 = some (.iload_n 1, 1) := by decide +kernel
theorem dm_X12_joined_44 : mj_dec prog_14_method_55_code 44 = some (.invokevirtual 156, 3) := by decide +kernel
theorem dm_X12_joined_47 : mj_dec prog_14_method_55_code 47 = some (.aload_n 0, 1) := by decide +kernel
theorem dm_X12_joined_48 : mj_dec prog_14_method_55_code 48 = some (.iload_n 2, 1) := by decide +kernel
theorem dm_X12_joined_49 : mj_dec prog_14_method_55_code 49 = some (.invokevirtual 156, 3) := by decide +kernel
theorem dm_X12_joined_52 : mj_dec prog_14_method_55_code 52 = some (.if_icmp .eq 84, 3) := by decide +kernel
theorem dm_X12_joined_55 : mj_dec prog_14_method_55_code 55 = some (.iload 5, 2) := by decide +kernel
theorem dm_X12_joined_57 : mj_dec prog_14_method_55_code 57 = some (.bipush 24, 2) := by decide +kernel
theorem dm_X12_joined_59 : mj_dec prog_14_method_55_code 59 = some (.if_icmp .le 11, 3) := by decide +kernel
theorem dm_X12_joined_62 : mj_dec prog_14_method_55_code 62 = some (.aload_n 0, 1) := by decide +kernel
theorem dm_X12_joined_63 : mj_dec prog_14_method_55_code 63 = some (.bipush 8, 2) := by decide +kernel
theorem dm_X12_joined_65 : mj_dec prog_14_method_55_code 65 = some (.iload_n 3, 1) := by decide +kernel
theorem dm_X12_joined_66 : mj_dec prog_14_method_55_code 66 = some (.invokevirtual 190, 3) := by decide +kernel
theorem dm_X12_joined_69 : mj_dec prog_14_method_55_code 69 = some (.ireturn, 1) := by decide +kernel
theorem dm_X12_joined_70 : mj_dec prog_14_method_55_code 70 = some (.aload_n 0, 1) := by decide +kernel
theorem dm_X12_joined_71 : mj_dec prog_14_method_55_code 71 = some (.getfield 202, 3) := by decide +kernel
theorem dm_X12_joined_74 : mj_dec prog_14_method_55_code 74 = some (.istore 6, 2) := by decide +kernel
theorem dm_X12_joined_76 : mj_dec prog_14_method_55_code 76 = some (.iconst 0, 1) := by decide +kernel
theorem dm_X12_joined_77 : mj_dec prog_14_method_55_code 77 = some (.istore 7, 2) := by decide +kernel
theorem dm_X12_joined_79 : mj_dec prog_14_method_55_code 79 = some (.iload 7, 2) := by decide +kernel
theorem dm_X12_joined_81 : mj_dec prog_14_method_55_code 81 = some (.iload 5, 2) := by decide +kernel
theorem dm_X12_joined_83 : mj_dec prog_14_method_55_code 83 = some (.if_icmp .ge 46, 3) := by decide +kernel
theorem dm_X12_joined_86 : mj_dec prog_14_method_55_code 86 = some (.aload_n 0, 1) := by decide +kernel
theorem dm_X12_joined_87 : mj_dec prog_14_method_55_code 87 = some (.iload 7, 2) := by decide +kernel
theorem dm_X12_joined_89 : mj_dec prog_14_method_55_code 89 = some (.aload_n 0, 1) := by decide +kernel
theorem dm_X12_joined_90 : mj_dec prog_14_method_55_code 90 = some (.iload_n 1, 1) := by decide +kernel
theorem dm_X12_joined_91 : mj_dec prog_14_method_55_code 91 = some (.invokevirtual 134, 3) := by decide +kernel
theorem dm_X12_joined_94 : mj_dec prog_14_method_55_code 94 = some (.if_icmp .ge 13, 3) := by decide +kernel
theorem dm_X12_joined_97 : mj_dec prog_14_method_55_code 97 = some (.aload_n 0, 1) := by decide +kernel
theorem dm_X12_joined_98 : mj_dec prog_14_method_55_code 98 = some (.iload_n 1, 1) := by decide +kernel
theorem dm_X12_joined_99 : mj_dec prog_14_method_55_code 99 = some (.iload 7, 2) := by decide +kernel
theorem dm_X12_joined_101 : mj_dec prog_14_method_55_code 101 = some (.invokevirtual 217, 3) := by decide +kernel
theorem dm_X12_joined_104 : mj_dec prog_14_method_55_code 104 = some (.goto 16, 3) := by decide +kernel
theorem dm_X12_joined_107 : mj_dec prog_14_method_55_code 107 = some (.aload_n 0, 1) := by decide +kernel
theorem dm_X12_joined_108 : mj_dec prog_14_method_55_code 108 = some (.iload_n 2, 1) := by decide +kernel
theorem dm_X12_joined_109 : mj_dec prog_14_method_55_code 109 = some (.iload 7, 2) := by decide +kernel
theorem dm_X12_joined_111 : mj_dec prog_14_method_55_code 111 = some (.aload_n 0, 1) := by decide +kernel
theorem dm_X12_joined_112 : mj_dec prog_14_method_55_code 112 = some (.iload_n 1, 1) := by decide +kernel
theorem dm_X12_joined_113 : mj_dec prog_14_method_55_code 113 = some (.invokevirtual 134, 3) := by decide +kernel
theorem dm_X12_joined_116 : mj_dec prog_14_method_55_code 116 = some (.isub, 1) := by decide +kernel
theorem dm_X12_joined_117 : mj_dec prog_14_method_55_code 117 = some (.invokevirtual 217, 3) := by decide +kernel
theorem dm_X12_joined_120 : mj_dec prog_14_method_55_code 120 = some (.invokevirtual 264, 3) := by decide +kernel
theorem dm_X12_joined_123 : mj_dec prog_14_method_55_code 123 = some (.iinc 7 1, 3) := by decide +kernel
theorem dm_X12_joined_126 : mj_dec prog_14_method_55_code 126 = some (.goto (-47), 3) := by decide +kernel
theorem dm_X12_joined_129 : mj_dec prog_14_method_55_code 129 = some (.aload_n 0, 1) := by decide +kernel
theorem dm_X12_joined_130 : mj_dec prog_14_method_55_code 130 = some (.iload 6, 2) := by decide +kernel
theorem dm_X12_joined_132 : mj_dec prog_14_method_55_code 132 = some (.invokevirtual 268, 3) := by decide +kernel
theorem dm_X12_joined_135 : mj_dec prog_14_method_55_code 135 = some (.ireturn, 1) := by decide +kernel
theorem r_joinedN {base : Nat} {xt : mj_X} {d e hd hd2 q b : Nat} {pre post : mj_H} {s : RS} {v w : VV} {place : Int} (hm : pre.length = 102) (hd1 : 6 ≤ d) (hB : rB s) (hv : rv s (e + 1) hd v) (hh3 : 3 ≤ hd) (hw : rv s (e + 1) hd2 w) (hh4 : 3 ≤ hd2) (hq : s.1 4 = (q : Int)) (hb : s.1 3 = (b : Int)) (hq3 : 3 ≤ q) (hV2 : q < 310000) (he0 : s.1 5 = 0) (hca : 0 ≤ s.1 10 ∧ s.1 10 ≤ 100) (hC : b + 300 ≤ 820000) (hV3 : q + 30 < 310000) (hw13 : s.1 13 = (base : Int)) (hbs : base ≤ 7900) (hN : srtO v ≠ srtO w ∨ srtO v = 4 ∨ (srtO v = 3 ∧ vc v ≠ vc w)) : pgV xt d 259 [.ref 102, ii (hd : Int), ii (hd2 : Int), ii place] (rS pre post s) (rres pre post s (e + 2) (d_join v w) place 24 (vm v + vm w + 1)) := by
  have hB0 := hB
  obtain ⟨hB1, hB2, hB3, hB4⟩ := hB
  obtain ⟨fr, hfr, hsh, hlt, hcl, hvk, hvm, hvc, hvq, hvcl⟩ := rv_val hv
  obtain ⟨fw, hfw, hshw, hltw, hclw, hwk, hwm, hwc, hwq, hwcl⟩ := rv_val hw
  have hsv := srtO_c v hvk
  have hsw := srtO_c w hwk
  have hv1 : vk v ≤ 1 → vm v = 1 := fun z => (hv.1.2.1 z).1
  refine x_enter pm_X12_joined (L0 := [(0, .ref 102), (1, ii (hd : Int)), (2, ii (hd2 : Int)), (3, ii place)]) rfl (Nat.le_of_ble_eq_true rfl) (by omega) ?_
  have cut55 : pgE xt (d - 1) 12 10 false (Option.some Jvm.ClassFile.FieldType.int) (mj_dec prog_14_method_55_code) 55 [(0, .ref 102), (1, ii (hd : Int)), (2, ii (hd2 : Int)), (3, ii place), (5, ii ((vm v + vm w : Nat) : Int))] [] (rI pre post s.1 s.2.1 s.2.2.1 s.2.2.2) (fun r h' => ∃ x, r = some x ∧ rres pre post s (e + 2) (d_join v w) place 24 (vm v + vm w + 1) x h') := by
    refine me1 (pc' := 57) (L' := [(0, .ref 102), (1, ii (hd : Int)), (2, ii (hd2 : Int)), (3, ii place), (5, ii ((vm v + vm w : Nat) : Int))]) (S' := [ii ((vm v + vm w : Nat) : Int)]) dm_X12_joined_55 rfl rfl rfl rfl ?_
    refine me0 (pc' := 59) (S' := [ii 24, ii ((vm v + vm w : Nat) : Int)]) dm_X12_joined_57 rfl rfl rfl rfl ?_
    refine y_2le (a := ((vm v + vm w : Nat) : Int)) (b := 24) (t := 70) (pc' := 62) dm_X12_joined_59 rfl rfl (by omega) (fun hb1 => ?_) (fun hb1 => ?_)
    · refine me1 (pc' := 71) (L' := [(0, .ref 102), (1, ii (hd : Int)), (2, ii (hd2 : Int)), (3, ii place), (5, ii ((vm v + vm w : Nat) : Int))]) (S' := [.ref 102]) dm_X12_joined_70 rfl rfl rfl rfl ?_
      refine me3 (pc' := 74) (S' := [ii (s.1 13)]) dm_X12_joined_71 (q_geti (v := s.1 13) hm rfl (fun m i l => rg_13 m i l) rfl) rfl rfl rfl ?_
      refine pg_st (S' := [ii ((base : Nat) : Int)]) (congrArg (fun z => ii z :: []) (hw13)) ?_
      refine me1 (pc' := 76) (L' := [(6, ii ((base : Nat) : Int)), (0, .ref 102), (1, ii (hd : Int)), (2, ii (hd2 : Int)), (3, ii place), (5, ii ((vm v + vm w : Nat) : Int))]) (S' := []) dm_X12_joined_74 rfl rfl rfl rfl ?_
      refine me0 (pc' := 77) (S' := [ii 0]) dm_X12_joined_76 rfl rfl rfl rfl ?_
      refine me1 (pc' := 79) (L' := [(7, ii 0), (6, ii ((base : Nat) : Int)), (0, .ref 102), (1, ii (hd : Int)), (2, ii (hd2 : Int)), (3, ii place), (5, ii ((vm v + vm w : Nat) : Int))]) (S' := []) dm_X12_joined_77 rfl rfl rfl rfl ?_
      have lp79 : ∀ (n79 : Nat) (k : Nat) (t : RS), vm v + vm w - k = n79 → (k ≤ vm v + vm w) → (rpw s t base k (e + 1) (jch v w)) → (t.1 3 = (b : Int)) → ((q : Int) ≤ t.1 4 ∧ t.1 4 ≤ (q : Int) + ((k : Nat) : Int)) → pgE xt (d - 1) 12 10 false (Option.some Jvm.ClassFile.FieldType.int) (mj_dec prog_14_method_55_code) 79 [(0, .ref 102), (1, ii (hd : Int)), (2, ii (hd2 : Int)), (3, ii place), (5, ii ((vm v + vm w : Nat) : Int)), (6, ii ((base : Nat) : Int)), (7, ii ((k : Nat) : Int))] [] (rI pre post t.1 t.2.1 t.2.2.1 t.2.2.2) (fun r h' => ∃ x, r = some x ∧ rres pre post s (e + 2) (d_join v w) place 24 (vm v + vm w + 1) x h') := by
        intro n79
        induction n79 using Nat.strongRecOn with
        | ind n79 ih79 =>
          intro k t hm79 hk hpw ht3 ht4
          obtain ⟨qt, hqt⟩ : ∃ qt : Nat, t.1 4 = (qt : Int) := ⟨(t.1 4).toNat, by omega⟩
          have hBt : rB t := ⟨by omega, by omega, by omega, by omega⟩
          have he0t : t.1 5 = 0 := hpw.2.2.2.2.2.2.2.1.trans he0
          have h10t : t.1 10 = s.1 10 := hpw.2.1 10 (by decide) (by decide) (by decide) (by decide) (by decide) (by decide)
          have hvt := rv_ext hpw.1 hh3 hv
          have hwt := rv_ext hpw.1 hh4 hw
          refine me1 (pc' := 81) (L' := [(0, .ref 102), (1, ii (hd : Int)), (2, ii (hd2 : Int)), (3, ii place), (5, ii ((vm v + vm w : Nat) : Int)), (6, ii ((base : Nat) : Int)), (7, ii ((k : Nat) : Int))]) (S' := [ii ((k : Nat) : Int)]) dm_X12_joined_79 rfl rfl rfl rfl ?_
          refine me1 (pc' := 83) (L' := [(0, .ref 102), (1, ii (hd : Int)), (2, ii (hd2 : Int)), (3, ii place), (5, ii ((vm v + vm w : Nat) : Int)), (6, ii ((base : Nat) : Int)), (7, ii ((k : Nat) : Int))]) (S' := [ii ((vm v + vm w : Nat) : Int), ii ((k : Nat) : Int)]) dm_X12_joined_81 rfl rfl rfl rfl ?_
          refine y_2ge (a := ((k : Nat) : Int)) (b := ((vm v + vm w : Nat) : Int)) (t := 129) (pc' := 86) dm_X12_joined_83 rfl rfl (by omega) (fun hb2 => ?_) (fun hb2 => ?_)
          · refine me1 (pc' := 130) (L' := [(0, .ref 102), (1, ii (hd : Int)), (2, ii (hd2 : Int)), (3, ii place), (5, ii ((vm v + vm w : Nat) : Int)), (6, ii ((base : Nat) : Int)), (7, ii ((k : Nat) : Int))]) (S' := [.ref 102]) dm_X12_joined_129 rfl rfl rfl rfl ?_
            refine me1 (pc' := 132) (L' := [(0, .ref 102), (1, ii (hd : Int)), (2, ii (hd2 : Int)), (3, ii place), (5, ii ((vm v + vm w : Nat) : Int)), (6, ii ((base : Nat) : Int)), (7, ii ((k : Nat) : Int))]) (S' := [ii ((base : Nat) : Int), .ref 102]) dm_X12_joined_130 rfl rfl rfl rfl ?_
            have hkn : k = vm v + vm w := by omega
            rw [hkn] at hpw
            refine x_cv (pc' := 135) (rest := []) dm_X12_joined_132 rfl (q_inv (As := [ii ((base : Nat) : Int)]) (S := []) hm rfl rfl rfl) rfl rfl rfl (r_nest_ (s := t) (q := qt) (b := b) (n := vm v + vm w) (base := base) hm (by omega) hqt ht3 (by omega) (by omega) he0t (by omega) (by omega) hpw.2.2.1 (by omega) (rpw_O hpw (by omega))) ?_
            rintro _ _ ⟨rfl, rfl⟩
            refine y_ret (r := some (ii (qt : Int))) dm_X12_joined_135 rfl rfl rfl ?_
            rw [show d_join v w = .inr (vnest (vm v + vm w) (jch v w)) by unfold d_join; rw [if_neg (show ¬ jflat v w by unfold jflat ofN ofS; omega), if_neg (by omega), if_neg (by omega)]]
            exact ⟨_, rfl, rpw_nest hpw hw13 he0 hqt (by omega) ht3 (by omega) (by omega) (by omega) (by omega)⟩
          · refine me1 (pc' := 87) (L' := [(0, .ref 102), (1, ii (hd : Int)), (2, ii (hd2 : Int)), (3, ii place), (5, ii ((vm v + vm w : Nat) : Int)), (6, ii ((base : Nat) : Int)), (7, ii ((k : Nat) : Int))]) (S' := [.ref 102]) dm_X12_joined_86 rfl rfl rfl rfl ?_
            refine me1 (pc' := 89) (L' := [(0, .ref 102), (1, ii (hd : Int)), (2, ii (hd2 : Int)), (3, ii place), (5, ii ((vm v + vm w : Nat) : Int)), (6, ii ((base : Nat) : Int)), (7, ii ((k : Nat) : Int))]) (S' := [ii ((k : Nat) : Int), .ref 102]) dm_X12_joined_87 rfl rfl rfl rfl ?_
            refine me1 (pc' := 90) (L' := [(0, .ref 102), (1, ii (hd : Int)), (2, ii (hd2 : Int)), (3, ii place), (5, ii ((vm v + vm w : Nat) : Int)), (6, ii ((base : Nat) : Int)), (7, ii ((k : Nat) : Int))]) (S' := [.ref 102, ii ((k : Nat) : Int), .ref 102]) dm_X12_joined_89 rfl rfl rfl rfl ?_
            refine me1 (pc' := 91) (L' := [(0, .ref 102), (1, ii (hd : Int)), (2, ii (hd2 : Int)), (3, ii place), (5, ii ((vm v + vm w : Nat) : Int)), (6, ii ((base : Nat) : Int)), (7, ii ((k : Nat) : Int))]) (S' := [ii (hd : Int), .ref 102, ii ((k : Nat) : Int), .ref 102]) dm_X12_joined_90 rfl rfl rfl rfl ?_
            refine x_cp (pc' := 94) (v := ii (vm v : Int)) (rest := [ii ((k : Nat) : Int), .ref 102]) dm_X12_joined_91 rfl (q_inv (As := [ii (hd : Int)]) (S := [ii ((k : Nat) : Int), .ref 102]) hm rfl rfl rfl) rfl rfl rfl (r_many_ hm (by omega) hBt hvt) ?_
            refine y_2ge (a := ((k : Nat) : Int)) (b := (vm v : Int)) (t := 107) (pc' := 97) dm_X12_joined_94 rfl rfl (by omega) (fun hb3 => ?_) (fun hb3 => ?_)
            · refine me1 (pc' := 108) (L' := [(0, .ref 102), (1, ii (hd : Int)), (2, ii (hd2 : Int)), (3, ii place), (5, ii ((vm v + vm w : Nat) : Int)), (6, ii ((base : Nat) : Int)), (7, ii ((k : Nat) : Int))]) (S' := [.ref 102, .ref 102]) dm_X12_joined_107 rfl rfl rfl rfl ?_
              refine me1 (pc' := 109) (L' := [(0, .ref 102), (1, ii (hd : Int)), (2, ii (hd2 : Int)), (3, ii place), (5, ii ((vm v + vm w : Nat) : Int)), (6, ii ((base : Nat) : Int)), (7, ii ((k : Nat) : Int))]) (S' := [ii (hd2 : Int), .ref 102, .ref 102]) dm_X12_joined_108 rfl rfl rfl rfl ?_
              refine me1 (pc' := 111) (L' := [(0, .ref 102), (1, ii (hd : Int)), (2, ii (hd2 : Int)), (3, ii place), (5, ii ((vm v + vm w : Nat) : Int)), (6, ii ((base : Nat) : Int)), (7, ii ((k : Nat) : Int))]) (S' := [ii ((k : Nat) : Int), ii (hd2 : Int), .ref 102, .ref 102]) dm_X12_joined_109 rfl rfl rfl rfl ?_
              refine me1 (pc' := 112) (L' := [(0, .ref 102), (1, ii (hd : Int)), (2, ii (hd2 : Int)), (3, ii place), (5, ii ((vm v + vm w : Nat) : Int)), (6, ii ((base : Nat) : Int)), (7, ii ((k : Nat) : Int))]) (S' := [.ref 102, ii ((k : Nat) : Int), ii (hd2 : Int), .ref 102, .ref 102]) dm_X12_joined_111 rfl rfl rfl rfl ?_
              refine me1 (pc' := 113) (L' := [(0, .ref 102), (1, ii (hd : Int)), (2, ii (hd2 : Int)), (3, ii place), (5, ii ((vm v + vm w : Nat) : Int)), (6, ii ((base : Nat) : Int)), (7, ii ((k : Nat) : Int))]) (S' := [ii (hd : Int), .ref 102, ii ((k : Nat) : Int), ii (hd2 : Int), .ref 102, .ref 102]) dm_X12_joined_112 rfl rfl rfl rfl ?_
              refine x_cp (pc' := 116) (v := ii (vm v : Int)) (rest := [ii ((k : Nat) : Int), ii (hd2 : Int), .ref 102, .ref 102]) dm_X12_joined_113 rfl (q_inv (As := [ii (hd : Int)]) (S := [ii ((k : Nat) : Int), ii (hd2 : Int), .ref 102, .ref 102]) hm rfl rfl rfl) rfl rfl rfl (r_many_ hm (by omega) hBt hvt) ?_
              refine y_isub (a := ((k : Nat) : Int)) (b := (vm v : Int)) dm_X12_joined_116 (pc' := 117) rfl ?_
              refine pg_st (S' := [ii ((k - vm v : Nat) : Int), ii (hd2 : Int), .ref 102, .ref 102]) (congrArg (fun z => ii z :: [ii (hd2 : Int), .ref 102, .ref 102]) (by omega)) ?_
              have hjk : jch v w k = vit w (k - vm v) := jch_r (by omega)
              refine x_cv (pc' := 120) (rest := [.ref 102]) dm_X12_joined_117 rfl (q_inv (As := [ii (hd2 : Int), ii ((k - vm v : Nat) : Int)]) (S := [.ref 102]) hm rfl rfl rfl) rfl rfl rfl (r_itemOf_ (s := t) (q := qt) (b := b) (place := place) (k := k - vm v) hm (by omega) hBt hwt hh4 hqt ht3 (by omega) (by omega) he0t (by rw [h10t]; exact hca) hC (by omega) (by omega)) ?_
              rintro _ _ ⟨t1, rfl, r1, r2, r3, r4, r5, r6, p1, r7, rfl, r8⟩
              have r3o := rcb_w r3
              have r4o := rvb_w r4
              refine x_cn (pc' := 123) (rest := []) dm_X12_joined_120 rfl (q_inv (As := [ii (p1 : Int)]) (S := []) hm rfl rfl rfl) rfl rfl rfl (r_push_ (s := t1) (n := base + k) hm (by omega) ((r2.1 13 (by decide) (by decide) (by decide) (by decide) (by decide)).trans hpw.2.2.1) (by omega)) ?_
              rintro _ rfl
              refine y_iinc (pc' := 126) (L' := [(7, ii (((k : Nat) : Int) + 1)), (0, .ref 102), (1, ii (hd : Int)), (2, ii (hd2 : Int)), (3, ii place), (5, ii ((vm v + vm w : Nat) : Int)), (6, ii ((base : Nat) : Int))]) dm_X12_joined_123 (y_incp (a := ((k : Nat) : Int)) (c := 1) rfl rfl (by decide)) rfl ?_
              refine me2 (pc' := 79) (S' := []) dm_X12_joined_126 rfl rfl rfl ?_
              exact pg_sub (L := [(0, .ref 102), (1, ii (hd : Int)), (2, ii (hd2 : Int)), (3, ii place), (5, ii ((vm v + vm w : Nat) : Int)), (6, ii ((base : Nat) : Int)), (7, ii (((k + 1) : Nat) : Int))]) rfl rfl rfl (ih79 (vm v + vm w - (k + 1)) (by omega) (k + 1) (pushS t1 (base + k) (p1 : Int)) rfl (by omega) (rpw_push (rpw_fr hpw r1 r2 (r5.trans he0t.symm) r6) r7 (by rw [hjk]; exact r8)) (show t1.1 3 = _ by have := r1.2.1; omega) (show (q : Int) ≤ t1.1 4 ∧ t1.1 4 ≤ _ by have := r1.1; omega))
            · refine me1 (pc' := 98) (L' := [(0, .ref 102), (1, ii (hd : Int)), (2, ii (hd2 : Int)), (3, ii place), (5, ii ((vm v + vm w : Nat) : Int)), (6, ii ((base : Nat) : Int)), (7, ii ((k : Nat) : Int))]) (S' := [.ref 102, .ref 102]) dm_X12_joined_97 rfl rfl rfl rfl ?_
              refine me1 (pc' := 99) (L' := [(0, .ref 102), (1, ii (hd : Int)), (2, ii (hd2 : Int)), (3, ii place), (5, ii ((vm v + vm w : Nat) : Int)), (6, ii ((base : Nat) : Int)), (7, ii ((k : Nat) : Int))]) (S' := [ii (hd : Int), .ref 102, .ref 102]) dm_X12_joined_98 rfl rfl rfl rfl ?_
              refine me1 (pc' := 101) (L' := [(0, .ref 102), (1, ii (hd : Int)), (2, ii (hd2 : Int)), (3, ii place), (5, ii ((vm v + vm w : Nat) : Int)), (6, ii ((base : Nat) : Int)), (7, ii ((k : Nat) : Int))]) (S' := [ii ((k : Nat) : Int), ii (hd : Int), .ref 102, .ref 102]) dm_X12_joined_99 rfl rfl rfl rfl ?_
              have hjk : jch v w k = vit v k := jch_l (by omega)
              refine x_cv (pc' := 104) (rest := [.ref 102]) dm_X12_joined_101 rfl (q_inv (As := [ii (hd : Int), ii ((k : Nat) : Int)]) (S := [.ref 102]) hm rfl rfl rfl) rfl rfl rfl (r_itemOf_ (s := t) (q := qt) (b := b) (place := place) (k := k) hm (by omega) hBt hvt hh3 hqt ht3 (by omega) (by omega) he0t (by rw [h10t]; exact hca) hC (by omega) (by omega)) ?_
              rintro _ _ ⟨t1, rfl, r1, r2, r3, r4, r5, r6, p1, r7, rfl, r8⟩
              have r3o := rcb_w r3
              have r4o := rvb_w r4
              refine me2 (pc' := 120) (S' := [ii (p1 : Int), .ref 102]) dm_X12_joined_104 rfl rfl rfl ?_
              refine x_cn (pc' := 123) (rest := []) dm_X12_joined_120 rfl (q_inv (As := [ii (p1 : Int)]) (S := []) hm rfl rfl rfl) rfl rfl rfl (r_push_ (s := t1) (n := base + k) hm (by omega) ((r2.1 13 (by decide) (by decide) (by decide) (by decide) (by decide)).trans hpw.2.2.1) (by omega)) ?_
              rintro _ rfl
              refine y_iinc (pc' := 126) (L' := [(7, ii (((k : Nat) : Int) + 1)), (0, .ref 102), (1, ii (hd : Int)), (2, ii (hd2 : Int)), (3, ii place), (5, ii ((vm v + vm w : Nat) : Int)), (6, ii ((base : Nat) : Int))]) dm_X12_joined_123 (y_incp (a := ((k : Nat) : Int)) (c := 1) rfl rfl (by decide)) rfl ?_
              refine me2 (pc' := 79) (S' := []) dm_X12_joined_126 rfl rfl rfl ?_
              exact pg_sub (L := [(0, .ref 102), (1, ii (hd : Int)), (2, ii (hd2 : Int)), (3, ii place), (5, ii ((vm v + vm w : Nat) : Int)), (6, ii ((base : Nat) : Int)), (7, ii (((k + 1) : Nat) : Int))]) rfl rfl rfl (ih79 (vm v + vm w - (k + 1)) (by omega) (k + 1) (pushS t1 (base + k) (p1 : Int)) rfl (by omega) (rpw_push (rpw_fr hpw r1 r2 (r5.trans he0t.symm) r6) r7 (by rw [hjk]; exact r8)) (show t1.1 3 = _ by have := r1.2.1; omega) (show (q : Int) ≤ t1.1 4 ∧ t1.1 4 ≤ _ by have := r1.1; omega))
      exact pg_sub (L := [(0, .ref 102), (1, ii (hd : Int)), (2, ii (hd2 : Int)), (3, ii place), (5, ii ((vm v + vm w : Nat) : Int)), (6, ii ((base : Nat) : Int)), (7, ii ((0 : Nat) : Int))]) rfl rfl rfl (lp79 _ 0 s rfl (Nat.zero_le _) (rpw_0 hw13) hb (by omega))
    · refine me1 (pc' := 63) (L' := [(0, .ref 102), (1, ii (hd : Int)), (2, ii (hd2 : Int)), (3, ii place), (5, ii ((vm v + vm w : Nat) : Int))]) (S' := [.ref 102]) dm_X12_joined_62 rfl rfl rfl rfl ?_
      refine me0 (pc' := 65) (S' := [ii 8, .ref 102]) dm_X12_joined_63 rfl rfl rfl rfl ?_
      refine me1 (pc' := 66) (L' := [(0, .ref 102), (1, ii (hd : Int)), (2, ii (hd2 : Int)), (3, ii place), (5, ii ((vm v + vm w : Nat) : Int))]) (S' := [ii place, ii 8, .ref 102]) dm_X12_joined_65 rfl rfl rfl rfl ?_
      refine x_cv (pc' := 69) (rest := []) dm_X12_joined_66 rfl (q_inv (As := [ii 8, ii place]) (S := []) hm rfl rfl rfl) rfl rfl rfl (r_fail_ (s := s) hm (by omega) he0 hca.1 hca.2) ?_
      rintro _ _ ⟨rfl, rfl⟩
      refine y_ret (r := some (ii (-1))) dm_X12_joined_69 rfl rfl rfl ?_
      rw [show d_join v w = .inl 8 by unfold d_join; rw [if_neg (show ¬ jflat v w by unfold jflat ofN ofS; omega), if_neg (by omega), if_pos (by omega)]]
      exact ⟨_, rfl, rres_fail (rpre_rf s) he0⟩
  refine me1 (pc' := 1) (L' := [(0, .ref 102), (1, ii (hd : Int)), (2, ii (hd2 : Int)), (3, ii place)]) (S' := [.ref 102]) dm_X12_joined_0 rfl rfl rfl rfl ?_
  refine me1 (pc' := 2) (L' := [(0, .ref 102), (1, ii (hd : Int)), (2, ii (hd2 : Int)), (3, ii place)]) (S' := [ii (hd : Int), .ref 102]) dm_X12_joined_1 rfl rfl rfl rfl ?_
  refine x_cp (pc' := 5) (v := ii ((srtO v : Nat) : Int)) (rest := []) dm_X12_joined_2 rfl (q_inv (As := [ii (hd : Int)]) (S := []) hm rfl rfl rfl) rfl rfl rfl (r_sortOf_ hm (by omega) hB0 hv) ?_
  refine me1 (pc' := 7) (L' := [(4, ii ((srtO v : Nat) : Int)), (0, .ref 102), (1, ii (hd : Int)), (2, ii (hd2 : Int)), (3, ii place)]) (S' := []) dm_X12_joined_5 rfl rfl rfl rfl ?_
  refine me1 (pc' := 8) (L' := [(4, ii ((srtO v : Nat) : Int)), (0, .ref 102), (1, ii (hd : Int)), (2, ii (hd2 : Int)), (3, ii place)]) (S' := [.ref 102]) dm_X12_joined_7 rfl rfl rfl rfl ?_
  refine me1 (pc' := 9) (L' := [(4, ii ((srtO v : Nat) : Int)), (0, .ref 102), (1, ii (hd : Int)), (2, ii (hd2 : Int)), (3, ii place)]) (S' := [ii (hd : Int), .ref 102]) dm_X12_joined_8 rfl rfl rfl rfl ?_
  refine x_cp (pc' := 12) (v := ii (vm v : Int)) (rest := []) dm_X12_joined_9 rfl (q_inv (As := [ii (hd : Int)]) (S := []) hm rfl rfl rfl) rfl rfl rfl (r_many_ hm (by omega) hB0 hv) ?_
  refine me1 (pc' := 13) (L' := [(4, ii ((srtO v : Nat) : Int)), (0, .ref 102), (1, ii (hd : Int)), (2, ii (hd2 : Int)), (3, ii place)]) (S' := [.ref 102, ii (vm v : Int)]) dm_X12_joined_12 rfl rfl rfl rfl ?_
  refine me1 (pc' := 14) (L' := [(4, ii ((srtO v : Nat) : Int)), (0, .ref 102), (1, ii (hd : Int)), (2, ii (hd2 : Int)), (3, ii place)]) (S' := [ii (hd2 : Int), .ref 102, ii (vm v : Int)]) dm_X12_joined_13 rfl rfl rfl rfl ?_
  refine x_cp (pc' := 17) (v := ii (vm w : Int)) (rest := [ii (vm v : Int)]) dm_X12_joined_14 rfl (q_inv (As := [ii (hd2 : Int)]) (S := [ii (vm v : Int)]) hm rfl rfl rfl) rfl rfl rfl (r_many_ hm (by omega) hB0 hw) ?_
  refine y_iadd (a := (vm v : Int)) (b := (vm w : Int)) dm_X12_joined_17 (pc' := 18) rfl ?_
  refine pg_st (S' := [ii ((vm v + vm w : Nat) : Int)]) (congrArg (fun z => ii z :: []) (by omega)) ?_
  refine me1 (pc' := 20) (L' := [(5, ii ((vm v + vm w : Nat) : Int)), (4, ii ((srtO v : Nat) : Int)), (0, .ref 102), (1, ii (hd : Int)), (2, ii (hd2 : Int)), (3, ii place)]) (S' := []) dm_X12_joined_18 rfl rfl rfl rfl ?_
  refine me1 (pc' := 22) (L' := [(5, ii ((vm v + vm w : Nat) : Int)), (4, ii ((srtO v : Nat) : Int)), (0, .ref 102), (1, ii (hd : Int)), (2, ii (hd2 : Int)), (3, ii place)]) (S' := [ii ((srtO v : Nat) : Int)]) dm_X12_joined_20 rfl rfl rfl rfl ?_
  refine me1 (pc' := 23) (L' := [(5, ii ((vm v + vm w : Nat) : Int)), (4, ii ((srtO v : Nat) : Int)), (0, .ref 102), (1, ii (hd : Int)), (2, ii (hd2 : Int)), (3, ii place)]) (S' := [.ref 102, ii ((srtO v : Nat) : Int)]) dm_X12_joined_22 rfl rfl rfl rfl ?_
  refine me1 (pc' := 24) (L' := [(5, ii ((vm v + vm w : Nat) : Int)), (4, ii ((srtO v : Nat) : Int)), (0, .ref 102), (1, ii (hd : Int)), (2, ii (hd2 : Int)), (3, ii place)]) (S' := [ii (hd2 : Int), .ref 102, ii ((srtO v : Nat) : Int)]) dm_X12_joined_23 rfl rfl rfl rfl ?_
  refine x_cp (pc' := 27) (v := ii ((srtO w : Nat) : Int)) (rest := [ii ((srtO v : Nat) : Int)]) dm_X12_joined_24 rfl (q_inv (As := [ii (hd2 : Int)]) (S := [ii ((srtO v : Nat) : Int)]) hm rfl rfl rfl) rfl rfl rfl (r_sortOf_ hm (by omega) hB0 hw) ?_
  refine y_2ne (a := ((srtO v : Nat) : Int)) (b := ((srtO w : Nat) : Int)) (t := 55) (pc' := 30) dm_X12_joined_27 rfl rfl (by omega) (fun hb4 => ?_) (fun hb4 => ?_)
  · exact pg_sub (L := [(0, .ref 102), (1, ii (hd : Int)), (2, ii (hd2 : Int)), (3, ii place), (5, ii ((vm v + vm w : Nat) : Int))]) rfl rfl rfl (cut55 )
  · refine me1 (pc' := 32) (L' := [(5, ii ((vm v + vm w : Nat) : Int)), (4, ii ((srtO v : Nat) : Int)), (0, .ref 102), (1, ii (hd : Int)), (2, ii (hd2 : Int)), (3, ii place)]) (S' := [ii ((srtO v : Nat) : Int)]) dm_X12_joined_30 rfl rfl rfl rfl ?_
    refine me0 (pc' := 33) (S' := [ii 4, ii ((srtO v : Nat) : Int)]) dm_X12_joined_32 rfl rfl rfl rfl ?_
    refine y_2eq (a := ((srtO v : Nat) : Int)) (b := 4) (t := 55) (pc' := 36) dm_X12_joined_33 rfl rfl (by omega) (fun hb5 => ?_) (fun hb5 => ?_)
    · exact pg_sub (L := [(0, .ref 102), (1, ii (hd : Int)), (2, ii (hd2 : Int)), (3, ii place), (5, ii ((vm v + vm w : Nat) : Int))]) rfl rfl rfl (cut55 )
    · refine me1 (pc' := 38) (L' := [(5, ii ((vm v + vm w : Nat) : Int)), (4, ii ((srtO v : Nat) : Int)), (0, .ref 102), (1, ii (hd : Int)), (2, ii (hd2 : Int)), (3, ii place)]) (S' := [ii ((srtO v : Nat) : Int)]) dm_X12_joined_36 rfl rfl rfl rfl ?_
      refine me0 (pc' := 39) (S' := [ii 3, ii ((srtO v : Nat) : Int)]) dm_X12_joined_38 rfl rfl rfl rfl ?_
      refine y_2ne (a := ((srtO v : Nat) : Int)) (b := 3) (t := 136) (pc' := 42) dm_X12_joined_39 rfl rfl (by omega) (fun hb6 => ?_) (fun hb6 => ?_)
      · exfalso; omega
      · refine me1 (pc' := 43) (L' := [(5, ii ((vm v + vm w : Nat) : Int)), (4, ii ((srtO v : Nat) : Int)), (0, .ref 102), (1, ii (hd : Int)), (2, ii (hd2 : Int)), (3, ii place)]) (S' := [.ref 102]) dm_X12_joined_42 rfl rfl rfl rfl ?_
        refine me1 (pc' := 44) (L' := [(5, ii ((vm v + vm w : Nat) : Int)), (4, ii ((srtO v : Nat) : Int)), (0, .ref 102), (1, ii (hd : Int)), (2, ii (hd2 : Int)), (3, ii place)]) (S' := [ii (hd : Int), .ref 102]) dm_X12_joined_43 rfl rfl rfl rfl ?_
        refine x_cp (pc' := 47) (v := ii (vc v : Int)) (rest := []) dm_X12_joined_44 rfl (q_inv (As := [ii (hd : Int)]) (S := []) hm rfl rfl rfl) rfl rfl rfl (r_columns_ hm (by omega) hB0 hv) ?_
        refine me1 (pc' := 48) (L' := [(5, ii ((vm v + vm w : Nat) : Int)), (4, ii ((srtO v : Nat) : Int)), (0, .ref 102), (1, ii (hd : Int)), (2, ii (hd2 : Int)), (3, ii place)]) (S' := [.ref 102, ii (vc v : Int)]) dm_X12_joined_47 rfl rfl rfl rfl ?_
        refine me1 (pc' := 49) (L' := [(5, ii ((vm v + vm w : Nat) : Int)), (4, ii ((srtO v : Nat) : Int)), (0, .ref 102), (1, ii (hd : Int)), (2, ii (hd2 : Int)), (3, ii place)]) (S' := [ii (hd2 : Int), .ref 102, ii (vc v : Int)]) dm_X12_joined_48 rfl rfl rfl rfl ?_
        refine x_cp (pc' := 52) (v := ii (vc w : Int)) (rest := [ii (vc v : Int)]) dm_X12_joined_49 rfl (q_inv (As := [ii (hd2 : Int)]) (S := [ii (vc v : Int)]) hm rfl rfl rfl) rfl rfl rfl (r_columns_ hm (by omega) hB0 hw) ?_
        refine y_2eq (a := (vc v : Int)) (b := (vc w : Int)) (t := 136) (pc' := 55) dm_X12_joined_52 rfl rfl (by omega) (fun hb7 => ?_) (fun hb7 => ?_)
        · exfalso; omega
        · exact pg_sub (L := [(0, .ref 102), (1, ii (hd : Int)), (2, ii (hd2 : Int)), (3, ii place), (5, ii ((vm v + vm w : Nat) : Int))]) rfl rfl rfl (cut55 )
