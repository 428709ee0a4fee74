/-! the reference: back -/
theorem up4 {α : Type} {f : Nat → α} {a b : Nat} {x y x' y' : α} (h : a ≠ b) : va_up (va_up (va_up (va_up f a x) b y) a x') b y' = va_up (va_up f a x') b y' := funext fun z => by
  by_cases h1 : z = b
  · rw [h1, up_eq, up_eq]
  · rw [up_ne _ _ h1, up_ne _ _ h1]
    by_cases h2 : z = a
    · rw [h2, up_eq, up_eq]
    · rw [up_ne _ _ h2, up_ne _ _ h2, up_ne _ _ h1, up_ne _ _ h2]
theorem bkS_s {s : RS} {k i : Nat} : ((bkS s k i).1, (bkS s k i).2.1, va_up (va_up (bkS s k i).2.2.1 21 (va_up ((bkS s k i).2.2.1 21) i ((bkS s k i).2.2.1 26 (80 * k + i)))) 22 (va_up ((bkS s k i).2.2.1 22) i ((bkS s k i).2.2.1 26 (80 * k + 40 + i))), va_up (va_up (bkS s k i).2.2.2 19 (va_up ((bkS s k i).2.2.2 19) i ((bkS s k i).2.2.2 25 (80 * k + i)))) 20 (va_up ((bkS s k i).2.2.2 20) i ((bkS s k i).2.2.2 25 (80 * k + 40 + i)))) = bkS s k (i + 1) := by
  have e21 : (bkS s k i).2.2.1 21 = bkF (s.2.2.1 21) (s.2.2.1 26) (80 * k) i := by simp [bkS, va_up]
  have e22 : (bkS s k i).2.2.1 22 = bkF (s.2.2.1 22) (s.2.2.1 26) (80 * k + 40) i := by simp [bkS, va_up]
  have e26 : (bkS s k i).2.2.1 26 = s.2.2.1 26 := by simp [bkS, va_up]
  have e19 : (bkS s k i).2.2.2 19 = bkF (s.2.2.2 19) (s.2.2.2 25) (80 * k) i := by simp [bkS, va_up]
  have e20 : (bkS s k i).2.2.2 20 = bkF (s.2.2.2 20) (s.2.2.2 25) (80 * k + 40) i := by simp [bkS, va_up]
  have e25 : (bkS s k i).2.2.2 25 = s.2.2.2 25 := by simp [bkS, va_up]
  rw [e21, e22, e26, e19, e20, e25, bkF_s, bkF_s, bkF_s, bkF_s]
  unfold bkS
  show (va_up (va_up s.1 23 (s.2.2.1 27 k)) 24 (s.2.2.1 28 k), s.2.1, va_up (va_up (va_up (va_up s.2.2.1 21 (bkF (s.2.2.1 21) (s.2.2.1 26) (80 * k) i)) 22 (bkF (s.2.2.1 22) (s.2.2.1 26) (80 * k + 40) i)) 21 (bkF (s.2.2.1 21) (s.2.2.1 26) (80 * k) (i + 1))) 22 (bkF (s.2.2.1 22) (s.2.2.1 26) (80 * k + 40) (i + 1)), va_up (va_up (va_up (va_up s.2.2.2 19 (bkF (s.2.2.2 19) (s.2.2.2 25) (80 * k) i)) 20 (bkF (s.2.2.2 20) (s.2.2.2 25) (80 * k + 40) i)) 19 (bkF (s.2.2.2 19) (s.2.2.2 25) (80 * k) (i + 1))) 20 (bkF (s.2.2.2 20) (s.2.2.2 25) (80 * k + 40) (i + 1))) = _
  rw [up4 (by decide), up4 (by decide)]
/-- what the class's item answers -/
theorem itN_q {v : VV} : itN v = vq v := by
  by_cases h7 : vk v = 7
  · simp [itN, vq, h7]
  · by_cases h6 : vk v = 6
    · simp [itN, vq, h6]
    · simp [itN, vq, h7, h6]
theorem itF_c {v : VV} {k : Int} (hw : vw1 v) : (if vk v ≤ 1 then (if k = 0 then cnum v else Int64.ofInt 0) else vnum v k) = itF v k := by
  unfold itF
  rw [itN_q]
  by_cases h1 : vk v ≤ 1
  · rw [if_pos h1, vq_1 hw h1]
    by_cases hk : k = 0
    · rw [if_pos hk, if_pos (by omega), hk]
      unfold cnum
      rw [if_pos h1]
      rfl
    · rw [if_neg hk, if_neg (by omega)]
  · rw [if_neg h1]
    unfold vnum
    rw [if_neg h1]
    rfl
theorem dm_X12_back_20 : mj_dec prog_14_method_120_code 20 = some (.aload_n 0, 1) := by decide +kernel
theorem dm_X12_back_21 : mj_dec prog_14_method_120_code 21 = some (.aload_n 0, 1) := by decide +kernel
theorem dm_X12_back_22 : mj_dec prog_14_method_120_code 22 = some (.getfield 61, 3) := by decide +kernel
theorem dm_X12_back_25 : mj_dec prog_14_method_120_code 25 = some (.iload_n 1, 1) := by decide +kernel
theorem dm_X12_back_26 : mj_dec prog_14_method_120_code 26 = some (.iaload, 1) := by decide +kernel
theorem dm_X12_back_27 : mj_dec prog_14_method_120_code 27 = some (.putfield 357, 3) := by decide +kernel
theorem dm_X12_back_30 : mj_dec prog_14_method_120_code 30 = some (.aload_n 0, 1) := by decide +kernel
theorem dm_X12_back_31 : mj_dec prog_14_method_120_code 31 = some (.aload_n 0, 1) := by decide +kernel
theorem dm_X12_back_32 : mj_dec prog_14_method_120_code 32 = some (.getfield 64, 3) := by decide +kernel
theorem dm_X12_back_35 : mj_dec prog_14_method_120_code 35 = some (.iload_n 1, 1) := by decide +kernel
theorem dm_X12_back_36 : mj_dec prog_14_method_120_code 36 = some (.iaload, 1) := by decide +kernel
theorem dm_X12_back_37 : mj_dec prog_14_method_120_code 37 = some (.putfield 360, 3) := by decide +kernel
theorem dm_X12_back_40 : mj_dec prog_14_method_120_code 40 = some (.iconst 0, 1) := by decide +kernel
theorem dm_X12_back_41 : mj_dec prog_14_method_120_code 41 = some (.istore_n 2, 1) := by decide +kernel
theorem dm_X12_back_42 : mj_dec prog_14_method_120_code 42 = some (.iload_n 2, 1) := by decide +kernel
theorem dm_X12_back_43 : mj_dec prog_14_method_120_code 43 = some (.bipush 40, 2) := by decide +kernel
theorem dm_X12_back_45 : mj_dec prog_14_method_120_code 45 = some (.if_icmp .ge 83, 3) := by decide +kernel
theorem dm_X12_back_48 : mj_dec prog_14_method_120_code 48 = some (.aload_n 0, 1) := by decide +kernel
theorem dm_X12_back_49 : mj_dec prog_14_method_120_code 49 = some (.getfield 43, 3) := by decide +kernel
theorem dm_X12_back_52 : mj_dec prog_14_method_120_code 52 = some (.iload_n 2, 1) := by decide +kernel
theorem dm_X12_back_53 : mj_dec prog_14_method_120_code 53 = some (.aload_n 0, 1) := by decide +kernel
theorem dm_X12_back_54 : mj_dec prog_14_method_120_code 54 = some (.getfield 55, 3) := by decide +kernel
theorem dm_X12_back_57 : mj_dec prog_14_method_120_code 57 = some (.bipush 80, 2) := by decide +kernel
theorem dm_X12_back_59 : mj_dec prog_14_method_120_code 59 = some (.iload_n 1, 1) := by decide +kernel
theorem dm_X12_back_60 : mj_dec prog_14_method_120_code 60 = some (.imul, 1) := by decide +kernel
theorem dm_X12_back_61 : mj_dec prog_14_method_120_code 61 = some (.iload_n 2, 1) := by decide +kernel
theorem dm_X12_back_62 : mj_dec prog_14_method_120_code 62 = some (.iadd, 1) := by decide +kernel
theorem dm_X12_back_63 : mj_dec prog_14_method_120_code 63 = some (.laload, 1) := by decide +kernel
theorem dm_X12_back_64 : mj_dec prog_14_method_120_code 64 = some (.lastore, 1) := by decide +kernel
theorem dm_X12_back_65 : mj_dec prog_14_method_120_code 65 = some (.aload_n 0, 1) := by decide +kernel
theorem dm_X12_back_66 : mj_dec prog_14_method_120_code 66 = some (.getfield 49, 3) := by decide +kernel
theorem dm_X12_back_69 : mj_dec prog_14_method_120_code 69 = some (.iload_n 2, 1) := by decide +kernel
theorem dm_X12_back_70 : mj_dec prog_14_method_120_code 70 = some (.aload_n 0, 1) := by decide +kernel
theorem dm_X12_back_71 : mj_dec prog_14_method_120_code 71 = some (.getfield 58, 3) := by decide +kernel
theorem dm_X12_back_74 : mj_dec prog_14_method_120_code 74 = some (.bipush 80, 2) := by decide +kernel
theorem dm_X12_back_76 : mj_dec prog_14_method_120_code 76 = some (.iload_n 1, 1) := by decide +kernel
theorem dm_X12_back_77 : mj_dec prog_14_method_120_code 77 = some (.imul, 1) := by decide +kernel
theorem dm_X12_back_78 : mj_dec prog_14_method_120_code 78 = some (.iload_n 2, 1) := by decide +kernel
theorem dm_X12_back_79 : mj_dec prog_14_method_120_code 79 = some (.iadd, 1) := by decide +kernel
theorem dm_X12_back_80 : mj_dec prog_14_method_120_code 80 = some (.iaload, 1) := by decide +kernel
theorem dm_X12_back_81 : mj_dec prog_14_method_120_code 81 = some (.iastore, 1) := by decide +kernel
theorem dm_X12_back_82 : mj_dec prog_14_method_120_code 82 = some (.aload_n 0, 1) := by decide +kernel
theorem dm_X12_back_83 : mj_dec prog_14_method_120_code 83 = some (.getfield 46, 3) := by decide +kernel
theorem dm_X12_back_86 : mj_dec prog_14_method_120_code 86 = some (.iload_n 2, 1) := by decide +kernel
theorem dm_X12_back_87 : mj_dec prog_14_method_120_code 87 = some (.aload_n 0, 1) := by decide +kernel
theorem dm_X12_back_88 : mj_dec prog_14_method_120_code 88 = some (.getfield 55, 3) := by decide +kernel
theorem dm_X12_back_91 : mj_dec prog_14_method_120_code 91 = some (.bipush 80, 2) := by decide +kernel
theorem dm_X12_back_93 : mj_dec prog_14_method_120_code 93 = some (.iload_n 1, 1) := by decide +kernel
theorem dm_X12_back_94 : mj_dec prog_14_method_120_code 94 = some (.imul, 1) := by decide +kernel
theorem dm_X12_back_95 : mj_dec prog_14_method_120_code 95 = some (.bipush 40, 2) := by decide +kernel
theorem dm_X12_back_97 : mj_dec prog_14_method_120_code 97 = some (.iadd, 1) := by decide +kernel
theorem dm_X12_back_98 : mj_dec prog_14_method_120_code 98 = some (.iload_n 2, 1) := by decide +kernel
theorem dm_X12_back_99 : mj_dec prog_14_method_120_code 99 = some (.iadd, 1) := by decide +kernel
theorem dm_X12_back_100 : mj_dec prog_14_method_120_code 100 = some (.laload, 1) := by decide +kernel
theorem dm_X12_back_101 : mj_dec prog_14_method_120_code 101 = some (.lastore, 1) := by decide +kernel
theorem dm_X12_back_102 : mj_dec prog_14_method_120_code 102 = some (.aload_n 0, 1) := by decide +kernel
theorem dm_X12_back_103 : mj_dec prog_14_method_120_code 103 = some (.getfield 52, 3) := by decide +kernel
theorem dm_X12_back_106 : mj_dec prog_14_method_120_code 106 = some (.iload_n 2, 1) := by decide +kernel
theorem dm_X12_back_107 : mj_dec prog_14_method_120_code 107 = some (.aload_n 0, 1) := by decide +kernel
theorem dm_X12_back_108 : mj_dec prog_14_method_120_code 108 = some (.getfield 58, 3) := by decide +kernel
theorem dm_X12_back_111 : mj_dec prog_14_method_120_code 111 = some (.bipush 80, 2) := by decide +kernel
theorem dm_X12_back_113 : mj_dec prog_14_method_120_code 113 = some (.iload_n 1, 1) := by decide +kernel
theorem dm_X12_back_114 : mj_dec prog_14_method_120_code 114 = some (.imul, 1) := by decide +kernel
theorem dm_X12_back_115 : mj_dec prog_14_method_120_code 115 = some (.bipush 40, 2) := by decide +kernel
theorem dm_X12_back_117 : mj_dec prog_14_method_120_code 117 = some (.iadd, 1) := by decide +kernel
theorem dm_X12_back_118 : mj_dec prog_14_method_120_code 118 = some (.iload_n 2, 1) := by decide +kernel
theorem dm_X12_back_119 : mj_dec prog_14_method_120_code 119 = some (.iadd, 1) := by decide +kernel
theorem dm_X12_back_120 : mj_dec prog_14_method_120_code 120 = some (.iaload, 1) := by decide +kernel
theorem dm_X12_back_121 : mj_dec prog_14_method_120_code 121 = some (.iastore, 1) := by decide +kernel
theorem dm_X12_back_122 : mj_dec prog_14_method_120_code 122 = some (.iinc 2 1, 3) := by decide +kernel
theorem dm_X12_back_125 : mj_dec prog_14_method_120_code 125 = some (.goto (-83), 3) := by decide +kernel
theorem dm_X12_back_128 : mj_dec prog_14_method_120_code 128 = some (.iconst 1, 1) := by decide +kernel
theorem dm_X12_back_129 : mj_dec prog_14_method_120_code 129 = some (.ireturn, 1) := by decide +kernel
theorem r_back_ {xt : mj_X} {d : Nat} {pre post : mj_H} {s : RS} (hm : pre.length = 102) (hd : 1 ≤ d) {k : Nat} (hk : k < 4) (h29 : s.2.2.1 29 k = 1) : pgV xt d 313 [.ref 102, ii (k : Int)] (rS pre post s) (fun y h' => y = ii 1 ∧ h' = rS pre post (bkS s k 40)) := by
  refine x_enter pm_X12_back (L0 := [(0, .ref 102), (1, ii (k : Int))]) rfl (Nat.le_of_ble_eq_true rfl) (by omega) ?_
  refine me1 (pc' := 1) (L' := [(0, .ref 102), (1, ii (k : Int))]) (S' := [ii (k : Int)]) dm_X12_back_0 rfl rfl rfl rfl ?_
  refine y_1lt (a := (k : Int)) (t := 18) (pc' := 4) dm_X12_back_1 rfl rfl (by omega) (fun hb1 => ?_) (fun hb1 => ?_)
  · exfalso; omega
  · refine me1 (pc' := 5) (L' := [(0, .ref 102), (1, ii (k : Int))]) (S' := [ii (k : Int)]) dm_X12_back_4 rfl rfl rfl rfl ?_
    refine me0 (pc' := 6) (S' := [ii 3, ii (k : Int)]) dm_X12_back_5 rfl rfl rfl rfl ?_
    refine y_2gt (a := (k : Int)) (b := 3) (t := 18) (pc' := 9) dm_X12_back_6 rfl rfl (by omega) (fun hb2 => ?_) (fun hb2 => ?_)
    · exfalso; omega
    · refine me1 (pc' := 10) (L' := [(0, .ref 102), (1, ii (k : Int))]) (S' := [.ref 102]) dm_X12_back_9 rfl rfl rfl rfl ?_
      refine me3 (pc' := 13) (S' := [.ref (102 + 16)]) dm_X12_back_10 (q_getr hm rfl (fun m i l => rg_29 m i l)) rfl rfl rfl ?_
      refine me1 (pc' := 14) (L' := [(0, .ref 102), (1, ii (k : Int))]) (S' := [ii (k : Int), .ref (102 + 16)]) dm_X12_back_13 rfl rfl rfl rfl ?_
      refine me3 (pc' := 15) (S' := [ii ((s.2.2.1 29) k)]) dm_X12_back_14 (q_zald (v := (s.2.2.1 29) k) (k := 29) (n := 4) hm (fun m i l I J => rc_29 m i l I J) (by omega) (by omega) (by decide) rfl) rfl rfl rfl ?_
      refine y_1ne (a := (s.2.2.1 29) k) (t := 20) (pc' := 18) dm_X12_back_15 rfl rfl (by omega) (fun hb3 => ?_) (fun hb3 => ?_)
      · refine me1 (pc' := 21) (L' := [(0, .ref 102), (1, ii (k : Int))]) (S' := [.ref 102]) dm_X12_back_20 rfl rfl rfl rfl ?_
        refine me1 (pc' := 22) (L' := [(0, .ref 102), (1, ii (k : Int))]) (S' := [.ref 102, .ref 102]) dm_X12_back_21 rfl rfl rfl rfl ?_
        refine me3 (pc' := 25) (S' := [.ref (102 + 14), .ref 102]) dm_X12_back_22 (q_getr hm rfl (fun m i l => rg_27 m i l)) rfl rfl rfl ?_
        refine me1 (pc' := 26) (L' := [(0, .ref 102), (1, ii (k : Int))]) (S' := [ii (k : Int), .ref (102 + 14), .ref 102]) dm_X12_back_25 rfl rfl rfl rfl ?_
        refine me3 (pc' := 27) (S' := [ii ((s.2.2.1 27) k), .ref 102]) dm_X12_back_26 (q_iald (v := (s.2.2.1 27) k) (k := 27) (n := 4) hm (fun m i l I J => rc_27 m i l I J) (by omega) (by omega) (by decide) rfl) rfl rfl rfl ?_
        refine me3 (pc' := 30) (S' := []) (h1 := rI pre post (va_up s.1 23 ((s.2.2.1 27) k)) s.2.1 s.2.2.1 s.2.2.2) dm_X12_back_27 (q_puti hm rfl rfl (fun m i l v => rf_23 m i l v)) rfl rfl rfl ?_
        refine me1 (pc' := 31) (L' := [(0, .ref 102), (1, ii (k : Int))]) (S' := [.ref 102]) dm_X12_back_30 rfl rfl rfl rfl ?_
        refine me1 (pc' := 32) (L' := [(0, .ref 102), (1, ii (k : Int))]) (S' := [.ref 102, .ref 102]) dm_X12_back_31 rfl rfl rfl rfl ?_
        refine me3 (pc' := 35) (S' := [.ref (102 + 15), .ref 102]) dm_X12_back_32 (q_getr hm rfl (fun m i l => rg_28 m i l)) rfl rfl rfl ?_
        refine me1 (pc' := 36) (L' := [(0, .ref 102), (1, ii (k : Int))]) (S' := [ii (k : Int), .ref (102 + 15), .ref 102]) dm_X12_back_35 rfl rfl rfl rfl ?_
        refine me3 (pc' := 37) (S' := [ii ((s.2.2.1 28) k), .ref 102]) dm_X12_back_36 (q_iald (v := (s.2.2.1 28) k) (k := 28) (n := 4) hm (fun m i l I J => rc_28 m i l I J) (by omega) (by omega) (by decide) rfl) rfl rfl rfl ?_
        refine me3 (pc' := 40) (S' := []) (h1 := rI pre post (va_up (va_up s.1 23 ((s.2.2.1 27) k)) 24 ((s.2.2.1 28) k)) s.2.1 s.2.2.1 s.2.2.2) dm_X12_back_37 (q_puti hm rfl rfl (fun m i l v => rf_24 m i l v)) rfl rfl rfl ?_
        refine me0 (pc' := 41) (S' := [ii 0]) dm_X12_back_40 rfl rfl rfl rfl ?_
        refine me1 (pc' := 42) (L' := [(2, ii 0), (0, .ref 102), (1, ii (k : Int))]) (S' := []) dm_X12_back_41 rfl rfl rfl rfl ?_
        have lp42 : ∀ (n42 : Nat) (i : Nat), 40 - i = n42 → (i ≤ 40) → pgE xt (d - 1) 12 3 false (Option.some Jvm.ClassFile.FieldType.boolean) (mj_dec prog_14_method_120_code) 42 [(0, .ref 102), (1, ii (k : Int)), (2, ii ((i : Nat) : Int))] [] (rI pre post ((bkS s k i).1) ((bkS s k i).2.1) ((bkS s k i).2.2.1) ((bkS s k i).2.2.2)) (fun r h' => ∃ x, r = some x ∧ x = ii 1 ∧ h' = rS pre post (bkS s k 40)) := by
          intro n42
          induction n42 using Nat.strongRecOn with
          | ind n42 ih42 =>
            intro i hm42 hi
            refine me1 (pc' := 43) (L' := [(0, .ref 102), (1, ii (k : Int)), (2, ii ((i : Nat) : Int))]) (S' := [ii ((i : Nat) : Int)]) dm_X12_back_42 rfl rfl rfl rfl ?_
            refine me0 (pc' := 45) (S' := [ii 40, ii ((i : Nat) : Int)]) dm_X12_back_43 rfl rfl rfl rfl ?_
            refine y_2ge (a := ((i : Nat) : Int)) (b := 40) (t := 128) (pc' := 48) dm_X12_back_45 rfl rfl (by omega) (fun hb4 => ?_) (fun hb4 => ?_)
            · refine pg_cast (h2 := rI pre post ((bkS s k 40).1) ((bkS s k 40).2.1) ((bkS s k 40).2.2.1) ((bkS s k 40).2.2.2)) (by rw [show i = 40 by omega]) ?_
              refine me0 (pc' := 129) (S' := [ii 1]) dm_X12_back_128 rfl rfl rfl rfl ?_
              refine y_ret (r := some (ii 1)) dm_X12_back_129 rfl rfl rfl ?_
              exact ⟨_, rfl, rfl, rfl⟩
            · refine me1 (pc' := 49) (L' := [(0, .ref 102), (1, ii (k : Int)), (2, ii ((i : Nat) : Int))]) (S' := [.ref 102]) dm_X12_back_48 rfl rfl rfl rfl ?_
              refine me3 (pc' := 52) (S' := [.ref (102 + 8)]) dm_X12_back_49 (q_getr hm rfl (fun m i l => rg_19 m i l)) rfl rfl rfl ?_
              refine me1 (pc' := 53) (L' := [(0, .ref 102), (1, ii (k : Int)), (2, ii ((i : Nat) : Int))]) (S' := [ii ((i : Nat) : Int), .ref (102 + 8)]) dm_X12_back_52 rfl rfl rfl rfl ?_
              refine me1 (pc' := 54) (L' := [(0, .ref 102), (1, ii (k : Int)), (2, ii ((i : Nat) : Int))]) (S' := [.ref 102, ii ((i : Nat) : Int), .ref (102 + 8)]) dm_X12_back_53 rfl rfl rfl rfl ?_
              refine me3 (pc' := 57) (S' := [.ref (102 + 12), ii ((i : Nat) : Int), .ref (102 + 8)]) dm_X12_back_54 (q_getr hm rfl (fun m i l => rg_25 m i l)) rfl rfl rfl ?_
              refine me0 (pc' := 59) (S' := [ii 80, .ref (102 + 12), ii ((i : Nat) : Int), .ref (102 + 8)]) dm_X12_back_57 rfl rfl rfl rfl ?_
              refine me1 (pc' := 60) (L' := [(0, .ref 102), (1, ii (k : Int)), (2, ii ((i : Nat) : Int))]) (S' := [ii (k : Int), ii 80, .ref (102 + 12), ii ((i : Nat) : Int), .ref (102 + 8)]) dm_X12_back_59 rfl rfl rfl rfl ?_
              refine y_imul (a := 80) (b := (k : Int)) dm_X12_back_60 (pc' := 61) rfl ?_
              refine me1 (pc' := 62) (L' := [(0, .ref 102), (1, ii (k : Int)), (2, ii ((i : Nat) : Int))]) (S' := [ii ((i : Nat) : Int), ii (80 * (k : Int)), .ref (102 + 12), ii ((i : Nat) : Int), .ref (102 + 8)]) dm_X12_back_61 rfl rfl rfl rfl ?_
              refine y_iadd (a := 80 * (k : Int)) (b := ((i : Nat) : Int)) dm_X12_back_62 (pc' := 63) rfl ?_
              refine pg_st0 (S' := [ii ((80 * k + i : Nat) : Int), .ref (102 + 12), ii ((i : Nat) : Int), .ref (102 + 8)]) (congrArg (fun z => ii z :: [.ref (102 + 12), ii ((i : Nat) : Int), .ref (102 + 8)]) (by push_cast; rfl)) ?_
              refine me3 (pc' := 64) (S' := [.long ((((bkS s k i).2.2.2) 25) (80 * k + i)), ii ((i : Nat) : Int), .ref (102 + 8)]) dm_X12_back_63 (q_lald (v := (((bkS s k i).2.2.2) 25) (80 * k + i)) (k := 25) (n := 320) hm (fun m i l I J => rc_25 m i l I J) (by omega) (by omega) (by decide) rfl) rfl rfl rfl ?_
              refine me3 (pc' := 65) (S' := []) (h1 := rI pre post ((bkS s k i).1) ((bkS s k i).2.1) ((bkS s k i).2.2.1) (va_up ((bkS s k i).2.2.2) 19 (va_up (((bkS s k i).2.2.2) 19) i ((((bkS s k i).2.2.2) 25) (80 * k + i))))) dm_X12_back_64 (q_last (j := ((i : Nat) : Int)) (k := 19) (n := 40) hm (fun m i l I J => rc_19 m i l I J) (fun m i l I J f => rs_19 m i l I J f) (by omega) (by omega) (by decide)) rfl rfl rfl ?_
              refine me1 (pc' := 66) (L' := [(0, .ref 102), (1, ii (k : Int)), (2, ii ((i : Nat) : Int))]) (S' := [.ref 102]) dm_X12_back_65 rfl rfl rfl rfl ?_
              refine me3 (pc' := 69) (S' := [.ref (102 + 10)]) dm_X12_back_66 (q_getr hm rfl (fun m i l => rg_21 m i l)) rfl rfl rfl ?_
              refine me1 (pc' := 70) (L' := [(0, .ref 102), (1, ii (k : Int)), (2, ii ((i : Nat) : Int))]) (S' := [ii ((i : Nat) : Int), .ref (102 + 10)]) dm_X12_back_69 rfl rfl rfl rfl ?_
              refine me1 (pc' := 71) (L' := [(0, .ref 102), (1, ii (k : Int)), (2, ii ((i : Nat) : Int))]) (S' := [.ref 102, ii ((i : Nat) : Int), .ref (102 + 10)]) dm_X12_back_70 rfl rfl rfl rfl ?_
              refine me3 (pc' := 74) (S' := [.ref (102 + 13), ii ((i : Nat) : Int), .ref (102 + 10)]) dm_X12_back_71 (q_getr hm rfl (fun m i l => rg_26 m i l)) rfl rfl rfl ?_
              refine me0 (pc' := 76) (S' := [ii 80, .ref (102 + 13), ii ((i : Nat) : Int), .ref (102 + 10)]) dm_X12_back_74 rfl rfl rfl rfl ?_
              refine me1 (pc' := 77) (L' := [(0, .ref 102), (1, ii (k : Int)), (2, ii ((i : Nat) : Int))]) (S' := [ii (k : Int), ii 80, .ref (102 + 13), ii ((i : Nat) : Int), .ref (102 + 10)]) dm_X12_back_76 rfl rfl rfl rfl ?_
              refine y_imul (a := 80) (b := (k : Int)) dm_X12_back_77 (pc' := 78) rfl ?_
              refine me1 (pc' := 79) (L' := [(0, .ref 102), (1, ii (k : Int)), (2, ii ((i : Nat) : Int))]) (S' := [ii ((i : Nat) : Int), ii (80 * (k : Int)), .ref (102 + 13), ii ((i : Nat) : Int), .ref (102 + 10)]) dm_X12_back_78 rfl rfl rfl rfl ?_
              refine y_iadd (a := 80 * (k : Int)) (b := ((i : Nat) : Int)) dm_X12_back_79 (pc' := 80) rfl ?_
              refine pg_st0 (S' := [ii ((80 * k + i : Nat) : Int), .ref (102 + 13), ii ((i : Nat) : Int), .ref (102 + 10)]) (congrArg (fun z => ii z :: [.ref (102 + 13), ii ((i : Nat) : Int), .ref (102 + 10)]) (by push_cast; rfl)) ?_
              refine me3 (pc' := 81) (S' := [ii ((((bkS s k i).2.2.1) 26) (80 * k + i)), ii ((i : Nat) : Int), .ref (102 + 10)]) dm_X12_back_80 (q_iald (v := (((bkS s k i).2.2.1) 26) (80 * k + i)) (k := 26) (n := 320) hm (fun m i l I J => rc_26 m i l I J) (by omega) (by omega) (by decide) rfl) rfl rfl rfl ?_
              refine me3 (pc' := 82) (S' := []) (h1 := rI pre post ((bkS s k i).1) ((bkS s k i).2.1) (va_up ((bkS s k i).2.2.1) 21 (va_up (((bkS s k i).2.2.1) 21) i ((((bkS s k i).2.2.1) 26) (80 * k + i)))) (va_up ((bkS s k i).2.2.2) 19 (va_up (((bkS s k i).2.2.2) 19) i ((((bkS s k i).2.2.2) 25) (80 * k + i))))) dm_X12_back_81 (q_iast (j := ((i : Nat) : Int)) (k := 21) (n := 40) hm (fun m i l I J => rc_21 m i l I J) (fun m i l I J f => rs_21 m i l I J f) (by omega) (by omega) (by decide)) rfl rfl rfl ?_
              refine me1 (pc' := 83) (L' := [(0, .ref 102), (1, ii (k : Int)), (2, ii ((i : Nat) : Int))]) (S' := [.ref 102]) dm_X12_back_82 rfl rfl rfl rfl ?_
              refine me3 (pc' := 86) (S' := [.ref (102 + 9)]) dm_X12_back_83 (q_getr hm rfl (fun m i l => rg_20 m i l)) rfl rfl rfl ?_
              refine me1 (pc' := 87) (L' := [(0, .ref 102), (1, ii (k : Int)), (2, ii ((i : Nat) : Int))]) (S' := [ii ((i : Nat) : Int), .ref (102 + 9)]) dm_X12_back_86 rfl rfl rfl rfl ?_
              refine me1 (pc' := 88) (L' := [(0, .ref 102), (1, ii (k : Int)), (2, ii ((i : Nat) : Int))]) (S' := [.ref 102, ii ((i : Nat) : Int), .ref (102 + 9)]) dm_X12_back_87 rfl rfl rfl rfl ?_
              refine me3 (pc' := 91) (S' := [.ref (102 + 12), ii ((i : Nat) : Int), .ref (102 + 9)]) dm_X12_back_88 (q_getr hm rfl (fun m i l => rg_25 m i l)) rfl rfl rfl ?_
              refine me0 (pc' := 93) (S' := [ii 80, .ref (102 + 12), ii ((i : Nat) : Int), .ref (102 + 9)]) dm_X12_back_91 rfl rfl rfl rfl ?_
              refine me1 (pc' := 94) (L' := [(0, .ref 102), (1, ii (k : Int)), (2, ii ((i : Nat) : Int))]) (S' := [ii (k : Int), ii 80, .ref (102 + 12), ii ((i : Nat) : Int), .ref (102 + 9)]) dm_X12_back_93 rfl rfl rfl rfl ?_
              refine y_imul (a := 80) (b := (k : Int)) dm_X12_back_94 (pc' := 95) rfl ?_
              refine me0 (pc' := 97) (S' := [ii 40, ii (80 * (k : Int)), .ref (102 + 12), ii ((i : Nat) : Int), .ref (102 + 9)]) dm_X12_back_95 rfl rfl rfl rfl ?_
              refine y_iadd (a := 80 * (k : Int)) (b := 40) dm_X12_back_97 (pc' := 98) rfl ?_
              refine me1 (pc' := 99) (L' := [(0, .ref 102), (1, ii (k : Int)), (2, ii ((i : Nat) : Int))]) (S' := [ii ((i : Nat) : Int), ii ((80 * (k : Int)) + 40), .ref (102 + 12), ii ((i : Nat) : Int), .ref (102 + 9)]) dm_X12_back_98 rfl rfl rfl rfl ?_
              refine y_iadd (a := (80 * (k : Int)) + 40) (b := ((i : Nat) : Int)) dm_X12_back_99 (pc' := 100) rfl ?_
              refine pg_st0 (S' := [ii ((80 * k + 40 + i : Nat) : Int), .ref (102 + 12), ii ((i : Nat) : Int), .ref (102 + 9)]) (congrArg (fun z => ii z :: [.ref (102 + 12), ii ((i : Nat) : Int), .ref (102 + 9)]) (by push_cast; rfl)) ?_
              refine me3 (pc' := 101) (S' := [.long ((((bkS s k i).2.2.2) 25) (80 * k + 40 + i)), ii ((i : Nat) : Int), .ref (102 + 9)]) dm_X12_back_100 (q_lald (v := (((bkS s k i).2.2.2) 25) (80 * k + 40 + i)) (k := 25) (n := 320) hm (fun m i l I J => rc_25 m i l I J) (by omega) (by omega) (by decide) rfl) rfl rfl rfl ?_
              refine me3 (pc' := 102) (S' := []) (h1 := rI pre post ((bkS s k i).1) ((bkS s k i).2.1) (va_up ((bkS s k i).2.2.1) 21 (va_up (((bkS s k i).2.2.1) 21) i ((((bkS s k i).2.2.1) 26) (80 * k + i)))) (va_up (va_up ((bkS s k i).2.2.2) 19 (va_up (((bkS s k i).2.2.2) 19) i ((((bkS s k i).2.2.2) 25) (80 * k + i)))) 20 (va_up (((bkS s k i).2.2.2) 20) i ((((bkS s k i).2.2.2) 25) (80 * k + 40 + i))))) dm_X12_back_101 (q_last (j := ((i : Nat) : Int)) (k := 20) (n := 40) hm (fun m i l I J => rc_20 m i l I J) (fun m i l I J f => rs_20 m i l I J f) (by omega) (by omega) (by decide)) rfl rfl rfl ?_
              refine me1 (pc' := 103) (L' := [(0, .ref 102), (1, ii (k : Int)), (2, ii ((i : Nat) : Int))]) (S' := [.ref 102]) dm_X12_back_102 rfl rfl rfl rfl ?_
              refine me3 (pc' := 106) (S' := [.ref (102 + 11)]) dm_X12_back_103 (q_getr hm rfl (fun m i l => rg_22 m i l)) rfl rfl rfl ?_
              refine me1 (pc' := 107) (L' := [(0, .ref 102), (1, ii (k : Int)), (2, ii ((i : Nat) : Int))]) (S' := [ii ((i : Nat) : Int), .ref (102 + 11)]) dm_X12_back_106 rfl rfl rfl rfl ?_
              refine me1 (pc' := 108) (L' := [(0, .ref 102), (1, ii (k : Int)), (2, ii ((i : Nat) : Int))]) (S' := [.ref 102, ii ((i : Nat) : Int), .ref (102 + 11)]) dm_X12_back_107 rfl rfl rfl rfl ?_
              refine me3 (pc' := 111) (S' := [.ref (102 + 13), ii ((i : Nat) : Int), .ref (102 + 11)]) dm_X12_back_108 (q_getr hm rfl (fun m i l => rg_26 m i l)) rfl rfl rfl ?_
              refine me0 (pc' := 113) (S' := [ii 80, .ref (102 + 13), ii ((i : Nat) : Int), .ref (102 + 11)]) dm_X12_back_111 rfl rfl rfl rfl ?_
              refine me1 (pc' := 114) (L' := [(0, .ref 102), (1, ii (k : Int)), (2, ii ((i : Nat) : Int))]) (S' := [ii (k : Int), ii 80, .ref (102 + 13), ii ((i : Nat) : Int), .ref (102 + 11)]) dm_X12_back_113 rfl rfl rfl rfl ?_
              refine y_imul (a := 80) (b := (k : Int)) dm_X12_back_114 (pc' := 115) rfl ?_
              refine me0 (pc' := 117) (S' := [ii 40, ii (80 * (k : Int)), .ref (102 + 13), ii ((i : Nat) : Int), .ref (102 + 11)]) dm_X12_back_115 rfl rfl rfl rfl ?_
              refine y_iadd (a := 80 * (k : Int)) (b := 40) dm_X12_back_117 (pc' := 118) rfl ?_
              refine me1 (pc' := 119) (L' := [(0, .ref 102), (1, ii (k : Int)), (2, ii ((i : Nat) : Int))]) (S' := [ii ((i : Nat) : Int), ii ((80 * (k : Int)) + 40), .ref (102 + 13), ii ((i : Nat) : Int), .ref (102 + 11)]) dm_X12_back_118 rfl rfl rfl rfl ?_
              refine y_iadd (a := (80 * (k : Int)) + 40) (b := ((i : Nat) : Int)) dm_X12_back_119 (pc' := 120) rfl ?_
              refine pg_st0 (S' := [ii ((80 * k + 40 + i : Nat) : Int), .ref (102 + 13), ii ((i : Nat) : Int), .ref (102 + 11)]) (congrArg (fun z => ii z :: [.ref (102 + 13), ii ((i : Nat) : Int), .ref (102 + 11)]) (by push_cast; rfl)) ?_
              refine me3 (pc' := 121) (S' := [ii ((((bkS s k i).2.2.1) 26) (80 * k + 40 + i)), ii ((i : Nat) : Int), .ref (102 + 11)]) dm_X12_back_120 (q_iald (v := (((bkS s k i).2.2.1) 26) (80 * k + 40 + i)) (k := 26) (n := 320) hm (fun m i l I J => rc_26 m i l I J) (by omega) (by omega) (by decide) rfl) rfl rfl rfl ?_
              refine me3 (pc' := 122) (S' := []) (h1 := rI pre post ((bkS s k i).1) ((bkS s k i).2.1) (va_up (va_up ((bkS s k i).2.2.1) 21 (va_up (((bkS s k i).2.2.1) 21) i ((((bkS s k i).2.2.1) 26) (80 * k + i)))) 22 (va_up (((bkS s k i).2.2.1) 22) i ((((bkS s k i).2.2.1) 26) (80 * k + 40 + i)))) (va_up (va_up ((bkS s k i).2.2.2) 19 (va_up (((bkS s k i).2.2.2) 19) i ((((bkS s k i).2.2.2) 25) (80 * k + i)))) 20 (va_up (((bkS s k i).2.2.2) 20) i ((((bkS s k i).2.2.2) 25) (80 * k + 40 + i))))) dm_X12_back_121 (q_iast (j := ((i : Nat) : Int)) (k := 22) (n := 40) hm (fun m i l I J => rc_22 m i l I J) (fun m i l I J f => rs_22 m i l I J f) (by omega) (by omega) (by decide)) rfl rfl rfl ?_
              refine pg_cast (h2 := rI pre post ((bkS s k (i + 1)).1) ((bkS s k (i + 1)).2.1) ((bkS s k (i + 1)).2.2.1) ((bkS s k (i + 1)).2.2.2)) (by first | exact congrArg (rS pre post) bkS_s | exact bkS_s) ?_
              refine y_iinc (pc' := 125) (L' := [(2, ii (((i : Nat) : Int) + 1)), (0, .ref 102), (1, ii (k : Int))]) dm_X12_back_122 (y_incp (a := ((i : Nat) : Int)) (c := 1) rfl rfl (by decide)) rfl ?_
              refine me2 (pc' := 42) (S' := []) dm_X12_back_125 rfl rfl rfl ?_
              exact pg_sub (L := [(0, .ref 102), (1, ii (k : Int)), (2, ii (((i + 1) : Nat) : Int))]) rfl rfl rfl (ih42 (40 - (i + 1)) (by omega) (i + 1) rfl (by omega))
        refine pg_cast (h2 := rI pre post ((bkS s k 0).1) ((bkS s k 0).2.1) ((bkS s k 0).2.2.1) ((bkS s k 0).2.2.2)) (by first | exact congrArg (rS pre post) bkS_0 | rfl) ?_
        exact pg_sub (L := [(0, .ref 102), (1, ii (k : Int)), (2, ii ((0 : Nat) : Int))]) rfl rfl rfl (lp42 _ 0 rfl (Nat.zero_le _))
      · exfalso; omega
set_option maxRecDepth 20000 in
theorem pm_X11_item : mj_mmof pg_ms 185 = some ((⟨"ArrayCalculator", "item", "(I)J"⟩, prog_1_method_12_code, 2, (Option.some Jvm.ClassFile.FieldType.long)), 11, false, mj_dec prog_1_method_12_code) := rfl
theorem dm_X11_item_0 : mj_dec prog_1_method_12_code 0 = some (.aload_n 0, 1) := by decide +kernel
theorem dm_X11_item_1 : mj_dec prog_1_method_12_code 1 = some (.getfield 70, 3) := by decide +kernel
theorem dm_X11_item_4 : mj_dec prog_1_method_12_code 4 = some (.invokevirtual 173, 3) := by decide +kernel
theorem dm_X11_item_7 : mj_dec prog_1_method_12_code 7 = some (.ifCond .eq 19, 3) := by decide +kernel
theorem dm_X11_item_10 : mj_dec prog_1_method_12_code 10 = some (.iload_n 1, 1) := by decide +kernel
theorem dm_X11_item_11 : mj_dec prog_1_method_12_code 11 = some (.ifCond .ne 13, 3) := by decide +kernel
theorem dm_X11_item_14 : mj_dec prog_1_method_12_code 14 = some (.aload_n 0, 1) := by decide +kernel
theorem dm_X11_item_15 : mj_dec prog_1_method_12_code 15 = some (.getfield 70, 3) := by decide +kernel
theorem dm_X11_item_18 : mj_dec prog_1_method_12_code 18 = some (.getfield 176, 3) := by decide +kernel
theorem dm_X11_item_21 : mj_dec prog_1_method_12_code 21 = some (.goto 4, 3) := by decide +kernel
theorem dm_X11_item_24 : mj_dec prog_1_method_12_code 24 = some (.lconst 0, 1) := by decide +kernel
theorem dm_X11_item_25 : mj_dec prog_1_method_12_code 25 = some (.lreturn, 1) := by decide +kernel
theorem dm_X11_item_26 : mj_dec prog_1_method_12_code 26 = some (.aload_n 0, 1) := by decide +kernel
theorem dm_X11_item_27 : mj_dec prog_1_method_12_code 27 = some (.getfield 70, 3) := by decide +kernel
theorem dm_X11_item_30 : mj_dec prog_1_method_12_code 30 = some (.iload_n 1, 1) := by decide +kernel
theorem dm_X11_item_31 : mj_dec prog_1_method_12_code 31 = some (.invokevirtual 180, 3) := by decide +kernel
theorem dm_X11_item_34 : mj_dec prog_1_method_12_code 34 = some (.lreturn, 1) := by decide +kernel
theorem a_item {xt : mj_X} {d qr qp : Nat} {h : mj_H} {fd le lp lw : Int} (hd : 8 ≤ d) (h2 : h[2]? = some (acC fd qr qp le lp lw)) {A : Nat → Prop} {e : Nat} {v : VV} (hv : cv A h (e + 1) qp v) {f1 : Nat → Value} (hx1 : xt 1 = some (.long, 0, f1)) {k : Int} (hk : -2147483648 ≤ k ∧ k ≤ 2147483647) : pgP xt d 185 [.ref 2, ii k] h (.long (itF v k)) := by
  obtain ⟨hw, ⟨hq2, hpA⟩, hsz, hlv, row, fr, vals, hvq, hfr, h1, h3, h7⟩ := id hv
  have hm := vw1_m hw
  clear h1 h3 h7
  refine x_enter pm_X11_item (L0 := [(0, .ref 2), (1, ii k)]) rfl (Nat.le_of_ble_eq_true rfl) (by omega) ?_
  refine me1 (pc' := 1) (L' := [(0, .ref 2), (1, ii k)]) (S' := [.ref 2]) dm_X11_item_0 rfl rfl rfl rfl ?_
  refine me3 (pc' := 4) (S' := [.ref qp]) dm_X11_item_1 (g_get (v := .ref qp) h2 rfl rfl (by decide)) rfl rfl rfl ?_
  refine x_cp (pc' := 7) (v := zz (decide (vk v ≤ 1))) (rest := []) dm_X11_item_4 rfl (g_inv (As := []) (S := []) hvq rfl rfl rfl (by omega)) rfl rfl rfl (c_isOne (by omega) hv) ?_
  refine y_zeq (c := decide (vk v ≤ 1)) (t := 26) (pc' := 10) dm_X11_item_7 rfl rfl (fun hb1 => ?_) (fun hb1 => ?_)
  · replace hb1 := dF hb1
    refine me1 (pc' := 27) (L' := [(0, .ref 2), (1, ii k)]) (S' := [.ref 2]) dm_X11_item_26 rfl rfl rfl rfl ?_
    refine me3 (pc' := 30) (S' := [.ref qp]) dm_X11_item_27 (g_get (v := .ref qp) h2 rfl rfl (by decide)) rfl rfl rfl ?_
    refine me1 (pc' := 31) (L' := [(0, .ref 2), (1, ii k)]) (S' := [ii k, .ref qp]) dm_X11_item_30 rfl rfl rfl rfl ?_
    refine x_cp (pc' := 34) (v := .long (vnum v k)) (rest := []) dm_X11_item_31 rfl (g_inv (As := [ii k]) (S := []) hvq rfl rfl rfl (by omega)) rfl rfl rfl (c_numberAt hx1 (by omega) hv hk) ?_
    refine y_ret (r := some (.long (vnum v k))) dm_X11_item_34 rfl rfl rfl ?_
    first | (exfalso; omega) | (refine ⟨congrArg (fun z => some (Value.long z)) ?_, rfl⟩; rw [← itF_c hw]; repeat (first | rw [if_pos (by omega)] | rw [if_neg (by omega)]))
  · replace hb1 := dT hb1
    refine me1 (pc' := 11) (L' := [(0, .ref 2), (1, ii k)]) (S' := [ii k]) dm_X11_item_10 rfl rfl rfl rfl ?_
    refine y_1ne (a := k) (t := 24) (pc' := 14) dm_X11_item_11 rfl rfl (by omega) (fun hb2 => ?_) (fun hb2 => ?_)
    · refine me0 (pc' := 25) (S' := [.long (Int64.ofInt 0)]) dm_X11_item_24 rfl rfl rfl rfl ?_
      refine y_ret (r := some (.long (Int64.ofInt 0))) dm_X11_item_25 rfl rfl rfl ?_
      first | (exfalso; omega) | (refine ⟨congrArg (fun z => some (Value.long z)) ?_, rfl⟩; rw [← itF_c hw]; repeat (first | rw [if_pos (by omega)] | rw [if_neg (by omega)]))
    · refine me1 (pc' := 15) (L' := [(0, .ref 2), (1, ii k)]) (S' := [.ref 2]) dm_X11_item_14 rfl rfl rfl rfl ?_
      refine me3 (pc' := 18) (S' := [.ref qp]) dm_X11_item_15 (g_get (v := .ref qp) h2 rfl rfl (by decide)) rfl rfl rfl ?_
      refine me3 (pc' := 21) (S' := [.long (cnum v)]) dm_X11_item_18 (g_get (v := .long (cnum v)) hvq rfl rfl (by omega)) rfl rfl rfl ?_
      refine me2 (pc' := 25) (S' := [.long (cnum v)]) dm_X11_item_21 rfl rfl rfl ?_
      refine y_ret (r := some (.long (cnum v))) dm_X11_item_25 rfl rfl rfl ?_
      first | (exfalso; omega) | (refine ⟨congrArg (fun z => some (Value.long z)) ?_, rfl⟩; rw [← itF_c hw]; repeat (first | rw [if_pos (by omega)] | rw [if_neg (by omega)]))
set_option maxRecDepth 20000 in
theorem pm_X11_point : mj_mmof pg_ms 182 = some ((⟨"ArrayCalculator", "point", "(II)Z"⟩, prog_1_method_9_code, 4, (Option.some Jvm.ClassFile.FieldType.boolean)), 11, false, mj_dec prog_1_method_9_code) := rfl
theorem dm_X11_point_0 : mj_dec prog_1_method_9_code 0 = some (.aconst_null, 1) := by decide +kernel
theorem dm_X11_point_1 : mj_dec prog_1_method_9_code 1 = some (.astore_n 3, 1) := by decide +kernel
theorem dm_X11_point_2 : mj_dec prog_1_method_9_code 2 = some (.iload_n 1, 1) := by decide +kernel
theorem dm_X11_point_3 : mj_dec prog_1_method_9_code 3 = some (.ifCond .ne 11, 3) := by decide +kernel
theorem dm_X11_point_6 : mj_dec prog_1_method_9_code 6 = some (.aload_n 0, 1) := by decide +kernel
theorem dm_X11_point_7 : mj_dec prog_1_method_9_code 7 = some (.getfield 66, 3) := by decide +kernel
theorem dm_X11_point_10 : mj_dec prog_1_method_9_code 10 = some (.astore_n 3, 1) := by decide +kernel
theorem dm_X11_point_11 : mj_dec prog_1_method_9_code 11 = some (.goto 73, 3) := by decide +kernel
theorem dm_X11_point_84 : mj_dec prog_1_method_9_code 84 = some (.aload_n 3, 1) := by decide +kernel
theorem dm_X11_point_85 : mj_dec prog_1_method_9_code 85 = some (.ifnonnull 5, 3) := by decide +kernel
theorem dm_X11_point_90 : mj_dec prog_1_method_9_code 90 = some (.aload_n 0, 1) := by decide +kernel
theorem dm_X11_point_91 : mj_dec prog_1_method_9_code 91 = some (.aload_n 3, 1) := by decide +kernel
theorem dm_X11_point_92 : mj_dec prog_1_method_9_code 92 = some (.putfield 70, 3) := by decide +kernel
theorem dm_X11_point_95 : mj_dec prog_1_method_9_code 95 = some (.iconst 1, 1) := by decide +kernel
theorem dm_X11_point_96 : mj_dec prog_1_method_9_code 96 = some (.ireturn, 1) := by decide +kernel
theorem a_pt0 {xt : mj_X} {d qr qp : Nat} {h : mj_H} {fd le lp lw : Int} (hd : 8 ≤ d) (h2 : h[2]? = some (acC fd qr qp le lp lw)) {what k : Int} (hwh : -2147483648 ≤ what ∧ what ≤ 2147483647) (hk : -2147483648 ≤ k ∧ k ≤ 2147483647) (h0 : what = 0) : pgV xt d 182 [.ref 2, ii what, ii k] h (fun y h' => y = ii 1 ∧ h' = h.set 2 (acC fd qr qr le lp lw)) := by
  refine x_enter pm_X11_point (L0 := [(0, .ref 2), (1, ii what), (2, ii k)]) rfl (Nat.le_of_ble_eq_true rfl) (by omega) ?_
  refine me0 (pc' := 1) (S' := [.null]) dm_X11_point_0 rfl rfl rfl rfl ?_
  refine me1 (pc' := 2) (L' := [(3, .null), (0, .ref 2), (1, ii what), (2, ii k)]) (S' := []) dm_X11_point_1 rfl rfl rfl rfl ?_
  refine me1 (pc' := 3) (L' := [(3, .null), (0, .ref 2), (1, ii what), (2, ii k)]) (S' := [ii what]) dm_X11_point_2 rfl rfl rfl rfl ?_
  refine y_1ne (a := what) (t := 14) (pc' := 6) dm_X11_point_3 rfl rfl (by omega) (fun hb1 => ?_) (fun hb1 => ?_)
  · exfalso; omega
  · refine me1 (pc' := 7) (L' := [(3, .null), (0, .ref 2), (1, ii what), (2, ii k)]) (S' := [.ref 2]) dm_X11_point_6 rfl rfl rfl rfl ?_
    refine me3 (pc' := 10) (S' := [.ref qr]) dm_X11_point_7 (g_get (v := .ref qr) h2 rfl rfl (by decide)) rfl rfl rfl ?_
    refine me1 (pc' := 11) (L' := [(3, .ref qr), (0, .ref 2), (1, ii what), (2, ii k)]) (S' := []) dm_X11_point_10 rfl rfl rfl rfl ?_
    refine me2 (pc' := 84) (S' := []) dm_X11_point_11 rfl rfl rfl ?_
    refine me1 (pc' := 85) (L' := [(3, .ref qr), (0, .ref 2), (1, ii what), (2, ii k)]) (S' := [.ref qr]) dm_X11_point_84 rfl rfl rfl rfl ?_
    refine me2 (pc' := 90) (S' := []) dm_X11_point_85 rfl rfl rfl ?_
    refine me1 (pc' := 91) (L' := [(3, .ref qr), (0, .ref 2), (1, ii what), (2, ii k)]) (S' := [.ref 2]) dm_X11_point_90 rfl rfl rfl rfl ?_
    refine me1 (pc' := 92) (L' := [(3, .ref qr), (0, .ref 2), (1, ii what), (2, ii k)]) (S' := [.ref qr, .ref 2]) dm_X11_point_91 rfl rfl rfl rfl ?_
    refine me3 (pc' := 95) (S' := []) (h1 := (h).set 2 (cO 11 [.ref 3, ii fd, .ref 4, .ref 9, .ref 13, .ref 15, .ref 16, .ref 98, .ref qr, .ref qr, ii le, ii lp, ii lw])) dm_X11_point_92 (g_put (fs' := [.ref 3, ii fd, .ref 4, .ref 9, .ref 13, .ref 15, .ref 16, .ref 98, .ref qr, .ref qr, ii le, ii lp, ii lw]) h2 rfl rfl rfl (by simp) rfl (by decide) (fun z => by cases z) (by decide)) rfl rfl rfl ?_
    refine me0 (pc' := 96) (S' := [ii 1]) dm_X11_point_95 rfl rfl rfl rfl ?_
    refine y_ret (r := some (ii 1)) dm_X11_point_96 rfl rfl rfl ?_
    exact ⟨_, rfl, rfl, rfl⟩
theorem dm_X11_point_14 : mj_dec prog_1_method_9_code 14 = some (.iload_n 1, 1) := by decide +kernel
theorem dm_X11_point_15 : mj_dec prog_1_method_9_code 15 = some (.iconst 1, 1) := by decide +kernel
theorem dm_X11_point_16 : mj_dec prog_1_method_9_code 16 = some (.if_icmp .ne 15, 3) := by decide +kernel
theorem dm_X11_point_19 : mj_dec prog_1_method_9_code 19 = some (.aload_n 0, 1) := by decide +kernel
theorem dm_X11_point_20 : mj_dec prog_1_method_9_code 20 = some (.getfield 16, 3) := by decide +kernel
theorem dm_X11_point_23 : mj_dec prog_1_method_9_code 23 = some (.iload_n 2, 1) := by decide +kernel
theorem dm_X11_point_24 : mj_dec prog_1_method_9_code 24 = some (.invokevirtual 154, 3) := by decide +kernel
theorem dm_X11_point_27 : mj_dec prog_1_method_9_code 27 = some (.astore_n 3, 1) := by decide +kernel
theorem dm_X11_point_28 : mj_dec prog_1_method_9_code 28 = some (.goto 56, 3) := by decide +kernel
theorem dm_X11_point_88 : mj_dec prog_1_method_9_code 88 = some (.iconst 0, 1) := by decide +kernel
theorem dm_X11_point_89 : mj_dec prog_1_method_9_code 89 = some (.ireturn, 1) := by decide +kernel
theorem a_pt1N {xt : mj_X} {d qr qp : Nat} {h : mj_H} {fd le lp lw : Int} (hd : 8 ≤ d) (h2 : h[2]? = some (acC fd qr qp le lp lw)) {what k : Int} (hwh : -2147483648 ≤ what ∧ what ≤ 2147483647) (hk : -2147483648 ≤ k ∧ k ≤ 2147483647) {n m : Nat} {kf jf : Nat → Int64} {vf of : Nat → Option Nat} (hN : NMS h n m kf jf vf of) (h0 : what = 1) (hno : k < 0 ∨ (n : Int) ≤ k) : pgV xt d 182 [.ref 2, ii what, ii k] h (fun y h' => y = ii 0 ∧ h' = h) := by
  obtain ⟨n4, n5, n6, n7, n8, hn4, hm4, hvn, hon⟩ := hN
  refine x_enter pm_X11_point (L0 := [(0, .ref 2), (1, ii what), (2, ii k)]) rfl (Nat.le_of_ble_eq_true rfl) (by omega) ?_
  refine me0 (pc' := 1) (S' := [.null]) dm_X11_point_0 rfl rfl rfl rfl ?_
  refine me1 (pc' := 2) (L' := [(3, .null), (0, .ref 2), (1, ii what), (2, ii k)]) (S' := []) dm_X11_point_1 rfl rfl rfl rfl ?_
  refine me1 (pc' := 3) (L' := [(3, .null), (0, .ref 2), (1, ii what), (2, ii k)]) (S' := [ii what]) dm_X11_point_2 rfl rfl rfl rfl ?_
  refine y_1ne (a := what) (t := 14) (pc' := 6) dm_X11_point_3 rfl rfl (by omega) (fun hb1 => ?_) (fun hb1 => ?_)
  · refine me1 (pc' := 15) (L' := [(3, .null), (0, .ref 2), (1, ii what), (2, ii k)]) (S' := [ii what]) dm_X11_point_14 rfl rfl rfl rfl ?_
    refine me0 (pc' := 16) (S' := [ii 1, ii what]) dm_X11_point_15 rfl rfl rfl rfl ?_
    refine y_2ne (a := what) (b := 1) (t := 31) (pc' := 19) dm_X11_point_16 rfl rfl (by omega) (fun hb2 => ?_) (fun hb2 => ?_)
    · exfalso; omega
    · refine me1 (pc' := 20) (L' := [(3, .null), (0, .ref 2), (1, ii what), (2, ii k)]) (S' := [.ref 2]) dm_X11_point_19 rfl rfl rfl rfl ?_
      refine me3 (pc' := 23) (S' := [.ref 4]) dm_X11_point_20 (g_get (v := .ref 4) h2 rfl rfl (by decide)) rfl rfl rfl ?_
      refine me1 (pc' := 24) (L' := [(3, .null), (0, .ref 2), (1, ii what), (2, ii k)]) (S' := [ii k, .ref 4]) dm_X11_point_23 rfl rfl rfl rfl ?_
      refine x_cp (pc' := 27) (v := .null) (rest := []) dm_X11_point_24 rfl (g_inv (As := [ii k]) (S := []) n4 rfl rfl rfl (by decide)) rfl rfl rfl (n_valueAtN hk (by omega) n4 n5 n6 n7 n8 (by decide) hn4 hm4 hno) ?_
      refine me1 (pc' := 28) (L' := [(3, .null), (0, .ref 2), (1, ii what), (2, ii k)]) (S' := []) dm_X11_point_27 rfl rfl rfl rfl ?_
      refine me2 (pc' := 84) (S' := []) dm_X11_point_28 rfl rfl rfl ?_
      refine me1 (pc' := 85) (L' := [(3, .null), (0, .ref 2), (1, ii what), (2, ii k)]) (S' := [.null]) dm_X11_point_84 rfl rfl rfl rfl ?_
      refine me2 (pc' := 88) (S' := []) dm_X11_point_85 rfl rfl rfl ?_
      refine me0 (pc' := 89) (S' := [ii 0]) dm_X11_point_88 rfl rfl rfl rfl ?_
      refine y_ret (r := some (ii 0)) dm_X11_point_89 rfl rfl rfl ?_
      exact ⟨_, rfl, rfl, rfl⟩
  · exfalso; omega
theorem a_pt1Y {xt : mj_X} {d qr qp : Nat} {h : mj_H} {fd le lp lw : Int} (hd : 8 ≤ d) (h2 : h[2]? = some (acC fd qr qp le lp lw)) {what : Int} {j : Nat} (hwh : -2147483648 ≤ what ∧ what ≤ 2147483647) {n m : Nat} {kf jf : Nat → Int64} {vf of : Nat → Option Nat} (hN : NMS h n m kf jf vf of) {q : Nat} (h0 : what = 1) (hj : j < n) (hq : vf j = some q) : pgV xt d 182 [.ref 2, ii what, ii (j : Int)] h (fun y h' => y = ii 1 ∧ h' = h.set 2 (acC fd qr q le lp lw)) := by
  obtain ⟨n4, n5, n6, n7, n8, hn4, hm4, hvn, hon⟩ := hN
  refine x_enter pm_X11_point (L0 := [(0, .ref 2), (1, ii what), (2, ii (j : Int))]) rfl (Nat.le_of_ble_eq_true rfl) (by omega) ?_
  refine me0 (pc' := 1) (S' := [.null]) dm_X11_point_0 rfl rfl rfl rfl ?_
  refine me1 (pc' := 2) (L' := [(3, .null), (0, .ref 2), (1, ii what), (2, ii (j : Int))]) (S' := []) dm_X11_point_1 rfl rfl rfl rfl ?_
  refine me1 (pc' := 3) (L' := [(3, .null), (0, .ref 2), (1, ii what), (2, ii (j : Int))]) (S' := [ii what]) dm_X11_point_2 rfl rfl rfl rfl ?_
  refine y_1ne (a := what) (t := 14) (pc' := 6) dm_X11_point_3 rfl rfl (by omega) (fun hb1 => ?_) (fun hb1 => ?_)
  · refine me1 (pc' := 15) (L' := [(3, .null), (0, .ref 2), (1, ii what), (2, ii (j : Int))]) (S' := [ii what]) dm_X11_point_14 rfl rfl rfl rfl ?_
    refine me0 (pc' := 16) (S' := [ii 1, ii what]) dm_X11_point_15 rfl rfl rfl rfl ?_
    refine y_2ne (a := what) (b := 1) (t := 31) (pc' := 19) dm_X11_point_16 rfl rfl (by omega) (fun hb2 => ?_) (fun hb2 => ?_)
    · exfalso; omega
    · refine me1 (pc' := 20) (L' := [(3, .null), (0, .ref 2), (1, ii what), (2, ii (j : Int))]) (S' := [.ref 2]) dm_X11_point_19 rfl rfl rfl rfl ?_
      refine me3 (pc' := 23) (S' := [.ref 4]) dm_X11_point_20 (g_get (v := .ref 4) h2 rfl rfl (by decide)) rfl rfl rfl ?_
      refine me1 (pc' := 24) (L' := [(3, .null), (0, .ref 2), (1, ii what), (2, ii (j : Int))]) (S' := [ii (j : Int), .ref 4]) dm_X11_point_23 rfl rfl rfl rfl ?_
      refine x_cp (pc' := 27) (v := .ref q) (rest := []) dm_X11_point_24 rfl (g_inv (As := [ii (j : Int)]) (S := []) n4 rfl rfl rfl (by decide)) rfl rfl rfl (n_valueAtY (by omega) n4 n5 n6 n7 n8 (by decide) hn4 hm4 hj hq) ?_
      refine me1 (pc' := 28) (L' := [(3, .ref q), (0, .ref 2), (1, ii what), (2, ii (j : Int))]) (S' := []) dm_X11_point_27 rfl rfl rfl rfl ?_
      refine me2 (pc' := 84) (S' := []) dm_X11_point_28 rfl rfl rfl ?_
      refine me1 (pc' := 85) (L' := [(3, .ref q), (0, .ref 2), (1, ii what), (2, ii (j : Int))]) (S' := [.ref q]) dm_X11_point_84 rfl rfl rfl rfl ?_
      refine me2 (pc' := 90) (S' := []) dm_X11_point_85 rfl rfl rfl ?_
      refine me1 (pc' := 91) (L' := [(3, .ref q), (0, .ref 2), (1, ii what), (2, ii (j : Int))]) (S' := [.ref 2]) dm_X11_point_90 rfl rfl rfl rfl ?_
      refine me1 (pc' := 92) (L' := [(3, .ref q), (0, .ref 2), (1, ii what), (2, ii (j : Int))]) (S' := [.ref q, .ref 2]) dm_X11_point_91 rfl rfl rfl rfl ?_
      refine me3 (pc' := 95) (S' := []) (h1 := (h).set 2 (cO 11 [.ref 3, ii fd, .ref 4, .ref 9, .ref 13, .ref 15, .ref 16, .ref 98, .ref qr, .ref q, ii le, ii lp, ii lw])) dm_X11_point_92 (g_put (fs' := [.ref 3, ii fd, .ref 4, .ref 9, .ref 13, .ref 15, .ref 16, .ref 98, .ref qr, .ref q, ii le, ii lp, ii lw]) h2 rfl rfl rfl (by simp) rfl (by decide) (fun z => by cases z) (by decide)) rfl rfl rfl ?_
      refine me0 (pc' := 96) (S' := [ii 1]) dm_X11_point_95 rfl rfl rfl rfl ?_
      refine y_ret (r := some (ii 1)) dm_X11_point_96 rfl rfl rfl ?_
      exact ⟨_, rfl, rfl, rfl⟩
  · exfalso; omega
theorem dm_X11_point_31 : mj_dec prog_1_method_9_code 31 = some (.iload_n 1, 1) := by decide +kernel
theorem dm_X11_point_32 : mj_dec prog_1_method_9_code 32 = some (.iconst 2, 1) := by decide +kernel
theorem dm_X11_point_33 : mj_dec prog_1_method_9_code 33 = some (.if_icmp .ne 51, 3) := by decide +kernel
theorem dm_X11_point_36 : mj_dec prog_1_method_9_code 36 = some (.aload_n 0, 1) := by decide +kernel
theorem dm_X11_point_37 : mj_dec prog_1_method_9_code 37 = some (.getfield 70, 3) := by decide +kernel
theorem dm_X11_point_40 : mj_dec prog_1_method_9_code 40 = some (.getfield 158, 3) := by decide +kernel
theorem dm_X11_point_43 : mj_dec prog_1_method_9_code 43 = some (.bipush 7, 2) := by decide +kernel
theorem dm_X11_point_45 : mj_dec prog_1_method_9_code 45 = some (.if_icmp .eq 15, 3) := by decide +kernel
theorem dm_X11_point_48 : mj_dec prog_1_method_9_code 48 = some (.aload_n 0, 1) := by decide +kernel
theorem dm_X11_point_49 : mj_dec prog_1_method_9_code 49 = some (.getfield 70, 3) := by decide +kernel
theorem dm_X11_point_52 : mj_dec prog_1_method_9_code 52 = some (.getfield 158, 3) := by decide +kernel
theorem dm_X11_point_55 : mj_dec prog_1_method_9_code 55 = some (.bipush 6, 2) := by decide +kernel
theorem dm_X11_point_57 : mj_dec prog_1_method_9_code 57 = some (.if_icmp .ne 27, 3) := by decide +kernel
theorem dm_X11_point_60 : mj_dec prog_1_method_9_code 60 = some (.iload_n 2, 1) := by decide +kernel
theorem dm_X11_point_61 : mj_dec prog_1_method_9_code 61 = some (.ifCond .lt 23, 3) := by decide +kernel
theorem dm_X11_point_64 : mj_dec prog_1_method_9_code 64 = some (.iload_n 2, 1) := by decide +kernel
theorem dm_X11_point_65 : mj_dec prog_1_method_9_code 65 = some (.aload_n 0, 1) := by decide +kernel
theorem dm_X11_point_66 : mj_dec prog_1_method_9_code 66 = some (.getfield 70, 3) := by decide +kernel
theorem dm_X11_point_69 : mj_dec prog_1_method_9_code 69 = some (.getfield 161, 3) := by decide +kernel
theorem dm_X11_point_72 : mj_dec prog_1_method_9_code 72 = some (.if_icmp .ge 12, 3) := by decide +kernel
theorem a_ptN {xt : mj_X} {d qr qp : Nat} {h : mj_H} {fd le lp lw : Int} (hd : 8 ≤ d) (h2 : h[2]? = some (acC fd qr qp le lp lw)) {what k : Int} (hwh : -2147483648 ≤ what ∧ what ≤ 2147483647) (hk : -2147483648 ≤ k ∧ k ≤ 2147483647) {A : Nat → Prop} {e : Nat} {v : VV} (hv : cv A h (e + 1) qp v) (h0 : what ≠ 0 ∧ what ≠ 1) (hno : what ≠ 2 ∨ vk v < 6 ∨ k < 0 ∨ (vm v : Int) ≤ k) : pgV xt d 182 [.ref 2, ii what, ii k] h (fun y h' => y = ii 0 ∧ h' = h) := by
  obtain ⟨hw, ⟨hq2, hpA⟩, hsz, hlv, row, fr, vals, hvq, hfr, h1, h3, h7⟩ := id hv
  have hm := vw1_m hw
  clear h1 h3 h7
  refine x_enter pm_X11_point (L0 := [(0, .ref 2), (1, ii what), (2, ii k)]) rfl (Nat.le_of_ble_eq_true rfl) (by omega) ?_
  refine me0 (pc' := 1) (S' := [.null]) dm_X11_point_0 rfl rfl rfl rfl ?_
  refine me1 (pc' := 2) (L' := [(3, .null), (0, .ref 2), (1, ii what), (2, ii k)]) (S' := []) dm_X11_point_1 rfl rfl rfl rfl ?_
  refine me1 (pc' := 3) (L' := [(3, .null), (0, .ref 2), (1, ii what), (2, ii k)]) (S' := [ii what]) dm_X11_point_2 rfl rfl rfl rfl ?_
  refine y_1ne (a := what) (t := 14) (pc' := 6) dm_X11_point_3 rfl rfl (by omega) (fun hb1 => ?_) (fun hb1 => ?_)
  · refine me1 (pc' := 15) (L' := [(3, .null), (0, .ref 2), (1, ii what), (2, ii k)]) (S' := [ii what]) dm_X11_point_14 rfl rfl rfl rfl ?_
    refine me0 (pc' := 16) (S' := [ii 1, ii what]) dm_X11_point_15 rfl rfl rfl rfl ?_
    refine y_2ne (a := what) (b := 1) (t := 31) (pc' := 19) dm_X11_point_16 rfl rfl (by omega) (fun hb2 => ?_) (fun hb2 => ?_)
    · refine me1 (pc' := 32) (L' := [(3, .null), (0, .ref 2), (1, ii what), (2, ii k)]) (S' := [ii what]) dm_X11_point_31 rfl rfl rfl rfl ?_
      refine me0 (pc' := 33) (S' := [ii 2, ii what]) dm_X11_point_32 rfl rfl rfl rfl ?_
      refine y_2ne (a := what) (b := 2) (t := 84) (pc' := 36) dm_X11_point_33 rfl rfl (by omega) (fun hb3 => ?_) (fun hb3 => ?_)
      · refine me1 (pc' := 85) (L' := [(3, .null), (0, .ref 2), (1, ii what), (2, ii k)]) (S' := [.null]) dm_X11_point_84 rfl rfl rfl rfl ?_
        refine me2 (pc' := 88) (S' := []) dm_X11_point_85 rfl rfl rfl ?_
        refine me0 (pc' := 89) (S' := [ii 0]) dm_X11_point_88 rfl rfl rfl rfl ?_
        refine y_ret (r := some (ii 0)) dm_X11_point_89 rfl rfl rfl ?_
        exact ⟨_, rfl, rfl, rfl⟩
      · refine me1 (pc' := 37) (L' := [(3, .null), (0, .ref 2), (1, ii what), (2, ii k)]) (S' := [.ref 2]) dm_X11_point_36 rfl rfl rfl rfl ?_
        refine me3 (pc' := 40) (S' := [.ref qp]) dm_X11_point_37 (g_get (v := .ref qp) h2 rfl rfl (by decide)) rfl rfl rfl ?_
        refine me3 (pc' := 43) (S' := [ii (vk v : Int)]) dm_X11_point_40 (g_get (v := ii (vk v : Int)) hvq rfl rfl (by omega)) rfl rfl rfl ?_
        refine me0 (pc' := 45) (S' := [ii 7, ii (vk v : Int)]) dm_X11_point_43 rfl rfl rfl rfl ?_
        refine y_2eq (a := (vk v : Int)) (b := 7) (t := 60) (pc' := 48) dm_X11_point_45 rfl rfl (by omega) (fun hb4 => ?_) (fun hb4 => ?_)
        · refine me1 (pc' := 61) (L' := [(3, .null), (0, .ref 2), (1, ii what), (2, ii k)]) (S' := [ii k]) dm_X11_point_60 rfl rfl rfl rfl ?_
          refine y_1lt (a := k) (t := 84) (pc' := 64) dm_X11_point_61 rfl rfl (by omega) (fun hb5 => ?_) (fun hb5 => ?_)
          · refine me1 (pc' := 85) (L' := [(3, .null), (0, .ref 2), (1, ii what), (2, ii k)]) (S' := [.null]) dm_X11_point_84 rfl rfl rfl rfl ?_
            refine me2 (pc' := 88) (S' := []) dm_X11_point_85 rfl rfl rfl ?_
            refine me0 (pc' := 89) (S' := [ii 0]) dm_X11_point_88 rfl rfl rfl rfl ?_
            refine y_ret (r := some (ii 0)) dm_X11_point_89 rfl rfl rfl ?_
            exact ⟨_, rfl, rfl, rfl⟩
          · refine me1 (pc' := 65) (L' := [(3, .null), (0, .ref 2), (1, ii what), (2, ii k)]) (S' := [ii k]) dm_X11_point_64 rfl rfl rfl rfl ?_
            refine me1 (pc' := 66) (L' := [(3, .null), (0, .ref 2), (1, ii what), (2, ii k)]) (S' := [.ref 2, ii k]) dm_X11_point_65 rfl rfl rfl rfl ?_
            refine me3 (pc' := 69) (S' := [.ref qp, ii k]) dm_X11_point_66 (g_get (v := .ref qp) h2 rfl rfl (by decide)) rfl rfl rfl ?_
            refine me3 (pc' := 72) (S' := [ii (vm v : Int), ii k]) dm_X11_point_69 (g_get (v := ii (vm v : Int)) hvq rfl rfl (by omega)) rfl rfl rfl ?_
            refine y_2ge (a := k) (b := (vm v : Int)) (t := 84) (pc' := 75) dm_X11_point_72 rfl rfl (by omega) (fun hb6 => ?_) (fun hb6 => ?_)
            · refine me1 (pc' := 85) (L' := [(3, .null), (0, .ref 2), (1, ii what), (2, ii k)]) (S' := [.null]) dm_X11_point_84 rfl rfl rfl rfl ?_
              refine me2 (pc' := 88) (S' := []) dm_X11_point_85 rfl rfl rfl ?_
              refine me0 (pc' := 89) (S' := [ii 0]) dm_X11_point_88 rfl rfl rfl rfl ?_
              refine y_ret (r := some (ii 0)) dm_X11_point_89 rfl rfl rfl ?_
              exact ⟨_, rfl, rfl, rfl⟩
            · exfalso; omega
        · refine me1 (pc' := 49) (L' := [(3, .null), (0, .ref 2), (1, ii what), (2, ii k)]) (S' := [.ref 2]) dm_X11_point_48 rfl rfl rfl rfl ?_
          refine me3 (pc' := 52) (S' := [.ref qp]) dm_X11_point_49 (g_get (v := .ref qp) h2 rfl rfl (by decide)) rfl rfl rfl ?_
          refine me3 (pc' := 55) (S' := [ii (vk v : Int)]) dm_X11_point_52 (g_get (v := ii (vk v : Int)) hvq rfl rfl (by omega)) rfl rfl rfl ?_
          refine me0 (pc' := 57) (S' := [ii 6, ii (vk v : Int)]) dm_X11_point_55 rfl rfl rfl rfl ?_
          refine y_2ne (a := (vk v : Int)) (b := 6) (t := 84) (pc' := 60) dm_X11_point_57 rfl rfl (by omega) (fun hb7 => ?_) (fun hb7 => ?_)
          · refine me1 (pc' := 85) (L' := [(3, .null), (0, .ref 2), (1, ii what), (2, ii k)]) (S' := [.null]) dm_X11_point_84 rfl rfl rfl rfl ?_
            refine me2 (pc' := 88) (S' := []) dm_X11_point_85 rfl rfl rfl ?_
            refine me0 (pc' := 89) (S' := [ii 0]) dm_X11_point_88 rfl rfl rfl rfl ?_
            refine y_ret (r := some (ii 0)) dm_X11_point_89 rfl rfl rfl ?_
            exact ⟨_, rfl, rfl, rfl⟩
          · refine me1 (pc' := 61) (L' := [(3, .null), (0, .ref 2), (1, ii what), (2, ii k)]) (S' := [ii k]) dm_X11_point_60 rfl rfl rfl rfl ?_
            refine y_1lt (a := k) (t := 84) (pc' := 64) dm_X11_point_61 rfl rfl (by omega) (fun hb8 => ?_) (fun hb8 => ?_)
            · refine me1 (pc' := 85) (L' := [(3, .null), (0, .ref 2), (1, ii what), (2, ii k)]) (S' := [.null]) dm_X11_point_84 rfl rfl rfl rfl ?_
              refine me2 (pc' := 88) (S' := []) dm_X11_point_85 rfl rfl rfl ?_
              refine me0 (pc' := 89) (S' := [ii 0]) dm_X11_point_88 rfl rfl rfl rfl ?_
              refine y_ret (r := some (ii 0)) dm_X11_point_89 rfl rfl rfl ?_
              exact ⟨_, rfl, rfl, rfl⟩
            · refine me1 (pc' := 65) (L' := [(3, .null), (0, .ref 2), (1, ii what), (2, ii k)]) (S' := [ii k]) dm_X11_point_64 rfl rfl rfl rfl ?_
              refine me1 (pc' := 66) (L' := [(3, .null), (0, .ref 2), (1, ii what), (2, ii k)]) (S' := [.ref 2, ii k]) dm_X11_point_65 rfl rfl rfl rfl ?_
              refine me3 (pc' := 69) (S' := [.ref qp, ii k]) dm_X11_point_66 (g_get (v := .ref qp) h2 rfl rfl (by decide)) rfl rfl rfl ?_
              refine me3 (pc' := 72) (S' := [ii (vm v : Int), ii k]) dm_X11_point_69 (g_get (v := ii (vm v : Int)) hvq rfl rfl (by omega)) rfl rfl rfl ?_
              refine y_2ge (a := k) (b := (vm v : Int)) (t := 84) (pc' := 75) dm_X11_point_72 rfl rfl (by omega) (fun hb9 => ?_) (fun hb9 => ?_)
              · refine me1 (pc' := 85) (L' := [(3, .null), (0, .ref 2), (1, ii what), (2, ii k)]) (S' := [.null]) dm_X11_point_84 rfl rfl rfl rfl ?_
                refine me2 (pc' := 88) (S' := []) dm_X11_point_85 rfl rfl rfl ?_
                refine me0 (pc' := 89) (S' := [ii 0]) dm_X11_point_88 rfl rfl rfl rfl ?_
                refine y_ret (r := some (ii 0)) dm_X11_point_89 rfl rfl rfl ?_
                exact ⟨_, rfl, rfl, rfl⟩
              · exfalso; omega
    · exfalso; omega
  · exfalso; omega
theorem dm_X11_point_75 : mj_dec prog_1_method_9_code 75 = some (.aload_n 0, 1) := by decide +kernel
theorem dm_X11_point_76 : mj_dec prog_1_method_9_code 76 = some (.getfield 70, 3) := by decide +kernel
theorem dm_X11_point_79 : mj_dec prog_1_method_9_code 79 = some (.iload_n 2, 1) := by decide +kernel
theorem dm_X11_point_80 : mj_dec prog_1_method_9_code 80 = some (.invokevirtual 164, 3) := by decide +kernel
theorem dm_X11_point_83 : mj_dec prog_1_method_9_code 83 = some (.astore_n 3, 1) := by decide +kernel
theorem a_pt2Y {xt : mj_X} {d qr qp : Nat} {h : mj_H} {fd le lp lw : Int} (hd : 8 ≤ d) (h2 : h[2]? = some (acC fd qr qp le lp lw)) {what : Int} {j : Nat} (hwh : -2147483648 ≤ what ∧ what ≤ 2147483647) {A : Nat → Prop} {e : Nat} {v : VV} (hv : cv A h (e + 1) qp v) {f1 : Nat → Value} (hx1 : xt 1 = some (.long, 0, f1)) (hl : 127 ≤ h.length) (h0 : what = 2) (hk6 : 6 ≤ vk v) (hj : j < vm v) : pgV xt d 182 [.ref 2, ii what, ii (j : Int)] h (fun y h' => y = ii 1 ∧ ∃ (p1 : Nat) (h1 : mj_H), vres A h (e + 1) (vit v j) 1 9 (.ref p1) h1 ∧ h' = h1.set 2 (acC fd qr p1 le lp lw)) := by
  obtain ⟨hw, ⟨hq2, hpA⟩, hsz, hlv, row, fr, vals, hvq, hfr, h1, h3, h7⟩ := id hv
  have hm := vw1_m hw
  clear h1 h3 h7
  refine x_enter pm_X11_point (L0 := [(0, .ref 2), (1, ii what), (2, ii (j : Int))]) rfl (Nat.le_of_ble_eq_true rfl) (by omega) ?_
  refine me0 (pc' := 1) (S' := [.null]) dm_X11_point_0 rfl rfl rfl rfl ?_
  refine me1 (pc' := 2) (L' := [(3, .null), (0, .ref 2), (1, ii what), (2, ii (j : Int))]) (S' := []) dm_X11_point_1 rfl rfl rfl rfl ?_
  refine me1 (pc' := 3) (L' := [(3, .null), (0, .ref 2), (1, ii what), (2, ii (j : Int))]) (S' := [ii what]) dm_X11_point_2 rfl rfl rfl rfl ?_
  refine y_1ne (a := what) (t := 14) (pc' := 6) dm_X11_point_3 rfl rfl (by omega) (fun hb1 => ?_) (fun hb1 => ?_)
  · refine me1 (pc' := 15) (L' := [(3, .null), (0, .ref 2), (1, ii what), (2, ii (j : Int))]) (S' := [ii what]) dm_X11_point_14 rfl rfl rfl rfl ?_
    refine me0 (pc' := 16) (S' := [ii 1, ii what]) dm_X11_point_15 rfl rfl rfl rfl ?_
    refine y_2ne (a := what) (b := 1) (t := 31) (pc' := 19) dm_X11_point_16 rfl rfl (by omega) (fun hb2 => ?_) (fun hb2 => ?_)
    · refine me1 (pc' := 32) (L' := [(3, .null), (0, .ref 2), (1, ii what), (2, ii (j : Int))]) (S' := [ii what]) dm_X11_point_31 rfl rfl rfl rfl ?_
      refine me0 (pc' := 33) (S' := [ii 2, ii what]) dm_X11_point_32 rfl rfl rfl rfl ?_
      refine y_2ne (a := what) (b := 2) (t := 84) (pc' := 36) dm_X11_point_33 rfl rfl (by omega) (fun hb3 => ?_) (fun hb3 => ?_)
      · exfalso; omega
      · refine me1 (pc' := 37) (L' := [(3, .null), (0, .ref 2), (1, ii what), (2, ii (j : Int))]) (S' := [.ref 2]) dm_X11_point_36 rfl rfl rfl rfl ?_
        refine me3 (pc' := 40) (S' := [.ref qp]) dm_X11_point_37 (g_get (v := .ref qp) h2 rfl rfl (by decide)) rfl rfl rfl ?_
        refine me3 (pc' := 43) (S' := [ii (vk v : Int)]) dm_X11_point_40 (g_get (v := ii (vk v : Int)) hvq rfl rfl (by omega)) rfl rfl rfl ?_
        refine me0 (pc' := 45) (S' := [ii 7, ii (vk v : Int)]) dm_X11_point_43 rfl rfl rfl rfl ?_
        refine y_2eq (a := (vk v : Int)) (b := 7) (t := 60) (pc' := 48) dm_X11_point_45 rfl rfl (by omega) (fun hb4 => ?_) (fun hb4 => ?_)
        · refine me1 (pc' := 61) (L' := [(3, .null), (0, .ref 2), (1, ii what), (2, ii (j : Int))]) (S' := [ii (j : Int)]) dm_X11_point_60 rfl rfl rfl rfl ?_
          refine y_1lt (a := (j : Int)) (t := 84) (pc' := 64) dm_X11_point_61 rfl rfl (by omega) (fun hb5 => ?_) (fun hb5 => ?_)
          · exfalso; omega
          · refine me1 (pc' := 65) (L' := [(3, .null), (0, .ref 2), (1, ii what), (2, ii (j : Int))]) (S' := [ii (j : Int)]) dm_X11_point_64 rfl rfl rfl rfl ?_
            refine me1 (pc' := 66) (L' := [(3, .null), (0, .ref 2), (1, ii what), (2, ii (j : Int))]) (S' := [.ref 2, ii (j : Int)]) dm_X11_point_65 rfl rfl rfl rfl ?_
            refine me3 (pc' := 69) (S' := [.ref qp, ii (j : Int)]) dm_X11_point_66 (g_get (v := .ref qp) h2 rfl rfl (by decide)) rfl rfl rfl ?_
            refine me3 (pc' := 72) (S' := [ii (vm v : Int), ii (j : Int)]) dm_X11_point_69 (g_get (v := ii (vm v : Int)) hvq rfl rfl (by omega)) rfl rfl rfl ?_
            refine y_2ge (a := (j : Int)) (b := (vm v : Int)) (t := 84) (pc' := 75) dm_X11_point_72 rfl rfl (by omega) (fun hb6 => ?_) (fun hb6 => ?_)
            · exfalso; omega
            · refine me1 (pc' := 76) (L' := [(3, .null), (0, .ref 2), (1, ii what), (2, ii (j : Int))]) (S' := [.ref 2]) dm_X11_point_75 rfl rfl rfl rfl ?_
              refine me3 (pc' := 79) (S' := [.ref qp]) dm_X11_point_76 (g_get (v := .ref qp) h2 rfl rfl (by decide)) rfl rfl rfl ?_
              refine me1 (pc' := 80) (L' := [(3, .null), (0, .ref 2), (1, ii what), (2, ii (j : Int))]) (S' := [ii (j : Int), .ref qp]) dm_X11_point_79 rfl rfl rfl rfl ?_
              refine x_cv (pc' := 83) (rest := []) dm_X11_point_80 rfl (g_inv (As := [ii (j : Int)]) (S := []) hvq rfl rfl rfl (by omega)) rfl rfl rfl (c_itemAt hx1 (by omega) hl hv (Or.inr hj) (by omega)) ?_
              rintro x1 h1 hres
              obtain ⟨p1, rfl⟩ := vres_ref hres
              have a2 : h1[2]? = some (acC fd qr qp le lp lw) := vres_get hres h2
              refine me1 (pc' := 84) (L' := [(3, .ref p1), (0, .ref 2), (1, ii what), (2, ii (j : Int))]) (S' := []) dm_X11_point_83 rfl rfl rfl rfl ?_
              refine me1 (pc' := 85) (L' := [(3, .ref p1), (0, .ref 2), (1, ii what), (2, ii (j : Int))]) (S' := [.ref p1]) dm_X11_point_84 rfl rfl rfl rfl ?_
              refine me2 (pc' := 90) (S' := []) dm_X11_point_85 rfl rfl rfl ?_
              refine me1 (pc' := 91) (L' := [(3, .ref p1), (0, .ref 2), (1, ii what), (2, ii (j : Int))]) (S' := [.ref 2]) dm_X11_point_90 rfl rfl rfl rfl ?_
              refine me1 (pc' := 92) (L' := [(3, .ref p1), (0, .ref 2), (1, ii what), (2, ii (j : Int))]) (S' := [.ref p1, .ref 2]) dm_X11_point_91 rfl rfl rfl rfl ?_
              refine me3 (pc' := 95) (S' := []) (h1 := (h1).set 2 (cO 11 [.ref 3, ii fd, .ref 4, .ref 9, .ref 13, .ref 15, .ref 16, .ref 98, .ref qr, .ref p1, ii le, ii lp, ii lw])) dm_X11_point_92 (g_put (fs' := [.ref 3, ii fd, .ref 4, .ref 9, .ref 13, .ref 15, .ref 16, .ref 98, .ref qr, .ref p1, ii le, ii lp, ii lw]) a2 rfl rfl rfl (by simp) rfl (by decide) (fun z => by cases z) (by decide)) rfl rfl rfl ?_
              refine me0 (pc' := 96) (S' := [ii 1]) dm_X11_point_95 rfl rfl rfl rfl ?_
              refine y_ret (r := some (ii 1)) dm_X11_point_96 rfl rfl rfl ?_
              exact ⟨_, rfl, rfl, p1, h1, hres, rfl⟩
        · refine me1 (pc' := 49) (L' := [(3, .null), (0, .ref 2), (1, ii what), (2, ii (j : Int))]) (S' := [.ref 2]) dm_X11_point_48 rfl rfl rfl rfl ?_
          refine me3 (pc' := 52) (S' := [.ref qp]) dm_X11_point_49 (g_get (v := .ref qp) h2 rfl rfl (by decide)) rfl rfl rfl ?_
          refine me3 (pc' := 55) (S' := [ii (vk v : Int)]) dm_X11_point_52 (g_get (v := ii (vk v : Int)) hvq rfl rfl (by omega)) rfl rfl rfl ?_
          refine me0 (pc' := 57) (S' := [ii 6, ii (vk v : Int)]) dm_X11_point_55 rfl rfl rfl rfl ?_
          refine y_2ne (a := (vk v : Int)) (b := 6) (t := 84) (pc' := 60) dm_X11_point_57 rfl rfl (by omega) (fun hb7 => ?_) (fun hb7 => ?_)
          · exfalso; omega
          · refine me1 (pc' := 61) (L' := [(3, .null), (0, .ref 2), (1, ii what), (2, ii (j : Int))]) (S' := [ii (j : Int)]) dm_X11_point_60 rfl rfl rfl rfl ?_
            refine y_1lt (a := (j : Int)) (t := 84) (pc' := 64) dm_X11_point_61 rfl rfl (by omega) (fun hb8 => ?_) (fun hb8 => ?_)
            · exfalso; omega
            · refine me1 (pc' := 65) (L' := [(3, .null), (0, .ref 2), (1, ii what), (2, ii (j : Int))]) (S' := [ii (j : Int)]) dm_X11_point_64 rfl rfl rfl rfl ?_
              refine me1 (pc' := 66) (L' := [(3, .null), (0, .ref 2), (1, ii what), (2, ii (j : Int))]) (S' := [.ref 2, ii (j : Int)]) dm_X11_point_65 rfl rfl rfl rfl ?_
              refine me3 (pc' := 69) (S' := [.ref qp, ii (j : Int)]) dm_X11_point_66 (g_get (v := .ref qp) h2 rfl rfl (by decide)) rfl rfl rfl ?_
              refine me3 (pc' := 72) (S' := [ii (vm v : Int), ii (j : Int)]) dm_X11_point_69 (g_get (v := ii (vm v : Int)) hvq rfl rfl (by omega)) rfl rfl rfl ?_
              refine y_2ge (a := (j : Int)) (b := (vm v : Int)) (t := 84) (pc' := 75) dm_X11_point_72 rfl rfl (by omega) (fun hb9 => ?_) (fun hb9 => ?_)
              · exfalso; omega
              · refine me1 (pc' := 76) (L' := [(3, .null), (0, .ref 2), (1, ii what), (2, ii (j : Int))]) (S' := [.ref 2]) dm_X11_point_75 rfl rfl rfl rfl ?_
                refine me3 (pc' := 79) (S' := [.ref qp]) dm_X11_point_76 (g_get (v := .ref qp) h2 rfl rfl (by decide)) rfl rfl rfl ?_
                refine me1 (pc' := 80) (L' := [(3, .null), (0, .ref 2), (1, ii what), (2, ii (j : Int))]) (S' := [ii (j : Int), .ref qp]) dm_X11_point_79 rfl rfl rfl rfl ?_
                refine x_cv (pc' := 83) (rest := []) dm_X11_point_80 rfl (g_inv (As := [ii (j : Int)]) (S := []) hvq rfl rfl rfl (by omega)) rfl rfl rfl (c_itemAt hx1 (by omega) hl hv (Or.inr hj) (by omega)) ?_
                rintro x1 h1 hres
                obtain ⟨p1, rfl⟩ := vres_ref hres
                have a2 : h1[2]? = some (acC fd qr qp le lp lw) := vres_get hres h2
                refine me1 (pc' := 84) (L' := [(3, .ref p1), (0, .ref 2), (1, ii what), (2, ii (j : Int))]) (S' := []) dm_X11_point_83 rfl rfl rfl rfl ?_
                refine me1 (pc' := 85) (L' := [(3, .ref p1), (0, .ref 2), (1, ii what), (2, ii (j : Int))]) (S' := [.ref p1]) dm_X11_point_84 rfl rfl rfl rfl ?_
                refine me2 (pc' := 90) (S' := []) dm_X11_point_85 rfl rfl rfl ?_
                refine me1 (pc' := 91) (L' := [(3, .ref p1), (0, .ref 2), (1, ii what), (2, ii (j : Int))]) (S' := [.ref 2]) dm_X11_point_90 rfl rfl rfl rfl ?_
                refine me1 (pc' := 92) (L' := [(3, .ref p1), (0, .ref 2), (1, ii what), (2, ii (j : Int))]) (S' := [.ref p1, .ref 2]) dm_X11_point_91 rfl rfl rfl rfl ?_
                refine me3 (pc' := 95) (S' := []) (h1 := (h1).set 2 (cO 11 [.ref 3, ii fd, .ref 4, .ref 9, .ref 13, .ref 15, .ref 16, .ref 98, .ref qr, .ref p1, ii le, ii lp, ii lw])) dm_X11_point_92 (g_put (fs' := [.ref 3, ii fd, .ref 4, .ref 9, .ref 13, .ref 15, .ref 16, .ref 98, .ref qr, .ref p1, ii le, ii lp, ii lw]) a2 rfl rfl rfl (by simp) rfl (by decide) (fun z => by cases z) (by decide)) rfl rfl rfl ?_
                refine me0 (pc' := 96) (S' := [ii 1]) dm_X11_point_95 rfl rfl rfl rfl ?_
                refine y_ret (r := some (ii 1)) dm_X11_point_96 rfl rfl rfl ?_
                exact ⟨_, rfl, rfl, p1, h1, hres, rfl⟩
    · exfalso; omega
  · exfalso; omega
