/-- the state behind means (K, V, c the names that get one; K2, V2, c2 those that lose it) -/
def nameS (s : RS) (K V c K2 V2 c2 n m : Nat) (key : Int64) (x : Int) : RS := (va_up (va_up s.1 c2 ((delN m (fndK (s.2.2.2 K2) m key) : Nat) : Int)) c ((max n (fndK (s.2.2.2 K) n key + 1) : Nat) : Int), s.2.1, va_up (va_up s.2.2.1 V2 (delF (s.2.2.1 V2) m (fndK (s.2.2.2 K2) m key))) V (va_up (s.2.2.1 V) (fndK (s.2.2.2 K) n key) x), va_up (va_up s.2.2.2 K2 (delF (s.2.2.2 K2) m (fndK (s.2.2.2 K2) m key))) K (va_up (s.2.2.2 K) (fndK (s.2.2.2 K) n key) key))
theorem fndR_c (f : Nat → Int64) (n : Nat) (key : Int64) : (fndR f n key = ((fndK f n key : Nat) : Int) ∧ fndK f n key < n) ∨ (fndR f n key = -1 ∧ fndK f n key = n) := by
  have := fstN_le (fun k => decide (f k = key)) n
  by_cases z : fndK f n key < n
  · exact Or.inl ⟨fndR_y z, z⟩
  · exact Or.inr ⟨fndR_n z, Nat.le_antisymm this (Nat.not_lt.mp z)⟩
set_option maxRecDepth 20000 in
theorem pm_X12_means : mj_mmof pg_ms 304 = some ((⟨"ArrayCalculatorModel", "means", "(JI)V"⟩, prog_14_method_66_code, 6, (Option.none : Option Jvm.ClassFile.FieldType)), 12, false, mj_dec prog_14_method_66_code) := rfl
theorem dm_X12_means_0 : mj_dec prog_14_method_66_code 0 = some (.aload_n 0, 1) := by decide +kernel
theorem dm_X12_means_1 : mj_dec prog_14_method_66_code 1 = some (.lload_n 1, 1) := by decide +kernel
theorem dm_X12_means_2 : mj_dec prog_14_method_66_code 2 = some (.invokevirtual 363, 3) := by decide +kernel
theorem dm_X12_means_5 : mj_dec prog_14_method_66_code 5 = some (.istore 4, 2) := by decide +kernel
theorem dm_X12_means_7 : mj_dec prog_14_method_66_code 7 = some (.iload 4, 2) := by decide +kernel
theorem dm_X12_means_9 : mj_dec prog_14_method_66_code 9 = some (.ifCond .lt 64, 3) := by decide +kernel
theorem dm_X12_means_12 : mj_dec prog_14_method_66_code 12 = some (.aload_n 0, 1) := by decide +kernel
theorem dm_X12_means_13 : mj_dec prog_14_method_66_code 13 = some (.dup, 1) := by decide +kernel
theorem dm_X12_means_14 : mj_dec prog_14_method_66_code 14 = some (.getfield 360, 3) := by decide +kernel
theorem dm_X12_means_17 : mj_dec prog_14_method_66_code 17 = some (.iconst 1, 1) := by decide +kernel
theorem dm_X12_means_18 : mj_dec prog_14_method_66_code 18 = some (.isub, 1) := by decide +kernel
theorem dm_X12_means_19 : mj_dec prog_14_method_66_code 19 = some (.putfield 360, 3) := by decide +kernel
theorem dm_X12_means_22 : mj_dec prog_14_method_66_code 22 = some (.iload 4, 2) := by decide +kernel
theorem dm_X12_means_24 : mj_dec prog_14_method_66_code 24 = some (.istore 5, 2) := by decide +kernel
theorem dm_X12_means_26 : mj_dec prog_14_method_66_code 26 = some (.iload 5, 2) := by decide +kernel
theorem dm_X12_means_28 : mj_dec prog_14_method_66_code 28 = some (.aload_n 0, 1) := by decide +kernel
theorem dm_X12_means_29 : mj_dec prog_14_method_66_code 29 = some (.getfield 360, 3) := by decide +kernel
theorem dm_X12_means_32 : mj_dec prog_14_method_66_code 32 = some (.if_icmp .ge 41, 3) := by decide +kernel
theorem dm_X12_means_35 : mj_dec prog_14_method_66_code 35 = some (.aload_n 0, 1) := by decide +kernel
theorem dm_X12_means_36 : mj_dec prog_14_method_66_code 36 = some (.getfield 46, 3) := by decide +kernel
theorem dm_X12_means_39 : mj_dec prog_14_method_66_code 39 = some (.iload 5, 2) := by decide +kernel
theorem dm_X12_means_41 : mj_dec prog_14_method_66_code 41 = some (.aload_n 0, 1) := by decide +kernel
theorem dm_X12_means_42 : mj_dec prog_14_method_66_code 42 = some (.getfield 46, 3) := by decide +kernel
theorem dm_X12_means_45 : mj_dec prog_14_method_66_code 45 = some (.iload 5, 2) := by decide +kernel
theorem dm_X12_means_47 : mj_dec prog_14_method_66_code 47 = some (.iconst 1, 1) := by decide +kernel
theorem dm_X12_means_48 : mj_dec prog_14_method_66_code 48 = some (.iadd, 1) := by decide +kernel
theorem dm_X12_means_49 : mj_dec prog_14_method_66_code 49 = some (.laload, 1) := by decide +kernel
theorem dm_X12_means_50 : mj_dec prog_14_method_66_code 50 = some (.lastore, 1) := by decide +kernel
theorem dm_X12_means_51 : mj_dec prog_14_method_66_code 51 = some (.aload_n 0, 1) := by decide +kernel
theorem dm_X12_means_52 : mj_dec prog_14_method_66_code 52 = some (.getfield 52, 3) := by decide +kernel
theorem dm_X12_means_55 : mj_dec prog_14_method_66_code 55 = some (.iload 5, 2) := by decide +kernel
theorem dm_X12_means_57 : mj_dec prog_14_method_66_code 57 = some (.aload_n 0, 1) := by decide +kernel
theorem dm_X12_means_58 : mj_dec prog_14_method_66_code 58 = some (.getfield 52, 3) := by decide +kernel
theorem dm_X12_means_61 : mj_dec prog_14_method_66_code 61 = some (.iload 5, 2) := by decide +kernel
theorem dm_X12_means_63 : mj_dec prog_14_method_66_code 63 = some (.iconst 1, 1) := by decide +kernel
theorem dm_X12_means_64 : mj_dec prog_14_method_66_code 64 = some (.iadd, 1) := by decide +kernel
theorem dm_X12_means_65 : mj_dec prog_14_method_66_code 65 = some (.iaload, 1) := by decide +kernel
theorem dm_X12_means_66 : mj_dec prog_14_method_66_code 66 = some (.iastore, 1) := by decide +kernel
theorem dm_X12_means_67 : mj_dec prog_14_method_66_code 67 = some (.iinc 5 1, 3) := by decide +kernel
theorem dm_X12_means_70 : mj_dec prog_14_method_66_code 70 = some (.goto (-44), 3) := by decide +kernel
theorem dm_X12_means_73 : mj_dec prog_14_method_66_code 73 = some (.aload_n 0, 1) := by decide +kernel
theorem dm_X12_means_74 : mj_dec prog_14_method_66_code 74 = some (.lload_n 1, 1) := by decide +kernel
theorem dm_X12_means_75 : mj_dec prog_14_method_66_code 75 = some (.invokevirtual 367, 3) := by decide +kernel
theorem dm_X12_means_78 : mj_dec prog_14_method_66_code 78 = some (.istore 5, 2) := by decide +kernel
theorem dm_X12_means_80 : mj_dec prog_14_method_66_code 80 = some (.iload 5, 2) := by decide +kernel
theorem dm_X12_means_82 : mj_dec prog_14_method_66_code 82 = some (.ifCond .ge 19, 3) := by decide +kernel
theorem dm_X12_means_85 : mj_dec prog_14_method_66_code 85 = some (.aload_n 0, 1) := by decide +kernel
theorem dm_X12_means_86 : mj_dec prog_14_method_66_code 86 = some (.getfield 357, 3) := by decide +kernel
theorem dm_X12_means_89 : mj_dec prog_14_method_66_code 89 = some (.istore 5, 2) := by decide +kernel
theorem dm_X12_means_91 : mj_dec prog_14_method_66_code 91 = some (.aload_n 0, 1) := by decide +kernel
theorem dm_X12_means_92 : mj_dec prog_14_method_66_code 92 = some (.dup, 1) := by decide +kernel
theorem dm_X12_means_93 : mj_dec prog_14_method_66_code 93 = some (.getfield 357, 3) := by decide +kernel
theorem dm_X12_means_96 : mj_dec prog_14_method_66_code 96 = some (.iconst 1, 1) := by decide +kernel
theorem dm_X12_means_97 : mj_dec prog_14_method_66_code 97 = some (.iadd, 1) := by decide +kernel
theorem dm_X12_means_98 : mj_dec prog_14_method_66_code 98 = some (.putfield 357, 3) := by decide +kernel
theorem dm_X12_means_101 : mj_dec prog_14_method_66_code 101 = some (.aload_n 0, 1) := by decide +kernel
theorem dm_X12_means_102 : mj_dec prog_14_method_66_code 102 = some (.getfield 43, 3) := by decide +kernel
theorem dm_X12_means_105 : mj_dec prog_14_method_66_code 105 = some (.iload 5, 2) := by decide +kernel
theorem dm_X12_means_107 : mj_dec prog_14_method_66_code 107 = some (.lload_n 1, 1) := by decide +kernel
theorem dm_X12_means_108 : mj_dec prog_14_method_66_code 108 = some (.lastore, 1) := by decide +kernel
theorem dm_X12_means_109 : mj_dec prog_14_method_66_code 109 = some (.aload_n 0, 1) := by decide +kernel
theorem dm_X12_means_110 : mj_dec prog_14_method_66_code 110 = some (.getfield 49, 3) := by decide +kernel
theorem dm_X12_means_113 : mj_dec prog_14_method_66_code 113 = some (.iload 5, 2) := by decide +kernel
theorem dm_X12_means_115 : mj_dec prog_14_method_66_code 115 = some (.iload_n 3, 1) := by decide +kernel
theorem dm_X12_means_116 : mj_dec prog_14_method_66_code 116 = some (.iastore, 1) := by decide +kernel
theorem dm_X12_means_117 : mj_dec prog_14_method_66_code 117 = some (.return_, 1) := by decide +kernel
theorem r_means_ {xt : mj_X} {d n m : Nat} {pre post : mj_H} {s : RS} {key : Int64} (hm : pre.length = 102) (hd1 : 2 ≤ d) (hvn : s.1 23 = (n : Int)) (hfn : s.1 24 = (m : Int)) (hn : n ≤ 40) (hm2 : m ≤ 40) {x : Int} (h40 : fndK (s.2.2.2 19) n key < 40) : pgN xt d 304 [.ref 102, .long key, ii x] (rS pre post s) (fun h' => h' = rS pre post (nameS s 19 21 23 20 22 24 n m key x)) := by
  have hc2 := fndR_c (s.2.2.2 20) m key
  have hc1 := fndR_c (s.2.2.2 19) n key
  obtain ⟨j, hj⟩ : ∃ j, j = fndK (s.2.2.2 20) m key := ⟨_, rfl⟩
  obtain ⟨i, hi⟩ : ∃ i, i = fndK (s.2.2.2 19) n key := ⟨_, rfl⟩
  rw [← hj] at hc2
  rw [← hi] at hc1
  refine x_enter pm_X12_means (L0 := [(0, .ref 102), (1, .long key), (3, ii x)]) rfl (Nat.le_of_ble_eq_true rfl) (by omega) ?_
  refine me1 (pc' := 1) (L' := [(0, .ref 102), (1, .long key), (3, ii x)]) (S' := [.ref 102]) dm_X12_means_0 rfl rfl rfl rfl ?_
  refine me1 (pc' := 2) (L' := [(0, .ref 102), (1, .long key), (3, ii x)]) (S' := [.long key, .ref 102]) dm_X12_means_1 rfl rfl rfl rfl ?_
  refine x_cp (pc' := 5) (v := ii (fndR (s.2.2.2 20) m key)) (rest := []) dm_X12_means_2 rfl (q_inv (As := [.long key]) (S := []) hm rfl rfl rfl) rfl rfl rfl (r_functionNamed_ hm (by omega) hvn hfn hn hm2) ?_
  refine me1 (pc' := 7) (L' := [(4, ii (fndR (s.2.2.2 20) m key)), (0, .ref 102), (1, .long key), (3, ii x)]) (S' := []) dm_X12_means_5 rfl rfl rfl rfl ?_
  refine me1 (pc' := 9) (L' := [(4, ii (fndR (s.2.2.2 20) m key)), (0, .ref 102), (1, .long key), (3, ii x)]) (S' := [ii (fndR (s.2.2.2 20) m key)]) dm_X12_means_7 rfl rfl rfl rfl ?_
  refine y_1lt (a := fndR (s.2.2.2 20) m key) (t := 73) (pc' := 12) dm_X12_means_9 rfl rfl (by omega) (fun hb1 => ?_) (fun hb1 => ?_)
  · refine me1 (pc' := 74) (L' := [(4, ii (fndR (s.2.2.2 20) m key)), (0, .ref 102), (1, .long key), (3, ii x)]) (S' := [.ref 102]) dm_X12_means_73 rfl rfl rfl rfl ?_
    refine me1 (pc' := 75) (L' := [(4, ii (fndR (s.2.2.2 20) m key)), (0, .ref 102), (1, .long key), (3, ii x)]) (S' := [.long key, .ref 102]) dm_X12_means_74 rfl rfl rfl rfl ?_
    refine x_cp (pc' := 78) (v := ii (fndR (s.2.2.2 19) n key)) (rest := []) dm_X12_means_75 rfl (q_inv (As := [.long key]) (S := []) hm rfl rfl rfl) rfl rfl rfl (r_valueNamed_ hm (by omega) hvn hfn hn hm2) ?_
    refine me1 (pc' := 80) (L' := [(5, ii (fndR (s.2.2.2 19) n key)), (4, ii (fndR (s.2.2.2 20) m key)), (0, .ref 102), (1, .long key), (3, ii x)]) (S' := []) dm_X12_means_78 rfl rfl rfl rfl ?_
    refine me1 (pc' := 82) (L' := [(5, ii (fndR (s.2.2.2 19) n key)), (4, ii (fndR (s.2.2.2 20) m key)), (0, .ref 102), (1, .long key), (3, ii x)]) (S' := [ii (fndR (s.2.2.2 19) n key)]) dm_X12_means_80 rfl rfl rfl rfl ?_
    refine y_1ge (a := fndR (s.2.2.2 19) n key) (t := 101) (pc' := 85) dm_X12_means_82 rfl rfl (by omega) (fun hb2 => ?_) (fun hb2 => ?_)
    · refine me1 (pc' := 102) (L' := [(5, ii (fndR (s.2.2.2 19) n key)), (4, ii (fndR (s.2.2.2 20) m key)), (0, .ref 102), (1, .long key), (3, ii x)]) (S' := [.ref 102]) dm_X12_means_101 rfl rfl rfl rfl ?_
      refine me3 (pc' := 105) (S' := [.ref (102 + 8)]) dm_X12_means_102 (q_getr hm rfl (fun m i l => rg_19 m i l)) rfl rfl rfl ?_
      refine me1 (pc' := 107) (L' := [(5, ii (fndR (s.2.2.2 19) n key)), (4, ii (fndR (s.2.2.2 20) m key)), (0, .ref 102), (1, .long key), (3, ii x)]) (S' := [ii (fndR (s.2.2.2 19) n key), .ref (102 + 8)]) dm_X12_means_105 rfl rfl rfl rfl ?_
      refine pg_st0 (S' := [ii (i : Int), .ref (102 + 8)]) (congrArg (fun z => ii z :: [.ref (102 + 8)]) (by omega)) ?_
      refine me1 (pc' := 108) (L' := [(5, ii (fndR (s.2.2.2 19) n key)), (4, ii (fndR (s.2.2.2 20) m key)), (0, .ref 102), (1, .long key), (3, ii x)]) (S' := [.long key, ii (i : Int), .ref (102 + 8)]) dm_X12_means_107 rfl rfl rfl rfl ?_
      refine me3 (pc' := 109) (S' := []) (h1 := rI pre post s.1 s.2.1 s.2.2.1 (va_up s.2.2.2 19 (va_up (s.2.2.2 19) i key))) dm_X12_means_108 (q_last (j := (i : Int)) (k := 19) (n := 40) hm (fun m i l I J => rc_19 m i l I J) (fun m i l I J f => rs_19 m i l I J f) (by omega) (by omega) (by decide)) rfl rfl rfl ?_
      refine me1 (pc' := 110) (L' := [(5, ii (fndR (s.2.2.2 19) n key)), (4, ii (fndR (s.2.2.2 20) m key)), (0, .ref 102), (1, .long key), (3, ii x)]) (S' := [.ref 102]) dm_X12_means_109 rfl rfl rfl rfl ?_
      refine me3 (pc' := 113) (S' := [.ref (102 + 10)]) dm_X12_means_110 (q_getr hm rfl (fun m i l => rg_21 m i l)) rfl rfl rfl ?_
      refine me1 (pc' := 115) (L' := [(5, ii (fndR (s.2.2.2 19) n key)), (4, ii (fndR (s.2.2.2 20) m key)), (0, .ref 102), (1, .long key), (3, ii x)]) (S' := [ii (fndR (s.2.2.2 19) n key), .ref (102 + 10)]) dm_X12_means_113 rfl rfl rfl rfl ?_
      refine pg_st0 (S' := [ii (i : Int), .ref (102 + 10)]) (congrArg (fun z => ii z :: [.ref (102 + 10)]) (by omega)) ?_
      refine me1 (pc' := 116) (L' := [(5, ii (fndR (s.2.2.2 19) n key)), (4, ii (fndR (s.2.2.2 20) m key)), (0, .ref 102), (1, .long key), (3, ii x)]) (S' := [ii x, ii (i : Int), .ref (102 + 10)]) dm_X12_means_115 rfl rfl rfl rfl ?_
      refine me3 (pc' := 117) (S' := []) (h1 := rI pre post s.1 s.2.1 (va_up s.2.2.1 21 (va_up (s.2.2.1 21) i x)) (va_up s.2.2.2 19 (va_up (s.2.2.2 19) i key))) dm_X12_means_116 (q_iast (j := (i : Int)) (k := 21) (n := 40) hm (fun m i l I J => rc_21 m i l I J) (fun m i l I J f => rs_21 m i l I J f) (by omega) (by omega) (by decide)) rfl rfl rfl ?_
      refine y_ret (r := none) dm_X12_means_117 rfl rfl rfl ?_
      refine ⟨rfl, ?_⟩
      unfold nameS
      rw [← hi, ← hj]
      unfold delN delF
      rw [if_neg (show ¬ j < m by omega), if_neg (show ¬ j < m by omega), if_neg (show ¬ j < m by omega), up_self, up_self, ← hfn, up_self]
      rw [show ((max n (i + 1) : Nat) : Int) = s.1 23 by rw [hvn]; omega]
      rw [up_self]
    · refine me1 (pc' := 86) (L' := [(5, ii (fndR (s.2.2.2 19) n key)), (4, ii (fndR (s.2.2.2 20) m key)), (0, .ref 102), (1, .long key), (3, ii x)]) (S' := [.ref 102]) dm_X12_means_85 rfl rfl rfl rfl ?_
      refine me3 (pc' := 89) (S' := [ii (s.1 23)]) dm_X12_means_86 (q_geti (v := s.1 23) hm rfl (fun m i l => rg_23 m i l) rfl) rfl rfl rfl ?_
      refine me1 (pc' := 91) (L' := [(5, ii (s.1 23)), (4, ii (fndR (s.2.2.2 20) m key)), (0, .ref 102), (1, .long key), (3, ii x)]) (S' := []) dm_X12_means_89 rfl rfl rfl rfl ?_
      refine me1 (pc' := 92) (L' := [(5, ii (s.1 23)), (4, ii (fndR (s.2.2.2 20) m key)), (0, .ref 102), (1, .long key), (3, ii x)]) (S' := [.ref 102]) dm_X12_means_91 rfl rfl rfl rfl ?_
      refine me0 (pc' := 93) (S' := [.ref 102, .ref 102]) dm_X12_means_92 rfl rfl rfl rfl ?_
      refine me3 (pc' := 96) (S' := [ii (s.1 23), .ref 102]) dm_X12_means_93 (q_geti (v := s.1 23) hm rfl (fun m i l => rg_23 m i l) rfl) rfl rfl rfl ?_
      refine me0 (pc' := 97) (S' := [ii 1, ii (s.1 23), .ref 102]) dm_X12_means_96 rfl rfl rfl rfl ?_
      refine y_iadd (a := s.1 23) (b := 1) dm_X12_means_97 (pc' := 98) rfl ?_
      refine me3 (pc' := 101) (S' := []) (h1 := rI pre post (va_up s.1 23 ((s.1 23) + 1)) s.2.1 s.2.2.1 s.2.2.2) dm_X12_means_98 (q_puti hm rfl rfl (fun m i l v => rf_23 m i l v)) rfl rfl rfl ?_
      refine me1 (pc' := 102) (L' := [(5, ii (s.1 23)), (4, ii (fndR (s.2.2.2 20) m key)), (0, .ref 102), (1, .long key), (3, ii x)]) (S' := [.ref 102]) dm_X12_means_101 rfl rfl rfl rfl ?_
      refine me3 (pc' := 105) (S' := [.ref (102 + 8)]) dm_X12_means_102 (q_getr hm rfl (fun m i l => rg_19 m i l)) rfl rfl rfl ?_
      refine me1 (pc' := 107) (L' := [(5, ii (s.1 23)), (4, ii (fndR (s.2.2.2 20) m key)), (0, .ref 102), (1, .long key), (3, ii x)]) (S' := [ii (s.1 23), .ref (102 + 8)]) dm_X12_means_105 rfl rfl rfl rfl ?_
      refine pg_st0 (S' := [ii (i : Int), .ref (102 + 8)]) (congrArg (fun z => ii z :: [.ref (102 + 8)]) ((show _ = (i : Int) from hvn.trans (by omega)))) ?_
      refine me1 (pc' := 108) (L' := [(5, ii (s.1 23)), (4, ii (fndR (s.2.2.2 20) m key)), (0, .ref 102), (1, .long key), (3, ii x)]) (S' := [.long key, ii (i : Int), .ref (102 + 8)]) dm_X12_means_107 rfl rfl rfl rfl ?_
      refine me3 (pc' := 109) (S' := []) (h1 := rI pre post (va_up s.1 23 ((s.1 23) + 1)) s.2.1 s.2.2.1 (va_up s.2.2.2 19 (va_up (s.2.2.2 19) i key))) dm_X12_means_108 (q_last (j := (i : Int)) (k := 19) (n := 40) hm (fun m i l I J => rc_19 m i l I J) (fun m i l I J f => rs_19 m i l I J f) (by omega) (by omega) (by decide)) rfl rfl rfl ?_
      refine me1 (pc' := 110) (L' := [(5, ii (s.1 23)), (4, ii (fndR (s.2.2.2 20) m key)), (0, .ref 102), (1, .long key), (3, ii x)]) (S' := [.ref 102]) dm_X12_means_109 rfl rfl rfl rfl ?_
      refine me3 (pc' := 113) (S' := [.ref (102 + 10)]) dm_X12_means_110 (q_getr hm rfl (fun m i l => rg_21 m i l)) rfl rfl rfl ?_
      refine me1 (pc' := 115) (L' := [(5, ii (s.1 23)), (4, ii (fndR (s.2.2.2 20) m key)), (0, .ref 102), (1, .long key), (3, ii x)]) (S' := [ii (s.1 23), .ref (102 + 10)]) dm_X12_means_113 rfl rfl rfl rfl ?_
      refine pg_st0 (S' := [ii (i : Int), .ref (102 + 10)]) (congrArg (fun z => ii z :: [.ref (102 + 10)]) ((show _ = (i : Int) from hvn.trans (by omega)))) ?_
      refine me1 (pc' := 116) (L' := [(5, ii (s.1 23)), (4, ii (fndR (s.2.2.2 20) m key)), (0, .ref 102), (1, .long key), (3, ii x)]) (S' := [ii x, ii (i : Int), .ref (102 + 10)]) dm_X12_means_115 rfl rfl rfl rfl ?_
      refine me3 (pc' := 117) (S' := []) (h1 := rI pre post (va_up s.1 23 ((s.1 23) + 1)) s.2.1 (va_up s.2.2.1 21 (va_up (s.2.2.1 21) i x)) (va_up s.2.2.2 19 (va_up (s.2.2.2 19) i key))) dm_X12_means_116 (q_iast (j := (i : Int)) (k := 21) (n := 40) hm (fun m i l I J => rc_21 m i l I J) (fun m i l I J f => rs_21 m i l I J f) (by omega) (by omega) (by decide)) rfl rfl rfl ?_
      refine y_ret (r := none) dm_X12_means_117 rfl rfl rfl ?_
      refine ⟨rfl, ?_⟩
      unfold nameS
      rw [← hi, ← hj]
      unfold delN delF
      rw [if_neg (show ¬ j < m by omega), if_neg (show ¬ j < m by omega), if_neg (show ¬ j < m by omega), up_self, up_self, ← hfn, up_self]
      rw [show ((max n (i + 1) : Nat) : Int) = s.1 23 + 1 by rw [hvn]; omega]
  · refine me1 (pc' := 13) (L' := [(4, ii (fndR (s.2.2.2 20) m key)), (0, .ref 102), (1, .long key), (3, ii x)]) (S' := [.ref 102]) dm_X12_means_12 rfl rfl rfl rfl ?_
    refine me0 (pc' := 14) (S' := [.ref 102, .ref 102]) dm_X12_means_13 rfl rfl rfl rfl ?_
    refine me3 (pc' := 17) (S' := [ii (s.1 24), .ref 102]) dm_X12_means_14 (q_geti (v := s.1 24) hm rfl (fun m i l => rg_24 m i l) rfl) rfl rfl rfl ?_
    refine me0 (pc' := 18) (S' := [ii 1, ii (s.1 24), .ref 102]) dm_X12_means_17 rfl rfl rfl rfl ?_
    refine y_isub (a := s.1 24) (b := 1) dm_X12_means_18 (pc' := 19) rfl ?_
    refine me3 (pc' := 22) (S' := []) (h1 := rI pre post (va_up s.1 24 ((s.1 24) - 1)) s.2.1 s.2.2.1 s.2.2.2) dm_X12_means_19 (q_puti hm rfl rfl (fun m i l v => rf_24 m i l v)) rfl rfl rfl ?_
    refine me1 (pc' := 24) (L' := [(4, ii (fndR (s.2.2.2 20) m key)), (0, .ref 102), (1, .long key), (3, ii x)]) (S' := [ii (fndR (s.2.2.2 20) m key)]) dm_X12_means_22 rfl rfl rfl rfl ?_
    refine pg_st0 (S' := [ii (j : Int)]) (congrArg (fun z => ii z :: []) (by omega)) ?_
    refine me1 (pc' := 26) (L' := [(5, ii (j : Int)), (4, ii (fndR (s.2.2.2 20) m key)), (0, .ref 102), (1, .long key), (3, ii x)]) (S' := []) dm_X12_means_24 rfl rfl rfl rfl ?_
    have lp26 : ∀ (n26 : Nat) (k : Nat), m - k = n26 → (j ≤ k) → (k + 1 ≤ m) → pgE xt (d - 1) 12 6 false (Option.none : Option Jvm.ClassFile.FieldType) (mj_dec prog_14_method_66_code) 26 [(0, .ref 102), (1, .long key), (3, ii x), (4, ii (fndR (s.2.2.2 20) m key)), (5, ii (k : Int))] [] (rI pre post ((shS s 20 22 24 j k ((m : Int) - 1)).1) ((shS s 20 22 24 j k ((m : Int) - 1)).2.1) ((shS s 20 22 24 j k ((m : Int) - 1)).2.2.1) ((shS s 20 22 24 j k ((m : Int) - 1)).2.2.2)) (fun r h' => r = none ∧ h' = rS pre post (nameS s 19 21 23 20 22 24 n m key x)) := by
      intro n26
      induction n26 using Nat.strongRecOn with
      | ind n26 ih26 =>
        intro k hm26 hk hk2
        refine me1 (pc' := 28) (L' := [(0, .ref 102), (1, .long key), (3, ii x), (4, ii (fndR (s.2.2.2 20) m key)), (5, ii (k : Int))]) (S' := [ii (k : Int)]) dm_X12_means_26 rfl rfl rfl rfl ?_
        refine me1 (pc' := 29) (L' := [(0, .ref 102), (1, .long key), (3, ii x), (4, ii (fndR (s.2.2.2 20) m key)), (5, ii (k : Int))]) (S' := [.ref 102, ii (k : Int)]) dm_X12_means_28 rfl rfl rfl rfl ?_
        refine me3 (pc' := 32) (S' := [ii (((shS s 20 22 24 j k ((m : Int) - 1)).1) 24), ii (k : Int)]) dm_X12_means_29 (q_geti (v := ((shS s 20 22 24 j k ((m : Int) - 1)).1) 24) hm rfl (fun m i l => rg_24 m i l) rfl) rfl rfl rfl ?_
        refine pg_st0 (S' := [ii ((m : Int) - 1), ii (k : Int)]) (congrArg (fun z => ii z :: [ii (k : Int)]) ((show va_up s.1 24 _ 24 = _ from up_eq _ _ _))) ?_
        refine y_2ge (a := (k : Int)) (b := (m : Int) - 1) (t := 73) (pc' := 35) dm_X12_means_32 rfl rfl (by omega) (fun hb3 => ?_) (fun hb3 => ?_)
        · refine me1 (pc' := 74) (L' := [(0, .ref 102), (1, .long key), (3, ii x), (4, ii (fndR (s.2.2.2 20) m key)), (5, ii (k : Int))]) (S' := [.ref 102]) dm_X12_means_73 rfl rfl rfl rfl ?_
          refine me1 (pc' := 75) (L' := [(0, .ref 102), (1, .long key), (3, ii x), (4, ii (fndR (s.2.2.2 20) m key)), (5, ii (k : Int))]) (S' := [.long key, .ref 102]) dm_X12_means_74 rfl rfl rfl rfl ?_
          refine x_cp (pc' := 78) (v := ii (fndR (s.2.2.2 19) n key)) (rest := []) dm_X12_means_75 rfl (q_inv (As := [.long key]) (S := []) hm rfl rfl rfl) rfl rfl rfl (r_valueNamed_ (s := (shS s 20 22 24 j k ((m : Int) - 1))) (n := n) (m := m - 1) hm (by omega) (show _ = (n : Int) from hvn) (show (m : Int) - 1 = ((m - 1 : Nat) : Int) by omega) (by omega) (by omega)) ?_
          refine me1 (pc' := 80) (L' := [(5, ii (fndR (s.2.2.2 19) n key)), (0, .ref 102), (1, .long key), (3, ii x), (4, ii (fndR (s.2.2.2 20) m key))]) (S' := []) dm_X12_means_78 rfl rfl rfl rfl ?_
          refine me1 (pc' := 82) (L' := [(5, ii (fndR (s.2.2.2 19) n key)), (0, .ref 102), (1, .long key), (3, ii x), (4, ii (fndR (s.2.2.2 20) m key))]) (S' := [ii (fndR (s.2.2.2 19) n key)]) dm_X12_means_80 rfl rfl rfl rfl ?_
          refine y_1ge (a := fndR (s.2.2.2 19) n key) (t := 101) (pc' := 85) dm_X12_means_82 rfl rfl (by omega) (fun hb4 => ?_) (fun hb4 => ?_)
          · refine me1 (pc' := 102) (L' := [(5, ii (fndR (s.2.2.2 19) n key)), (0, .ref 102), (1, .long key), (3, ii x), (4, ii (fndR (s.2.2.2 20) m key))]) (S' := [.ref 102]) dm_X12_means_101 rfl rfl rfl rfl ?_
            refine me3 (pc' := 105) (S' := [.ref (102 + 8)]) dm_X12_means_102 (q_getr hm rfl (fun m i l => rg_19 m i l)) rfl rfl rfl ?_
            refine me1 (pc' := 107) (L' := [(5, ii (fndR (s.2.2.2 19) n key)), (0, .ref 102), (1, .long key), (3, ii x), (4, ii (fndR (s.2.2.2 20) m key))]) (S' := [ii (fndR (s.2.2.2 19) n key), .ref (102 + 8)]) dm_X12_means_105 rfl rfl rfl rfl ?_
            refine pg_st0 (S' := [ii (i : Int), .ref (102 + 8)]) (congrArg (fun z => ii z :: [.ref (102 + 8)]) (by omega)) ?_
            refine me1 (pc' := 108) (L' := [(5, ii (fndR (s.2.2.2 19) n key)), (0, .ref 102), (1, .long key), (3, ii x), (4, ii (fndR (s.2.2.2 20) m key))]) (S' := [.long key, ii (i : Int), .ref (102 + 8)]) dm_X12_means_107 rfl rfl rfl rfl ?_
            refine me3 (pc' := 109) (S' := []) (h1 := rI pre post ((shS s 20 22 24 j k ((m : Int) - 1)).1) ((shS s 20 22 24 j k ((m : Int) - 1)).2.1) ((shS s 20 22 24 j k ((m : Int) - 1)).2.2.1) (va_up ((shS s 20 22 24 j k ((m : Int) - 1)).2.2.2) 19 (va_up (((shS s 20 22 24 j k ((m : Int) - 1)).2.2.2) 19) i key))) dm_X12_means_108 (q_last (j := (i : Int)) (k := 19) (n := 40) hm (fun m i l I J => rc_19 m i l I J) (fun m i l I J f => rs_19 m i l I J f) (by omega) (by omega) (by decide)) rfl rfl rfl ?_
            refine me1 (pc' := 110) (L' := [(5, ii (fndR (s.2.2.2 19) n key)), (0, .ref 102), (1, .long key), (3, ii x), (4, ii (fndR (s.2.2.2 20) m key))]) (S' := [.ref 102]) dm_X12_means_109 rfl rfl rfl rfl ?_
            refine me3 (pc' := 113) (S' := [.ref (102 + 10)]) dm_X12_means_110 (q_getr hm rfl (fun m i l => rg_21 m i l)) rfl rfl rfl ?_
            refine me1 (pc' := 115) (L' := [(5, ii (fndR (s.2.2.2 19) n key)), (0, .ref 102), (1, .long key), (3, ii x), (4, ii (fndR (s.2.2.2 20) m key))]) (S' := [ii (fndR (s.2.2.2 19) n key), .ref (102 + 10)]) dm_X12_means_113 rfl rfl rfl rfl ?_
            refine pg_st0 (S' := [ii (i : Int), .ref (102 + 10)]) (congrArg (fun z => ii z :: [.ref (102 + 10)]) (by omega)) ?_
            refine me1 (pc' := 116) (L' := [(5, ii (fndR (s.2.2.2 19) n key)), (0, .ref 102), (1, .long key), (3, ii x), (4, ii (fndR (s.2.2.2 20) m key))]) (S' := [ii x, ii (i : Int), .ref (102 + 10)]) dm_X12_means_115 rfl rfl rfl rfl ?_
            refine me3 (pc' := 117) (S' := []) (h1 := rI pre post ((shS s 20 22 24 j k ((m : Int) - 1)).1) ((shS s 20 22 24 j k ((m : Int) - 1)).2.1) (va_up ((shS s 20 22 24 j k ((m : Int) - 1)).2.2.1) 21 (va_up (((shS s 20 22 24 j k ((m : Int) - 1)).2.2.1) 21) i x)) (va_up ((shS s 20 22 24 j k ((m : Int) - 1)).2.2.2) 19 (va_up (((shS s 20 22 24 j k ((m : Int) - 1)).2.2.2) 19) i key))) dm_X12_means_116 (q_iast (j := (i : Int)) (k := 21) (n := 40) hm (fun m i l I J => rc_21 m i l I J) (fun m i l I J f => rs_21 m i l I J f) (by omega) (by omega) (by decide)) rfl rfl rfl ?_
            refine y_ret (r := none) dm_X12_means_117 rfl rfl rfl ?_
            refine ⟨rfl, ?_⟩
            have hkm : k = m - 1 := by omega
            subst hkm
            unfold nameS
            rw [← hi, ← hj]
            unfold delN delF
            rw [if_pos (show j < m by omega), if_pos (show j < m by omega), if_pos (show j < m by omega)]
            rw [show ((m - 1 : Nat) : Int) = (m : Int) - 1 by omega]
            rw [show ((max n (i + 1) : Nat) : Int) = s.1 23 by rw [hvn]; omega]
            exact (congrArg (fun z => rI pre post z s.2.1 _ _) (up_self (va_up s.1 24 ((m : Int) - 1)) 23)).symm
          · refine me1 (pc' := 86) (L' := [(5, ii (fndR (s.2.2.2 19) n key)), (0, .ref 102), (1, .long key), (3, ii x), (4, ii (fndR (s.2.2.2 20) m key))]) (S' := [.ref 102]) dm_X12_means_85 rfl rfl rfl rfl ?_
            refine me3 (pc' := 89) (S' := [ii (((shS s 20 22 24 j k ((m : Int) - 1)).1) 23)]) dm_X12_means_86 (q_geti (v := ((shS s 20 22 24 j k ((m : Int) - 1)).1) 23) hm rfl (fun m i l => rg_23 m i l) rfl) rfl rfl rfl ?_
            refine me1 (pc' := 91) (L' := [(5, ii (((shS s 20 22 24 j k ((m : Int) - 1)).1) 23)), (0, .ref 102), (1, .long key), (3, ii x), (4, ii (fndR (s.2.2.2 20) m key))]) (S' := []) dm_X12_means_89 rfl rfl rfl rfl ?_
            refine me1 (pc' := 92) (L' := [(5, ii (((shS s 20 22 24 j k ((m : Int) - 1)).1) 23)), (0, .ref 102), (1, .long key), (3, ii x), (4, ii (fndR (s.2.2.2 20) m key))]) (S' := [.ref 102]) dm_X12_means_91 rfl rfl rfl rfl ?_
            refine me0 (pc' := 93) (S' := [.ref 102, .ref 102]) dm_X12_means_92 rfl rfl rfl rfl ?_
            refine me3 (pc' := 96) (S' := [ii (((shS s 20 22 24 j k ((m : Int) - 1)).1) 23), .ref 102]) dm_X12_means_93 (q_geti (v := ((shS s 20 22 24 j k ((m : Int) - 1)).1) 23) hm rfl (fun m i l => rg_23 m i l) rfl) rfl rfl rfl ?_
            refine me0 (pc' := 97) (S' := [ii 1, ii (((shS s 20 22 24 j k ((m : Int) - 1)).1) 23), .ref 102]) dm_X12_means_96 rfl rfl rfl rfl ?_
            refine y_iadd (a := ((shS s 20 22 24 j k ((m : Int) - 1)).1) 23) (b := 1) dm_X12_means_97 (pc' := 98) rfl ?_
            refine me3 (pc' := 101) (S' := []) (h1 := rI pre post (va_up ((shS s 20 22 24 j k ((m : Int) - 1)).1) 23 ((((shS s 20 22 24 j k ((m : Int) - 1)).1) 23) + 1)) ((shS s 20 22 24 j k ((m : Int) - 1)).2.1) ((shS s 20 22 24 j k ((m : Int) - 1)).2.2.1) ((shS s 20 22 24 j k ((m : Int) - 1)).2.2.2)) dm_X12_means_98 (q_puti hm rfl rfl (fun m i l v => rf_23 m i l v)) rfl rfl rfl ?_
            refine me1 (pc' := 102) (L' := [(5, ii (((shS s 20 22 24 j k ((m : Int) - 1)).1) 23)), (0, .ref 102), (1, .long key), (3, ii x), (4, ii (fndR (s.2.2.2 20) m key))]) (S' := [.ref 102]) dm_X12_means_101 rfl rfl rfl rfl ?_
            refine me3 (pc' := 105) (S' := [.ref (102 + 8)]) dm_X12_means_102 (q_getr hm rfl (fun m i l => rg_19 m i l)) rfl rfl rfl ?_
            refine me1 (pc' := 107) (L' := [(5, ii (((shS s 20 22 24 j k ((m : Int) - 1)).1) 23)), (0, .ref 102), (1, .long key), (3, ii x), (4, ii (fndR (s.2.2.2 20) m key))]) (S' := [ii (((shS s 20 22 24 j k ((m : Int) - 1)).1) 23), .ref (102 + 8)]) dm_X12_means_105 rfl rfl rfl rfl ?_
            refine pg_st0 (S' := [ii (i : Int), .ref (102 + 8)]) (congrArg (fun z => ii z :: [.ref (102 + 8)]) ((show _ = (i : Int) from hvn.trans (by omega)))) ?_
            refine me1 (pc' := 108) (L' := [(5, ii (((shS s 20 22 24 j k ((m : Int) - 1)).1) 23)), (0, .ref 102), (1, .long key), (3, ii x), (4, ii (fndR (s.2.2.2 20) m key))]) (S' := [.long key, ii (i : Int), .ref (102 + 8)]) dm_X12_means_107 rfl rfl rfl rfl ?_
            refine me3 (pc' := 109) (S' := []) (h1 := rI pre post (va_up ((shS s 20 22 24 j k ((m : Int) - 1)).1) 23 ((((shS s 20 22 24 j k ((m : Int) - 1)).1) 23) + 1)) ((shS s 20 22 24 j k ((m : Int) - 1)).2.1) ((shS s 20 22 24 j k ((m : Int) - 1)).2.2.1) (va_up ((shS s 20 22 24 j k ((m : Int) - 1)).2.2.2) 19 (va_up (((shS s 20 22 24 j k ((m : Int) - 1)).2.2.2) 19) i key))) dm_X12_means_108 (q_last (j := (i : Int)) (k := 19) (n := 40) hm (fun m i l I J => rc_19 m i l I J) (fun m i l I J f => rs_19 m i l I J f) (by omega) (by omega) (by decide)) rfl rfl rfl ?_
            refine me1 (pc' := 110) (L' := [(5, ii (((shS s 20 22 24 j k ((m : Int) - 1)).1) 23)), (0, .ref 102), (1, .long key), (3, ii x), (4, ii (fndR (s.2.2.2 20) m key))]) (S' := [.ref 102]) dm_X12_means_109 rfl rfl rfl rfl ?_
            refine me3 (pc' := 113) (S' := [.ref (102 + 10)]) dm_X12_means_110 (q_getr hm rfl (fun m i l => rg_21 m i l)) rfl rfl rfl ?_
            refine me1 (pc' := 115) (L' := [(5, ii (((shS s 20 22 24 j k ((m : Int) - 1)).1) 23)), (0, .ref 102), (1, .long key), (3, ii x), (4, ii (fndR (s.2.2.2 20) m key))]) (S' := [ii (((shS s 20 22 24 j k ((m : Int) - 1)).1) 23), .ref (102 + 10)]) dm_X12_means_113 rfl rfl rfl rfl ?_
            refine pg_st0 (S' := [ii (i : Int), .ref (102 + 10)]) (congrArg (fun z => ii z :: [.ref (102 + 10)]) ((show _ = (i : Int) from hvn.trans (by omega)))) ?_
            refine me1 (pc' := 116) (L' := [(5, ii (((shS s 20 22 24 j k ((m : Int) - 1)).1) 23)), (0, .ref 102), (1, .long key), (3, ii x), (4, ii (fndR (s.2.2.2 20) m key))]) (S' := [ii x, ii (i : Int), .ref (102 + 10)]) dm_X12_means_115 rfl rfl rfl rfl ?_
            refine me3 (pc' := 117) (S' := []) (h1 := rI pre post (va_up ((shS s 20 22 24 j k ((m : Int) - 1)).1) 23 ((((shS s 20 22 24 j k ((m : Int) - 1)).1) 23) + 1)) ((shS s 20 22 24 j k ((m : Int) - 1)).2.1) (va_up ((shS s 20 22 24 j k ((m : Int) - 1)).2.2.1) 21 (va_up (((shS s 20 22 24 j k ((m : Int) - 1)).2.2.1) 21) i x)) (va_up ((shS s 20 22 24 j k ((m : Int) - 1)).2.2.2) 19 (va_up (((shS s 20 22 24 j k ((m : Int) - 1)).2.2.2) 19) i key))) dm_X12_means_116 (q_iast (j := (i : Int)) (k := 21) (n := 40) hm (fun m i l I J => rc_21 m i l I J) (fun m i l I J f => rs_21 m i l I J f) (by omega) (by omega) (by decide)) rfl rfl rfl ?_
            refine y_ret (r := none) dm_X12_means_117 rfl rfl rfl ?_
            refine ⟨rfl, ?_⟩
            have hkm : k = m - 1 := by omega
            subst hkm
            unfold nameS
            rw [← hi, ← hj]
            unfold delN delF
            rw [if_pos (show j < m by omega), if_pos (show j < m by omega), if_pos (show j < m by omega)]
            rw [show ((m - 1 : Nat) : Int) = (m : Int) - 1 by omega]
            rw [show ((max n (i + 1) : Nat) : Int) = s.1 23 + 1 by rw [hvn]; omega]
            rfl
        · refine me1 (pc' := 36) (L' := [(0, .ref 102), (1, .long key), (3, ii x), (4, ii (fndR (s.2.2.2 20) m key)), (5, ii (k : Int))]) (S' := [.ref 102]) dm_X12_means_35 rfl rfl rfl rfl ?_
          refine me3 (pc' := 39) (S' := [.ref (102 + 9)]) dm_X12_means_36 (q_getr hm rfl (fun m i l => rg_20 m i l)) rfl rfl rfl ?_
          refine me1 (pc' := 41) (L' := [(0, .ref 102), (1, .long key), (3, ii x), (4, ii (fndR (s.2.2.2 20) m key)), (5, ii (k : Int))]) (S' := [ii (k : Int), .ref (102 + 9)]) dm_X12_means_39 rfl rfl rfl rfl ?_
          refine me1 (pc' := 42) (L' := [(0, .ref 102), (1, .long key), (3, ii x), (4, ii (fndR (s.2.2.2 20) m key)), (5, ii (k : Int))]) (S' := [.ref 102, ii (k : Int), .ref (102 + 9)]) dm_X12_means_41 rfl rfl rfl rfl ?_
          refine me3 (pc' := 45) (S' := [.ref (102 + 9), ii (k : Int), .ref (102 + 9)]) dm_X12_means_42 (q_getr hm rfl (fun m i l => rg_20 m i l)) rfl rfl rfl ?_
          refine me1 (pc' := 47) (L' := [(0, .ref 102), (1, .long key), (3, ii x), (4, ii (fndR (s.2.2.2 20) m key)), (5, ii (k : Int))]) (S' := [ii (k : Int), .ref (102 + 9), ii (k : Int), .ref (102 + 9)]) dm_X12_means_45 rfl rfl rfl rfl ?_
          refine me0 (pc' := 48) (S' := [ii 1, ii (k : Int), .ref (102 + 9), ii (k : Int), .ref (102 + 9)]) dm_X12_means_47 rfl rfl rfl rfl ?_
          refine y_iadd (a := (k : Int)) (b := 1) dm_X12_means_48 (pc' := 49) rfl ?_
          refine me3 (pc' := 50) (S' := [.long ((((shS s 20 22 24 j k ((m : Int) - 1)).2.2.2) 20) (k + 1)), ii (k : Int), .ref (102 + 9)]) dm_X12_means_49 (q_lald (v := (((shS s 20 22 24 j k ((m : Int) - 1)).2.2.2) 20) (k + 1)) (k := 20) (n := 40) hm (fun m i l I J => rc_20 m i l I J) (by omega) (by omega) (by decide) rfl) rfl rfl rfl ?_
          refine me3 (pc' := 51) (S' := []) (h1 := rI pre post ((shS s 20 22 24 j k ((m : Int) - 1)).1) ((shS s 20 22 24 j k ((m : Int) - 1)).2.1) ((shS s 20 22 24 j k ((m : Int) - 1)).2.2.1) (va_up ((shS s 20 22 24 j k ((m : Int) - 1)).2.2.2) 20 (va_up (((shS s 20 22 24 j k ((m : Int) - 1)).2.2.2) 20) k ((((shS s 20 22 24 j k ((m : Int) - 1)).2.2.2) 20) (k + 1))))) dm_X12_means_50 (q_last (j := (k : Int)) (k := 20) (n := 40) hm (fun m i l I J => rc_20 m i l I J) (fun m i l I J f => rs_20 m i l I J f) (by omega) (by omega) (by decide)) rfl rfl rfl ?_
          refine me1 (pc' := 52) (L' := [(0, .ref 102), (1, .long key), (3, ii x), (4, ii (fndR (s.2.2.2 20) m key)), (5, ii (k : Int))]) (S' := [.ref 102]) dm_X12_means_51 rfl rfl rfl rfl ?_
          refine me3 (pc' := 55) (S' := [.ref (102 + 11)]) dm_X12_means_52 (q_getr hm rfl (fun m i l => rg_22 m i l)) rfl rfl rfl ?_
          refine me1 (pc' := 57) (L' := [(0, .ref 102), (1, .long key), (3, ii x), (4, ii (fndR (s.2.2.2 20) m key)), (5, ii (k : Int))]) (S' := [ii (k : Int), .ref (102 + 11)]) dm_X12_means_55 rfl rfl rfl rfl ?_
          refine me1 (pc' := 58) (L' := [(0, .ref 102), (1, .long key), (3, ii x), (4, ii (fndR (s.2.2.2 20) m key)), (5, ii (k : Int))]) (S' := [.ref 102, ii (k : Int), .ref (102 + 11)]) dm_X12_means_57 rfl rfl rfl rfl ?_
          refine me3 (pc' := 61) (S' := [.ref (102 + 11), ii (k : Int), .ref (102 + 11)]) dm_X12_means_58 (q_getr hm rfl (fun m i l => rg_22 m i l)) rfl rfl rfl ?_
          refine me1 (pc' := 63) (L' := [(0, .ref 102), (1, .long key), (3, ii x), (4, ii (fndR (s.2.2.2 20) m key)), (5, ii (k : Int))]) (S' := [ii (k : Int), .ref (102 + 11), ii (k : Int), .ref (102 + 11)]) dm_X12_means_61 rfl rfl rfl rfl ?_
          refine me0 (pc' := 64) (S' := [ii 1, ii (k : Int), .ref (102 + 11), ii (k : Int), .ref (102 + 11)]) dm_X12_means_63 rfl rfl rfl rfl ?_
          refine y_iadd (a := (k : Int)) (b := 1) dm_X12_means_64 (pc' := 65) rfl ?_
          refine me3 (pc' := 66) (S' := [ii ((((shS s 20 22 24 j k ((m : Int) - 1)).2.2.1) 22) (k + 1)), ii (k : Int), .ref (102 + 11)]) dm_X12_means_65 (q_iald (v := (((shS s 20 22 24 j k ((m : Int) - 1)).2.2.1) 22) (k + 1)) (k := 22) (n := 40) hm (fun m i l I J => rc_22 m i l I J) (by omega) (by omega) (by decide) rfl) rfl rfl rfl ?_
          refine me3 (pc' := 67) (S' := []) (h1 := rI pre post ((shS s 20 22 24 j k ((m : Int) - 1)).1) ((shS s 20 22 24 j k ((m : Int) - 1)).2.1) (va_up ((shS s 20 22 24 j k ((m : Int) - 1)).2.2.1) 22 (va_up (((shS s 20 22 24 j k ((m : Int) - 1)).2.2.1) 22) k ((((shS s 20 22 24 j k ((m : Int) - 1)).2.2.1) 22) (k + 1)))) (va_up ((shS s 20 22 24 j k ((m : Int) - 1)).2.2.2) 20 (va_up (((shS s 20 22 24 j k ((m : Int) - 1)).2.2.2) 20) k ((((shS s 20 22 24 j k ((m : Int) - 1)).2.2.2) 20) (k + 1))))) dm_X12_means_66 (q_iast (j := (k : Int)) (k := 22) (n := 40) hm (fun m i l I J => rc_22 m i l I J) (fun m i l I J f => rs_22 m i l I J f) (by omega) (by omega) (by decide)) rfl rfl rfl ?_
          refine y_iinc (pc' := 70) (L' := [(5, ii ((k : Int) + 1)), (0, .ref 102), (1, .long key), (3, ii x), (4, ii (fndR (s.2.2.2 20) m key))]) dm_X12_means_67 (y_incp (a := (k : Int)) (c := 1) rfl rfl (by decide)) rfl ?_
          refine me2 (pc' := 26) (S' := []) dm_X12_means_70 rfl rfl rfl ?_
          refine pg_cast (h2 := rI pre post ((shS s 20 22 24 j (k + 1) ((m : Int) - 1)).1) ((shS s 20 22 24 j (k + 1) ((m : Int) - 1)).2.1) ((shS s 20 22 24 j (k + 1) ((m : Int) - 1)).2.2.1) ((shS s 20 22 24 j (k + 1) ((m : Int) - 1)).2.2.2)) (shS_s s 20 22 24 _ (by omega)) ?_
          exact pg_sub (L := [(0, .ref 102), (1, .long key), (3, ii x), (4, ii (fndR (s.2.2.2 20) m key)), (5, ii ((k + 1) : Int))]) rfl rfl rfl (ih26 (m - (k + 1)) (by omega) (k + 1) rfl (by omega) (by omega))
    refine pg_cast (h2 := rI pre post ((shS s 20 22 24 j j ((m : Int) - 1)).1) ((shS s 20 22 24 j j ((m : Int) - 1)).2.1) ((shS s 20 22 24 j j ((m : Int) - 1)).2.2.1) ((shS s 20 22 24 j j ((m : Int) - 1)).2.2.2)) (by rw [hfn]; exact shS_0 s 20 22 24 j _) ?_
    exact pg_sub (L := [(0, .ref 102), (1, .long key), (3, ii x), (4, ii (fndR (s.2.2.2 20) m key)), (5, ii (j : Int))]) rfl rfl rfl (lp26 _ j rfl (Nat.le_refl _) (by omega))
set_option maxRecDepth 20000 in
theorem pm_X12_tells : mj_mmof pg_ms 238 = some ((⟨"ArrayCalculatorModel", "tells", "(JI)V"⟩, prog_14_method_67_code, 6, (Option.none : Option Jvm.ClassFile.FieldType)), 12, false, mj_dec prog_14_method_67_code) := rfl
theorem dm_X12_tells_0 : mj_dec prog_14_method_67_code 0 = some (.aload_n 0, 1) := by decide +kernel
theorem dm_X12_tells_1 : mj_dec prog_14_method_67_code 1 = some (.lload_n 1, 1) := by decide +kernel
theorem dm_X12_tells_2 : mj_dec prog_14_method_67_code 2 = some (.invokevirtual 367, 3) := by decide +kernel
theorem dm_X12_tells_5 : mj_dec prog_14_method_67_code 5 = some (.istore 4, 2) := by decide +kernel
theorem dm_X12_tells_7 : mj_dec prog_14_method_67_code 7 = some (.iload 4, 2) := by decide +kernel
theorem dm_X12_tells_9 : mj_dec prog_14_method_67_code 9 = some (.ifCond .lt 64, 3) := by decide +kernel
theorem dm_X12_tells_12 : mj_dec prog_14_method_67_code 12 = some (.aload_n 0, 1) := by decide +kernel
theorem dm_X12_tells_13 : mj_dec prog_14_method_67_code 13 = some (.dup, 1) := by decide +kernel
theorem dm_X12_tells_14 : mj_dec prog_14_method_67_code 14 = some (.getfield 357, 3) := by decide +kernel
theorem dm_X12_tells_17 : mj_dec prog_14_method_67_code 17 = some (.iconst 1, 1) := by decide +kernel
theorem dm_X12_tells_18 : mj_dec prog_14_method_67_code 18 = some (.isub, 1) := by decide +kernel
theorem dm_X12_tells_19 : mj_dec prog_14_method_67_code 19 = some (.putfield 357, 3) := by decide +kernel
theorem dm_X12_tells_22 : mj_dec prog_14_method_67_code 22 = some (.iload 4, 2) := by decide +kernel
theorem dm_X12_tells_24 : mj_dec prog_14_method_67_code 24 = some (.istore 5, 2) := by decide +kernel
theorem dm_X12_tells_26 : mj_dec prog_14_method_67_code 26 = some (.iload 5, 2) := by decide +kernel
theorem dm_X12_tells_28 : mj_dec prog_14_method_67_code 28 = some (.aload_n 0, 1) := by decide +kernel
theorem dm_X12_tells_29 : mj_dec prog_14_method_67_code 29 = some (.getfield 357, 3) := by decide +kernel
theorem dm_X12_tells_32 : mj_dec prog_14_method_67_code 32 = some (.if_icmp .ge 41, 3) := by decide +kernel
theorem dm_X12_tells_35 : mj_dec prog_14_method_67_code 35 = some (.aload_n 0, 1) := by decide +kernel
theorem dm_X12_tells_36 : mj_dec prog_14_method_67_code 36 = some (.getfield 43, 3) := by decide +kernel
theorem dm_X12_tells_39 : mj_dec prog_14_method_67_code 39 = some (.iload 5, 2) := by decide +kernel
theorem dm_X12_tells_41 : mj_dec prog_14_method_67_code 41 = some (.aload_n 0, 1) := by decide +kernel
theorem dm_X12_tells_42 : mj_dec prog_14_method_67_code 42 = some (.getfield 43, 3) := by decide +kernel
theorem dm_X12_tells_45 : mj_dec prog_14_method_67_code 45 = some (.iload 5, 2) := by decide +kernel
theorem dm_X12_tells_47 : mj_dec prog_14_method_67_code 47 = some (.iconst 1, 1) := by decide +kernel
theorem dm_X12_tells_48 : mj_dec prog_14_method_67_code 48 = some (.iadd, 1) := by decide +kernel
theorem dm_X12_tells_49 : mj_dec prog_14_method_67_code 49 = some (.laload, 1) := by decide +kernel
theorem dm_X12_tells_50 : mj_dec prog_14_method_67_code 50 = some (.lastore, 1) := by decide +kernel
theorem dm_X12_tells_51 : mj_dec prog_14_method_67_code 51 = some (.aload_n 0, 1) := by decide +kernel
theorem dm_X12_tells_52 : mj_dec prog_14_method_67_code 52 = some (.getfield 49, 3) := by decide +kernel
theorem dm_X12_tells_55 : mj_dec prog_14_method_67_code 55 = some (.iload 5, 2) := by decide +kernel
theorem dm_X12_tells_57 : mj_dec prog_14_method_67_code 57 = some (.aload_n 0, 1) := by decide +kernel
theorem dm_X12_tells_58 : mj_dec prog_14_method_67_code 58 = some (.getfield 49, 3) := by decide +kernel
theorem dm_X12_tells_61 : mj_dec prog_14_method_67_code 61 = some (.iload 5, 2) := by decide +kernel
theorem dm_X12_tells_63 : mj_dec prog_14_method_67_code 63 = some (.iconst 1, 1) := by decide +kernel
theorem dm_X12_tells_64 : mj_dec prog_14_method_67_code 64 = some (.iadd, 1) := by decide +kernel
theorem dm_X12_tells_65 : mj_dec prog_14_method_67_code 65 = some (.iaload, 1) := by decide +kernel
theorem dm_X12_tells_66 : mj_dec prog_14_method_67_code 66 = some (.iastore, 1) := by decide +kernel
theorem dm_X12_tells_67 : mj_dec prog_14_method_67_code 67 = some (.iinc 5 1, 3) := by decide +kernel
theorem dm_X12_tells_70 : mj_dec prog_14_method_67_code 70 = some (.goto (-44), 3) := by decide +kernel
theorem dm_X12_tells_73 : mj_dec prog_14_method_67_code 73 = some (.aload_n 0, 1) := by decide +kernel
theorem dm_X12_tells_74 : mj_dec prog_14_method_67_code 74 = some (.lload_n 1, 1) := by decide +kernel
theorem dm_X12_tells_75 : mj_dec prog_14_method_67_code 75 = some (.invokevirtual 363, 3) := by decide +kernel
theorem dm_X12_tells_78 : mj_dec prog_14_method_67_code 78 = some (.istore 5, 2) := by decide +kernel
theorem dm_X12_tells_80 : mj_dec prog_14_method_67_code 80 = some (.iload 5, 2) := by decide +kernel
theorem dm_X12_tells_82 : mj_dec prog_14_method_67_code 82 = some (.ifCond .ge 19, 3) := by decide +kernel
theorem dm_X12_tells_85 : mj_dec prog_14_method_67_code 85 = some (.aload_n 0, 1) := by decide +kernel
theorem dm_X12_tells_86 : mj_dec prog_14_method_67_code 86 = some (.getfield 360, 3) := by decide +kernel
theorem dm_X12_tells_89 : mj_dec prog_14_method_67_code 89 = some (.istore 5, 2) := by decide +kernel
theorem dm_X12_tells_91 : mj_dec prog_14_method_67_code 91 = some (.aload_n 0, 1) := by decide +kernel
theorem dm_X12_tells_92 : mj_dec prog_14_method_67_code 92 = some (.dup, 1) := by decide +kernel
theorem dm_X12_tells_93 : mj_dec prog_14_method_67_code 93 = some (.getfield 360, 3) := by decide +kernel
theorem dm_X12_tells_96 : mj_dec prog_14_method_67_code 96 = some (.iconst 1, 1) := by decide +kernel
theorem dm_X12_tells_97 : mj_dec prog_14_method_67_code 97 = some (.iadd, 1) := by decide +kernel
theorem dm_X12_tells_98 : mj_dec prog_14_method_67_code 98 = some (.putfield 360, 3) := by decide +kernel
theorem dm_X12_tells_101 : mj_dec prog_14_method_67_code 101 = some (.aload_n 0, 1) := by decide +kernel
theorem dm_X12_tells_102 : mj_dec prog_14_method_67_code 102 = some (.getfield 46, 3) := by decide +kernel
theorem dm_X12_tells_105 : mj_dec prog_14_method_67_code 105 = some (.iload 5, 2) := by decide +kernel
theorem dm_X12_tells_107 : mj_dec prog_14_method_67_code 107 = some (.lload_n 1, 1) := by decide +kernel
theorem dm_X12_tells_108 : mj_dec prog_14_method_67_code 108 = some (.lastore, 1) := by decide +kernel
theorem dm_X12_tells_109 : mj_dec prog_14_method_67_code 109 = some (.aload_n 0, 1) := by decide +kernel
theorem dm_X12_tells_110 : mj_dec prog_14_method_67_code 110 = some (.getfield 52, 3) := by decide +kernel
theorem dm_X12_tells_113 : mj_dec prog_14_method_67_code 113 = some (.iload 5, 2) := by decide +kernel
theorem dm_X12_tells_115 : mj_dec prog_14_method_67_code 115 = some (.iload_n 3, 1) := by decide +kernel
theorem dm_X12_tells_116 : mj_dec prog_14_method_67_code 116 = some (.iastore, 1) := by decide +kernel
theorem dm_X12_tells_117 : mj_dec prog_14_method_67_code 117 = some (.return_, 1) := by decide +kernel
theorem r_tells_ {xt : mj_X} {d n m : Nat} {pre post : mj_H} {s : RS} {key : Int64} (hm : pre.length = 102) (hd1 : 2 ≤ d) (hvn : s.1 23 = (n : Int)) (hfn : s.1 24 = (m : Int)) (hn : n ≤ 40) (hm2 : m ≤ 40) {x : Int} (h40 : fndK (s.2.2.2 20) m key < 40) : pgN xt d 238 [.ref 102, .long key, ii x] (rS pre post s) (fun h' => h' = rS pre post (nameS s 20 22 24 19 21 23 m n key x)) := by
  have hc2 := fndR_c (s.2.2.2 19) n key
  have hc1 := fndR_c (s.2.2.2 20) m key
  obtain ⟨j, hj⟩ : ∃ j, j = fndK (s.2.2.2 19) n key := ⟨_, rfl⟩
  obtain ⟨i, hi⟩ : ∃ i, i = fndK (s.2.2.2 20) m key := ⟨_, rfl⟩
  rw [← hj] at hc2
  rw [← hi] at hc1
  refine x_enter pm_X12_tells (L0 := [(0, .ref 102), (1, .long key), (3, ii x)]) rfl (Nat.le_of_ble_eq_true rfl) (by omega) ?_
  refine me1 (pc' := 1) (L' := [(0, .ref 102), (1, .long key), (3, ii x)]) (S' := [.ref 102]) dm_X12_tells_0 rfl rfl rfl rfl ?_
  refine me1 (pc' := 2) (L' := [(0, .ref 102), (1, .long key), (3, ii x)]) (S' := [.long key, .ref 102]) dm_X12_tells_1 rfl rfl rfl rfl ?_
  refine x_cp (pc' := 5) (v := ii (fndR (s.2.2.2 19) n key)) (rest := []) dm_X12_tells_2 rfl (q_inv (As := [.long key]) (S := []) hm rfl rfl rfl) rfl rfl rfl (r_valueNamed_ hm (by omega) hvn hfn hn hm2) ?_
  refine me1 (pc' := 7) (L' := [(4, ii (fndR (s.2.2.2 19) n key)), (0, .ref 102), (1, .long key), (3, ii x)]) (S' := []) dm_X12_tells_5 rfl rfl rfl rfl ?_
  refine me1 (pc' := 9) (L' := [(4, ii (fndR (s.2.2.2 19) n key)), (0, .ref 102), (1, .long key), (3, ii x)]) (S' := [ii (fndR (s.2.2.2 19) n key)]) dm_X12_tells_7 rfl rfl rfl rfl ?_
  refine y_1lt (a := fndR (s.2.2.2 19) n key) (t := 73) (pc' := 12) dm_X12_tells_9 rfl rfl (by omega) (fun hb1 => ?_) (fun hb1 => ?_)
  · refine me1 (pc' := 74) (L' := [(4, ii (fndR (s.2.2.2 19) n key)), (0, .ref 102), (1, .long key), (3, ii x)]) (S' := [.ref 102]) dm_X12_tells_73 rfl rfl rfl rfl ?_
    refine me1 (pc' := 75) (L' := [(4, ii (fndR (s.2.2.2 19) n key)), (0, .ref 102), (1, .long key), (3, ii x)]) (S' := [.long key, .ref 102]) dm_X12_tells_74 rfl rfl rfl rfl ?_
    refine x_cp (pc' := 78) (v := ii (fndR (s.2.2.2 20) m key)) (rest := []) dm_X12_tells_75 rfl (q_inv (As := [.long key]) (S := []) hm rfl rfl rfl) rfl rfl rfl (r_functionNamed_ hm (by omega) hvn hfn hn hm2) ?_
    refine me1 (pc' := 80) (L' := [(5, ii (fndR (s.2.2.2 20) m key)), (4, ii (fndR (s.2.2.2 19) n key)), (0, .ref 102), (1, .long key), (3, ii x)]) (S' := []) dm_X12_tells_78 rfl rfl rfl rfl ?_
    refine me1 (pc' := 82) (L' := [(5, ii (fndR (s.2.2.2 20) m key)), (4, ii (fndR (s.2.2.2 19) n key)), (0, .ref 102), (1, .long key), (3, ii x)]) (S' := [ii (fndR (s.2.2.2 20) m key)]) dm_X12_tells_80 rfl rfl rfl rfl ?_
    refine y_1ge (a := fndR (s.2.2.2 20) m key) (t := 101) (pc' := 85) dm_X12_tells_82 rfl rfl (by omega) (fun hb2 => ?_) (fun hb2 => ?_)
    · refine me1 (pc' := 102) (L' := [(5, ii (fndR (s.2.2.2 20) m key)), (4, ii (fndR (s.2.2.2 19) n key)), (0, .ref 102), (1, .long key), (3, ii x)]) (S' := [.ref 102]) dm_X12_tells_101 rfl rfl rfl rfl ?_
      refine me3 (pc' := 105) (S' := [.ref (102 + 9)]) dm_X12_tells_102 (q_getr hm rfl (fun m i l => rg_20 m i l)) rfl rfl rfl ?_
      refine me1 (pc' := 107) (L' := [(5, ii (fndR (s.2.2.2 20) m key)), (4, ii (fndR (s.2.2.2 19) n key)), (0, .ref 102), (1, .long key), (3, ii x)]) (S' := [ii (fndR (s.2.2.2 20) m key), .ref (102 + 9)]) dm_X12_tells_105 rfl rfl rfl rfl ?_
      refine pg_st0 (S' := [ii (i : Int), .ref (102 + 9)]) (congrArg (fun z => ii z :: [.ref (102 + 9)]) (by omega)) ?_
      refine me1 (pc' := 108) (L' := [(5, ii (fndR (s.2.2.2 20) m key)), (4, ii (fndR (s.2.2.2 19) n key)), (0, .ref 102), (1, .long key), (3, ii x)]) (S' := [.long key, ii (i : Int), .ref (102 + 9)]) dm_X12_tells_107 rfl rfl rfl rfl ?_
      refine me3 (pc' := 109) (S' := []) (h1 := rI pre post s.1 s.2.1 s.2.2.1 (va_up s.2.2.2 20 (va_up (s.2.2.2 20) i key))) dm_X12_tells_108 (q_last (j := (i : Int)) (k := 20) (n := 40) hm (fun m i l I J => rc_20 m i l I J) (fun m i l I J f => rs_20 m i l I J f) (by omega) (by omega) (by decide)) rfl rfl rfl ?_
      refine me1 (pc' := 110) (L' := [(5, ii (fndR (s.2.2.2 20) m key)), (4, ii (fndR (s.2.2.2 19) n key)), (0, .ref 102), (1, .long key), (3, ii x)]) (S' := [.ref 102]) dm_X12_tells_109 rfl rfl rfl rfl ?_
      refine me3 (pc' := 113) (S' := [.ref (102 + 11)]) dm_X12_tells_110 (q_getr hm rfl (fun m i l => rg_22 m i l)) rfl rfl rfl ?_
      refine me1 (pc' := 115) (L' := [(5, ii (fndR (s.2.2.2 20) m key)), (4, ii (fndR (s.2.2.2 19) n key)), (0, .ref 102), (1, .long key), (3, ii x)]) (S' := [ii (fndR (s.2.2.2 20) m key), .ref (102 + 11)]) dm_X12_tells_113 rfl rfl rfl rfl ?_
      refine pg_st0 (S' := [ii (i : Int), .ref (102 + 11)]) (congrArg (fun z => ii z :: [.ref (102 + 11)]) (by omega)) ?_
      refine me1 (pc' := 116) (L' := [(5, ii (fndR (s.2.2.2 20) m key)), (4, ii (fndR (s.2.2.2 19) n key)), (0, .ref 102), (1, .long key), (3, ii x)]) (S' := [ii x, ii (i : Int), .ref (102 + 11)]) dm_X12_tells_115 rfl rfl rfl rfl ?_
      refine me3 (pc' := 117) (S' := []) (h1 := rI pre post s.1 s.2.1 (va_up s.2.2.1 22 (va_up (s.2.2.1 22) i x)) (va_up s.2.2.2 20 (va_up (s.2.2.2 20) i key))) dm_X12_tells_116 (q_iast (j := (i : Int)) (k := 22) (n := 40) hm (fun m i l I J => rc_22 m i l I J) (fun m i l I J f => rs_22 m i l I J f) (by omega) (by omega) (by decide)) rfl rfl rfl ?_
      refine y_ret (r := none) dm_X12_tells_117 rfl rfl rfl ?_
      refine ⟨rfl, ?_⟩
      unfold nameS
      rw [← hi, ← hj]
      unfold delN delF
      rw [if_neg (show ¬ j < n by omega), if_neg (show ¬ j < n by omega), if_neg (show ¬ j < n by omega), up_self, up_self, ← hvn, up_self]
      rw [show ((max m (i + 1) : Nat) : Int) = s.1 24 by rw [hfn]; omega]
      rw [up_self]
    · refine me1 (pc' := 86) (L' := [(5, ii (fndR (s.2.2.2 20) m key)), (4, ii (fndR (s.2.2.2 19) n key)), (0, .ref 102), (1, .long key), (3, ii x)]) (S' := [.ref 102]) dm_X12_tells_85 rfl rfl rfl rfl ?_
      refine me3 (pc' := 89) (S' := [ii (s.1 24)]) dm_X12_tells_86 (q_geti (v := s.1 24) hm rfl (fun m i l => rg_24 m i l) rfl) rfl rfl rfl ?_
      refine me1 (pc' := 91) (L' := [(5, ii (s.1 24)), (4, ii (fndR (s.2.2.2 19) n key)), (0, .ref 102), (1, .long key), (3, ii x)]) (S' := []) dm_X12_tells_89 rfl rfl rfl rfl ?_
      refine me1 (pc' := 92) (L' := [(5, ii (s.1 24)), (4, ii (fndR (s.2.2.2 19) n key)), (0, .ref 102), (1, .long key), (3, ii x)]) (S' := [.ref 102]) dm_X12_tells_91 rfl rfl rfl rfl ?_
      refine me0 (pc' := 93) (S' := [.ref 102, .ref 102]) dm_X12_tells_92 rfl rfl rfl rfl ?_
      refine me3 (pc' := 96) (S' := [ii (s.1 24), .ref 102]) dm_X12_tells_93 (q_geti (v := s.1 24) hm rfl (fun m i l => rg_24 m i l) rfl) rfl rfl rfl ?_
      refine me0 (pc' := 97) (S' := [ii 1, ii (s.1 24), .ref 102]) dm_X12_tells_96 rfl rfl rfl rfl ?_
      refine y_iadd (a := s.1 24) (b := 1) dm_X12_tells_97 (pc' := 98) rfl ?_
      refine me3 (pc' := 101) (S' := []) (h1 := rI pre post (va_up s.1 24 ((s.1 24) + 1)) s.2.1 s.2.2.1 s.2.2.2) dm_X12_tells_98 (q_puti hm rfl rfl (fun m i l v => rf_24 m i l v)) rfl rfl rfl ?_
      refine me1 (pc' := 102) (L' := [(5, ii (s.1 24)), (4, ii (fndR (s.2.2.2 19) n key)), (0, .ref 102), (1, .long key), (3, ii x)]) (S' := [.ref 102]) dm_X12_tells_101 rfl rfl rfl rfl ?_
      refine me3 (pc' := 105) (S' := [.ref (102 + 9)]) dm_X12_tells_102 (q_getr hm rfl (fun m i l => rg_20 m i l)) rfl rfl rfl ?_
      refine me1 (pc' := 107) (L' := [(5, ii (s.1 24)), (4, ii (fndR (s.2.2.2 19) n key)), (0, .ref 102), (1, .long key), (3, ii x)]) (S' := [ii (s.1 24), .ref (102 + 9)]) dm_X12_tells_105 rfl rfl rfl rfl ?_
      refine pg_st0 (S' := [ii (i : Int), .ref (102 + 9)]) (congrArg (fun z => ii z :: [.ref (102 + 9)]) ((show _ = (i : Int) from hfn.trans (by omega)))) ?_
      refine me1 (pc' := 108) (L' := [(5, ii (s.1 24)), (4, ii (fndR (s.2.2.2 19) n key)), (0, .ref 102), (1, .long key), (3, ii x)]) (S' := [.long key, ii (i : Int), .ref (102 + 9)]) dm_X12_tells_107 rfl rfl rfl rfl ?_
      refine me3 (pc' := 109) (S' := []) (h1 := rI pre post (va_up s.1 24 ((s.1 24) + 1)) s.2.1 s.2.2.1 (va_up s.2.2.2 20 (va_up (s.2.2.2 20) i key))) dm_X12_tells_108 (q_last (j := (i : Int)) (k := 20) (n := 40) hm (fun m i l I J => rc_20 m i l I J) (fun m i l I J f => rs_20 m i l I J f) (by omega) (by omega) (by decide)) rfl rfl rfl ?_
      refine me1 (pc' := 110) (L' := [(5, ii (s.1 24)), (4, ii (fndR (s.2.2.2 19) n key)), (0, .ref 102), (1, .long key), (3, ii x)]) (S' := [.ref 102]) dm_X12_tells_109 rfl rfl rfl rfl ?_
      refine me3 (pc' := 113) (S' := [.ref (102 + 11)]) dm_X12_tells_110 (q_getr hm rfl (fun m i l => rg_22 m i l)) rfl rfl rfl ?_
      refine me1 (pc' := 115) (L' := [(5, ii (s.1 24)), (4, ii (fndR (s.2.2.2 19) n key)), (0, .ref 102), (1, .long key), (3, ii x)]) (S' := [ii (s.1 24), .ref (102 + 11)]) dm_X12_tells_113 rfl rfl rfl rfl ?_
      refine pg_st0 (S' := [ii (i : Int), .ref (102 + 11)]) (congrArg (fun z => ii z :: [.ref (102 + 11)]) ((show _ = (i : Int) from hfn.trans (by omega)))) ?_
      refine me1 (pc' := 116) (L' := [(5, ii (s.1 24)), (4, ii (fndR (s.2.2.2 19) n key)), (0, .ref 102), (1, .long key), (3, ii x)]) (S' := [ii x, ii (i : Int), .ref (102 + 11)]) dm_X12_tells_115 rfl rfl rfl rfl ?_
      refine me3 (pc' := 117) (S' := []) (h1 := rI pre post (va_up s.1 24 ((s.1 24) + 1)) s.2.1 (va_up s.2.2.1 22 (va_up (s.2.2.1 22) i x)) (va_up s.2.2.2 20 (va_up (s.2.2.2 20) i key))) dm_X12_tells_116 (q_iast (j := (i : Int)) (k := 22) (n := 40) hm (fun m i l I J => rc_22 m i l I J) (fun m i l I J f => rs_22 m i l I J f) (by omega) (by omega) (by decide)) rfl rfl rfl ?_
      refine y_ret (r := none) dm_X12_tells_117 rfl rfl rfl ?_
      refine ⟨rfl, ?_⟩
      unfold nameS
      rw [← hi, ← hj]
      unfold delN delF
      rw [if_neg (show ¬ j < n by omega), if_neg (show ¬ j < n by omega), if_neg (show ¬ j < n by omega), up_self, up_self, ← hvn, up_self]
      rw [show ((max m (i + 1) : Nat) : Int) = s.1 24 + 1 by rw [hfn]; omega]
  · refine me1 (pc' := 13) (L' := [(4, ii (fndR (s.2.2.2 19) n key)), (0, .ref 102), (1, .long key), (3, ii x)]) (S' := [.ref 102]) dm_X12_tells_12 rfl rfl rfl rfl ?_
    refine me0 (pc' := 14) (S' := [.ref 102, .ref 102]) dm_X12_tells_13 rfl rfl rfl rfl ?_
    refine me3 (pc' := 17) (S' := [ii (s.1 23), .ref 102]) dm_X12_tells_14 (q_geti (v := s.1 23) hm rfl (fun m i l => rg_23 m i l) rfl) rfl rfl rfl ?_
    refine me0 (pc' := 18) (S' := [ii 1, ii (s.1 23), .ref 102]) dm_X12_tells_17 rfl rfl rfl rfl ?_
    refine y_isub (a := s.1 23) (b := 1) dm_X12_tells_18 (pc' := 19) rfl ?_
    refine me3 (pc' := 22) (S' := []) (h1 := rI pre post (va_up s.1 23 ((s.1 23) - 1)) s.2.1 s.2.2.1 s.2.2.2) dm_X12_tells_19 (q_puti hm rfl rfl (fun m i l v => rf_23 m i l v)) rfl rfl rfl ?_
    refine me1 (pc' := 24) (L' := [(4, ii (fndR (s.2.2.2 19) n key)), (0, .ref 102), (1, .long key), (3, ii x)]) (S' := [ii (fndR (s.2.2.2 19) n key)]) dm_X12_tells_22 rfl rfl rfl rfl ?_
    refine pg_st0 (S' := [ii (j : Int)]) (congrArg (fun z => ii z :: []) (by omega)) ?_
    refine me1 (pc' := 26) (L' := [(5, ii (j : Int)), (4, ii (fndR (s.2.2.2 19) n key)), (0, .ref 102), (1, .long key), (3, ii x)]) (S' := []) dm_X12_tells_24 rfl rfl rfl rfl ?_
    have lp26 : ∀ (n26 : Nat) (k : Nat), n - k = n26 → (j ≤ k) → (k + 1 ≤ n) → pgE xt (d - 1) 12 6 false (Option.none : Option Jvm.ClassFile.FieldType) (mj_dec prog_14_method_67_code) 26 [(0, .ref 102), (1, .long key), (3, ii x), (4, ii (fndR (s.2.2.2 19) n key)), (5, ii (k : Int))] [] (rI pre post ((shS s 19 21 23 j k ((n : Int) - 1)).1) ((shS s 19 21 23 j k ((n : Int) - 1)).2.1) ((shS s 19 21 23 j k ((n : Int) - 1)).2.2.1) ((shS s 19 21 23 j k ((n : Int) - 1)).2.2.2)) (fun r h' => r = none ∧ h' = rS pre post (nameS s 20 22 24 19 21 23 m n key x)) := by
      intro n26
      induction n26 using Nat.strongRecOn with
      | ind n26 ih26 =>
        intro k hm26 hk hk2
        refine me1 (pc' := 28) (L' := [(0, .ref 102), (1, .long key), (3, ii x), (4, ii (fndR (s.2.2.2 19) n key)), (5, ii (k : Int))]) (S' := [ii (k : Int)]) dm_X12_tells_26 rfl rfl rfl rfl ?_
        refine me1 (pc' := 29) (L' := [(0, .ref 102), (1, .long key), (3, ii x), (4, ii (fndR (s.2.2.2 19) n key)), (5, ii (k : Int))]) (S' := [.ref 102, ii (k : Int)]) dm_X12_tells_28 rfl rfl rfl rfl ?_
        refine me3 (pc' := 32) (S' := [ii (((shS s 19 21 23 j k ((n : Int) - 1)).1) 23), ii (k : Int)]) dm_X12_tells_29 (q_geti (v := ((shS s 19 21 23 j k ((n : Int) - 1)).1) 23) hm rfl (fun m i l => rg_23 m i l) rfl) rfl rfl rfl ?_
        refine pg_st0 (S' := [ii ((n : Int) - 1), ii (k : Int)]) (congrArg (fun z => ii z :: [ii (k : Int)]) ((show va_up s.1 23 _ 23 = _ from up_eq _ _ _))) ?_
        refine y_2ge (a := (k : Int)) (b := (n : Int) - 1) (t := 73) (pc' := 35) dm_X12_tells_32 rfl rfl (by omega) (fun hb3 => ?_) (fun hb3 => ?_)
        · refine me1 (pc' := 74) (L' := [(0, .ref 102), (1, .long key), (3, ii x), (4, ii (fndR (s.2.2.2 19) n key)), (5, ii (k : Int))]) (S' := [.ref 102]) dm_X12_tells_73 rfl rfl rfl rfl ?_
          refine me1 (pc' := 75) (L' := [(0, .ref 102), (1, .long key), (3, ii x), (4, ii (fndR (s.2.2.2 19) n key)), (5, ii (k : Int))]) (S' := [.long key, .ref 102]) dm_X12_tells_74 rfl rfl rfl rfl ?_
          refine x_cp (pc' := 78) (v := ii (fndR (s.2.2.2 20) m key)) (rest := []) dm_X12_tells_75 rfl (q_inv (As := [.long key]) (S := []) hm rfl rfl rfl) rfl rfl rfl (r_functionNamed_ (s := (shS s 19 21 23 j k ((n : Int) - 1))) (n := n - 1) (m := m) hm (by omega) (show (n : Int) - 1 = ((n - 1 : Nat) : Int) by omega) (show _ = (m : Int) from hfn) (by omega) (by omega)) ?_
          refine me1 (pc' := 80) (L' := [(5, ii (fndR (s.2.2.2 20) m key)), (0, .ref 102), (1, .long key), (3, ii x), (4, ii (fndR (s.2.2.2 19) n key))]) (S' := []) dm_X12_tells_78 rfl rfl rfl rfl ?_
          refine me1 (pc' := 82) (L' := [(5, ii (fndR (s.2.2.2 20) m key)), (0, .ref 102), (1, .long key), (3, ii x), (4, ii (fndR (s.2.2.2 19) n key))]) (S' := [ii (fndR (s.2.2.2 20) m key)]) dm_X12_tells_80 rfl rfl rfl rfl ?_
          refine y_1ge (a := fndR (s.2.2.2 20) m key) (t := 101) (pc' := 85) dm_X12_tells_82 rfl rfl (by omega) (fun hb4 => ?_) (fun hb4 => ?_)
          · refine me1 (pc' := 102) (L' := [(5, ii (fndR (s.2.2.2 20) m key)), (0, .ref 102), (1, .long key), (3, ii x), (4, ii (fndR (s.2.2.2 19) n key))]) (S' := [.ref 102]) dm_X12_tells_101 rfl rfl rfl rfl ?_
            refine me3 (pc' := 105) (S' := [.ref (102 + 9)]) dm_X12_tells_102 (q_getr hm rfl (fun m i l => rg_20 m i l)) rfl rfl rfl ?_
            refine me1 (pc' := 107) (L' := [(5, ii (fndR (s.2.2.2 20) m key)), (0, .ref 102), (1, .long key), (3, ii x), (4, ii (fndR (s.2.2.2 19) n key))]) (S' := [ii (fndR (s.2.2.2 20) m key), .ref (102 + 9)]) dm_X12_tells_105 rfl rfl rfl rfl ?_
            refine pg_st0 (S' := [ii (i : Int), .ref (102 + 9)]) (congrArg (fun z => ii z :: [.ref (102 + 9)]) (by omega)) ?_
            refine me1 (pc' := 108) (L' := [(5, ii (fndR (s.2.2.2 20) m key)), (0, .ref 102), (1, .long key), (3, ii x), (4, ii (fndR (s.2.2.2 19) n key))]) (S' := [.long key, ii (i : Int), .ref (102 + 9)]) dm_X12_tells_107 rfl rfl rfl rfl ?_
            refine me3 (pc' := 109) (S' := []) (h1 := rI pre post ((shS s 19 21 23 j k ((n : Int) - 1)).1) ((shS s 19 21 23 j k ((n : Int) - 1)).2.1) ((shS s 19 21 23 j k ((n : Int) - 1)).2.2.1) (va_up ((shS s 19 21 23 j k ((n : Int) - 1)).2.2.2) 20 (va_up (((shS s 19 21 23 j k ((n : Int) - 1)).2.2.2) 20) i key))) dm_X12_tells_108 (q_last (j := (i : Int)) (k := 20) (n := 40) hm (fun m i l I J => rc_20 m i l I J) (fun m i l I J f => rs_20 m i l I J f) (by omega) (by omega) (by decide)) rfl rfl rfl ?_
            refine me1 (pc' := 110) (L' := [(5, ii (fndR (s.2.2.2 20) m key)), (0, .ref 102), (1, .long key), (3, ii x), (4, ii (fndR (s.2.2.2 19) n key))]) (S' := [.ref 102]) dm_X12_tells_109 rfl rfl rfl rfl ?_
            refine me3 (pc' := 113) (S' := [.ref (102 + 11)]) dm_X12_tells_110 (q_getr hm rfl (fun m i l => rg_22 m i l)) rfl rfl rfl ?_
            refine me1 (pc' := 115) (L' := [(5, ii (fndR (s.2.2.2 20) m key)), (0, .ref 102), (1, .long key), (3, ii x), (4, ii (fndR (s.2.2.2 19) n key))]) (S' := [ii (fndR (s.2.2.2 20) m key), .ref (102 + 11)]) dm_X12_tells_113 rfl rfl rfl rfl ?_
            refine pg_st0 (S' := [ii (i : Int), .ref (102 + 11)]) (congrArg (fun z => ii z :: [.ref (102 + 11)]) (by omega)) ?_
            refine me1 (pc' := 116) (L' := [(5, ii (fndR (s.2.2.2 20) m key)), (0, .ref 102), (1, .long key), (3, ii x), (4, ii (fndR (s.2.2.2 19) n key))]) (S' := [ii x, ii (i : Int), .ref (102 + 11)]) dm_X12_tells_115 rfl rfl rfl rfl ?_
            refine me3 (pc' := 117) (S' := []) (h1 := rI pre post ((shS s 19 21 23 j k ((n : Int) - 1)).1) ((shS s 19 21 23 j k ((n : Int) - 1)).2.1) (va_up ((shS s 19 21 23 j k ((n : Int) - 1)).2.2.1) 22 (va_up (((shS s 19 21 23 j k ((n : Int) - 1)).2.2.1) 22) i x)) (va_up ((shS s 19 21 23 j k ((n : Int) - 1)).2.2.2) 20 (va_up (((shS s 19 21 23 j k ((n : Int) - 1)).2.2.2) 20) i key))) dm_X12_tells_116 (q_iast (j := (i : Int)) (k := 22) (n := 40) hm (fun m i l I J => rc_22 m i l I J) (fun m i l I J f => rs_22 m i l I J f) (by omega) (by omega) (by decide)) rfl rfl rfl ?_
            refine y_ret (r := none) dm_X12_tells_117 rfl rfl rfl ?_
            refine ⟨rfl, ?_⟩
            have hkm : k = n - 1 := by omega
            subst hkm
            unfold nameS
            rw [← hi, ← hj]
            unfold delN delF
            rw [if_pos (show j < n by omega), if_pos (show j < n by omega), if_pos (show j < n by omega)]
            rw [show ((n - 1 : Nat) : Int) = (n : Int) - 1 by omega]
            rw [show ((max m (i + 1) : Nat) : Int) = s.1 24 by rw [hfn]; omega]
            exact (congrArg (fun z => rI pre post z s.2.1 _ _) (up_self (va_up s.1 23 ((n : Int) - 1)) 24)).symm
          · refine me1 (pc' := 86) (L' := [(5, ii (fndR (s.2.2.2 20) m key)), (0, .ref 102), (1, .long key), (3, ii x), (4, ii (fndR (s.2.2.2 19) n key))]) (S' := [.ref 102]) dm_X12_tells_85 rfl rfl rfl rfl ?_
            refine me3 (pc' := 89) (S' := [ii (((shS s 19 21 23 j k ((n : Int) - 1)).1) 24)]) dm_X12_tells_86 (q_geti (v := ((shS s 19 21 23 j k ((n : Int) - 1)).1) 24) hm rfl (fun m i l => rg_24 m i l) rfl) rfl rfl rfl ?_
            refine me1 (pc' := 91) (L' := [(5, ii (((shS s 19 21 23 j k ((n : Int) - 1)).1) 24)), (0, .ref 102), (1, .long key), (3, ii x), (4, ii (fndR (s.2.2.2 19) n key))]) (S' := []) dm_X12_tells_89 rfl rfl rfl rfl ?_
            refine me1 (pc' := 92) (L' := [(5, ii (((shS s 19 21 23 j k ((n : Int) - 1)).1) 24)), (0, .ref 102), (1, .long key), (3, ii x), (4, ii (fndR (s.2.2.2 19) n key))]) (S' := [.ref 102]) dm_X12_tells_91 rfl rfl rfl rfl ?_
            refine me0 (pc' := 93) (S' := [.ref 102, .ref 102]) dm_X12_tells_92 rfl rfl rfl rfl ?_
            refine me3 (pc' := 96) (S' := [ii (((shS s 19 21 23 j k ((n : Int) - 1)).1) 24), .ref 102]) dm_X12_tells_93 (q_geti (v := ((shS s 19 21 23 j k ((n : Int) - 1)).1) 24) hm rfl (fun m i l => rg_24 m i l) rfl) rfl rfl rfl ?_
            refine me0 (pc' := 97) (S' := [ii 1, ii (((shS s 19 21 23 j k ((n : Int) - 1)).1) 24), .ref 102]) dm_X12_tells_96 rfl rfl rfl rfl ?_
            refine y_iadd (a := ((shS s 19 21 23 j k ((n : Int) - 1)).1) 24) (b := 1) dm_X12_tells_97 (pc' := 98) rfl ?_
            refine me3 (pc' := 101) (S' := []) (h1 := rI pre post (va_up ((shS s 19 21 23 j k ((n : Int) - 1)).1) 24 ((((shS s 19 21 23 j k ((n : Int) - 1)).1) 24) + 1)) ((shS s 19 21 23 j k ((n : Int) - 1)).2.1) ((shS s 19 21 23 j k ((n : Int) - 1)).2.2.1) ((shS s 19 21 23 j k ((n : Int) - 1)).2.2.2)) dm_X12_tells_98 (q_puti hm rfl rfl (fun m i l v => rf_24 m i l v)) rfl rfl rfl ?_
            refine me1 (pc' := 102) (L' := [(5, ii (((shS s 19 21 23 j k ((n : Int) - 1)).1) 24)), (0, .ref 102), (1, .long key), (3, ii x), (4, ii (fndR (s.2.2.2 19) n key))]) (S' := [.ref 102]) dm_X12_tells_101 rfl rfl rfl rfl ?_
            refine me3 (pc' := 105) (S' := [.ref (102 + 9)]) dm_X12_tells_102 (q_getr hm rfl (fun m i l => rg_20 m i l)) rfl rfl rfl ?_
            refine me1 (pc' := 107) (L' := [(5, ii (((shS s 19 21 23 j k ((n : Int) - 1)).1) 24)), (0, .ref 102), (1, .long key), (3, ii x), (4, ii (fndR (s.2.2.2 19) n key))]) (S' := [ii (((shS s 19 21 23 j k ((n : Int) - 1)).1) 24), .ref (102 + 9)]) dm_X12_tells_105 rfl rfl rfl rfl ?_
            refine pg_st0 (S' := [ii (i : Int), .ref (102 + 9)]) (congrArg (fun z => ii z :: [.ref (102 + 9)]) ((show _ = (i : Int) from hfn.trans (by omega)))) ?_
            refine me1 (pc' := 108) (L' := [(5, ii (((shS s 19 21 23 j k ((n : Int) - 1)).1) 24)), (0, .ref 102), (1, .long key), (3, ii x), (4, ii (fndR (s.2.2.2 19) n key))]) (S' := [.long key, ii (i : Int), .ref (102 + 9)]) dm_X12_tells_107 rfl rfl rfl rfl ?_
            refine me3 (pc' := 109) (S' := []) (h1 := rI pre post (va_up ((shS s 19 21 23 j k ((n : Int) - 1)).1) 24 ((((shS s 19 21 23 j k ((n : Int) - 1)).1) 24) + 1)) ((shS s 19 21 23 j k ((n : Int) - 1)).2.1) ((shS s 19 21 23 j k ((n : Int) - 1)).2.2.1) (va_up ((shS s 19 21 23 j k ((n : Int) - 1)).2.2.2) 20 (va_up (((shS s 19 21 23 j k ((n : Int) - 1)).2.2.2) 20) i key))) dm_X12_tells_108 (q_last (j := (i : Int)) (k := 20) (n := 40) hm (fun m i l I J => rc_20 m i l I J) (fun m i l I J f => rs_20 m i l I J f) (by omega) (by omega) (by decide)) rfl rfl rfl ?_
            refine me1 (pc' := 110) (L' := [(5, ii (((shS s 19 21 23 j k ((n : Int) - 1)).1) 24)), (0, .ref 102), (1, .long key), (3, ii x), (4, ii (fndR (s.2.2.2 19) n key))]) (S' := [.ref 102]) dm_X12_tells_109 rfl rfl rfl rfl ?_
            refine me3 (pc' := 113) (S' := [.ref (102 + 11)]) dm_X12_tells_110 (q_getr hm rfl (fun m i l => rg_22 m i l)) rfl rfl rfl ?_
            refine me1 (pc' := 115) (L' := [(5, ii (((shS s 19 21 23 j k ((n : Int) - 1)).1) 24)), (0, .ref 102), (1, .long key), (3, ii x), (4, ii (fndR (s.2.2.2 19) n key))]) (S' := [ii (((shS s 19 21 23 j k ((n : Int) - 1)).1) 24), .ref (102 + 11)]) dm_X12_tells_113 rfl rfl rfl rfl ?_
            refine pg_st0 (S' := [ii (i : Int), .ref (102 + 11)]) (congrArg (fun z => ii z :: [.ref (102 + 11)]) ((show _ = (i : Int) from hfn.trans (by omega)))) ?_
            refine me1 (pc' := 116) (L' := [(5, ii (((shS s 19 21 23 j k ((n : Int) - 1)).1) 24)), (0, .ref 102), (1, .long key), (3, ii x), (4, ii (fndR (s.2.2.2 19) n key))]) (S' := [ii x, ii (i : Int), .ref (102 + 11)]) dm_X12_tells_115 rfl rfl rfl rfl ?_
            refine me3 (pc' := 117) (S' := []) (h1 := rI pre post (va_up ((shS s 19 21 23 j k ((n : Int) - 1)).1) 24 ((((shS s 19 21 23 j k ((n : Int) - 1)).1) 24) + 1)) ((shS s 19 21 23 j k ((n : Int) - 1)).2.1) (va_up ((shS s 19 21 23 j k ((n : Int) - 1)).2.2.1) 22 (va_up (((shS s 19 21 23 j k ((n : Int) - 1)).2.2.1) 22) i x)) (va_up ((shS s 19 21 23 j k ((n : Int) - 1)).2.2.2) 20 (va_up (((shS s 19 21 23 j k ((n : Int) - 1)).2.2.2) 20) i key))) dm_X12_tells_116 (q_iast (j := (i : Int)) (k := 22) (n := 40) hm (fun m i l I J => rc_22 m i l I J) (fun m i l I J f => rs_22 m i l I J f) (by omega) (by omega) (by decide)) rfl rfl rfl ?_
            refine y_ret (r := none) dm_X12_tells_117 rfl rfl rfl ?_
            refine ⟨rfl, ?_⟩
            have hkm : k = n - 1 := by omega
            subst hkm
            unfold nameS
            rw [← hi, ← hj]
            unfold delN delF
            rw [if_pos (show j < n by omega), if_pos (show j < n by omega), if_pos (show j < n by omega)]
            rw [show ((n - 1 : Nat) : Int) = (n : Int) - 1 by omega]
            rw [show ((max m (i + 1) : Nat) : Int) = s.1 24 + 1 by rw [hfn]; omega]
            rfl
        · refine me1 (pc' := 36) (L' := [(0, .ref 102), (1, .long key), (3, ii x), (4, ii (fndR (s.2.2.2 19) n key)), (5, ii (k : Int))]) (S' := [.ref 102]) dm_X12_tells_35 rfl rfl rfl rfl ?_
          refine me3 (pc' := 39) (S' := [.ref (102 + 8)]) dm_X12_tells_36 (q_getr hm rfl (fun m i l => rg_19 m i l)) rfl rfl rfl ?_
          refine me1 (pc' := 41) (L' := [(0, .ref 102), (1, .long key), (3, ii x), (4, ii (fndR (s.2.2.2 19) n key)), (5, ii (k : Int))]) (S' := [ii (k : Int), .ref (102 + 8)]) dm_X12_tells_39 rfl rfl rfl rfl ?_
          refine me1 (pc' := 42) (L' := [(0, .ref 102), (1, .long key), (3, ii x), (4, ii (fndR (s.2.2.2 19) n key)), (5, ii (k : Int))]) (S' := [.ref 102, ii (k : Int), .ref (102 + 8)]) dm_X12_tells_41 rfl rfl rfl rfl ?_
          refine me3 (pc' := 45) (S' := [.ref (102 + 8), ii (k : Int), .ref (102 + 8)]) dm_X12_tells_42 (q_getr hm rfl (fun m i l => rg_19 m i l)) rfl rfl rfl ?_
          refine me1 (pc' := 47) (L' := [(0, .ref 102), (1, .long key), (3, ii x), (4, ii (fndR (s.2.2.2 19) n key)), (5, ii (k : Int))]) (S' := [ii (k : Int), .ref (102 + 8), ii (k : Int), .ref (102 + 8)]) dm_X12_tells_45 rfl rfl rfl rfl ?_
          refine me0 (pc' := 48) (S' := [ii 1, ii (k : Int), .ref (102 + 8), ii (k : Int), .ref (102 + 8)]) dm_X12_tells_47 rfl rfl rfl rfl ?_
          refine y_iadd (a := (k : Int)) (b := 1) dm_X12_tells_48 (pc' := 49) rfl ?_
          refine me3 (pc' := 50) (S' := [.long ((((shS s 19 21 23 j k ((n : Int) - 1)).2.2.2) 19) (k + 1)), ii (k : Int), .ref (102 + 8)]) dm_X12_tells_49 (q_lald (v := (((shS s 19 21 23 j k ((n : Int) - 1)).2.2.2) 19) (k + 1)) (k := 19) (n := 40) hm (fun m i l I J => rc_19 m i l I J) (by omega) (by omega) (by decide) rfl) rfl rfl rfl ?_
          refine me3 (pc' := 51) (S' := []) (h1 := rI pre post ((shS s 19 21 23 j k ((n : Int) - 1)).1) ((shS s 19 21 23 j k ((n : Int) - 1)).2.1) ((shS s 19 21 23 j k ((n : Int) - 1)).2.2.1) (va_up ((shS s 19 21 23 j k ((n : Int) - 1)).2.2.2) 19 (va_up (((shS s 19 21 23 j k ((n : Int) - 1)).2.2.2) 19) k ((((shS s 19 21 23 j k ((n : Int) - 1)).2.2.2) 19) (k + 1))))) dm_X12_tells_50 (q_last (j := (k : Int)) (k := 19) (n := 40) hm (fun m i l I J => rc_19 m i l I J) (fun m i l I J f => rs_19 m i l I J f) (by omega) (by omega) (by decide)) rfl rfl rfl ?_
          refine me1 (pc' := 52) (L' := [(0, .ref 102), (1, .long key), (3, ii x), (4, ii (fndR (s.2.2.2 19) n key)), (5, ii (k : Int))]) (S' := [.ref 102]) dm_X12_tells_51 rfl rfl rfl rfl ?_
          refine me3 (pc' := 55) (S' := [.ref (102 + 10)]) dm_X12_tells_52 (q_getr hm rfl (fun m i l => rg_21 m i l)) rfl rfl rfl ?_
          refine me1 (pc' := 57) (L' := [(0, .ref 102), (1, .long key), (3, ii x), (4, ii (fndR (s.2.2.2 19) n key)), (5, ii (k : Int))]) (S' := [ii (k : Int), .ref (102 + 10)]) dm_X12_tells_55 rfl rfl rfl rfl ?_
          refine me1 (pc' := 58) (L' := [(0, .ref 102), (1, .long key), (3, ii x), (4, ii (fndR (s.2.2.2 19) n key)), (5, ii (k : Int))]) (S' := [.ref 102, ii (k : Int), .ref (102 + 10)]) dm_X12_tells_57 rfl rfl rfl rfl ?_
          refine me3 (pc' := 61) (S' := [.ref (102 + 10), ii (k : Int), .ref (102 + 10)]) dm_X12_tells_58 (q_getr hm rfl (fun m i l => rg_21 m i l)) rfl rfl rfl ?_
          refine me1 (pc' := 63) (L' := [(0, .ref 102), (1, .long key), (3, ii x), (4, ii (fndR (s.2.2.2 19) n key)), (5, ii (k : Int))]) (S' := [ii (k : Int), .ref (102 + 10), ii (k : Int), .ref (102 + 10)]) dm_X12_tells_61 rfl rfl rfl rfl ?_
          refine me0 (pc' := 64) (S' := [ii 1, ii (k : Int), .ref (102 + 10), ii (k : Int), .ref (102 + 10)]) dm_X12_tells_63 rfl rfl rfl rfl ?_
          refine y_iadd (a := (k : Int)) (b := 1) dm_X12_tells_64 (pc' := 65) rfl ?_
          refine me3 (pc' := 66) (S' := [ii ((((shS s 19 21 23 j k ((n : Int) - 1)).2.2.1) 21) (k + 1)), ii (k : Int), .ref (102 + 10)]) dm_X12_tells_65 (q_iald (v := (((shS s 19 21 23 j k ((n : Int) - 1)).2.2.1) 21) (k + 1)) (k := 21) (n := 40) hm (fun m i l I J => rc_21 m i l I J) (by omega) (by omega) (by decide) rfl) rfl rfl rfl ?_
          refine me3 (pc' := 67) (S' := []) (h1 := rI pre post ((shS s 19 21 23 j k ((n : Int) - 1)).1) ((shS s 19 21 23 j k ((n : Int) - 1)).2.1) (va_up ((shS s 19 21 23 j k ((n : Int) - 1)).2.2.1) 21 (va_up (((shS s 19 21 23 j k ((n : Int) - 1)).2.2.1) 21) k ((((shS s 19 21 23 j k ((n : Int) - 1)).2.2.1) 21) (k + 1)))) (va_up ((shS s 19 21 23 j k ((n : Int) - 1)).2.2.2) 19 (va_up (((shS s 19 21 23 j k ((n : Int) - 1)).2.2.2) 19) k ((((shS s 19 21 23 j k ((n : Int) - 1)).2.2.2) 19) (k + 1))))) dm_X12_tells_66 (q_iast (j := (k : Int)) (k := 21) (n := 40) hm (fun m i l I J => rc_21 m i l I J) (fun m i l I J f => rs_21 m i l I J f) (by omega) (by omega) (by decide)) rfl rfl rfl ?_
          refine y_iinc (pc' := 70) (L' := [(5, ii ((k : Int) + 1)), (0, .ref 102), (1, .long key), (3, ii x), (4, ii (fndR (s.2.2.2 19) n key))]) dm_X12_tells_67 (y_incp (a := (k : Int)) (c := 1) rfl rfl (by decide)) rfl ?_
          refine me2 (pc' := 26) (S' := []) dm_X12_tells_70 rfl rfl rfl ?_
          refine pg_cast (h2 := rI pre post ((shS s 19 21 23 j (k + 1) ((n : Int) - 1)).1) ((shS s 19 21 23 j (k + 1) ((n : Int) - 1)).2.1) ((shS s 19 21 23 j (k + 1) ((n : Int) - 1)).2.2.1) ((shS s 19 21 23 j (k + 1) ((n : Int) - 1)).2.2.2)) (shS_s s 19 21 23 _ (by omega)) ?_
          exact pg_sub (L := [(0, .ref 102), (1, .long key), (3, ii x), (4, ii (fndR (s.2.2.2 19) n key)), (5, ii ((k + 1) : Int))]) rfl rfl rfl (ih26 (n - (k + 1)) (by omega) (k + 1) rfl (by omega) (by omega))
    refine pg_cast (h2 := rI pre post ((shS s 19 21 23 j j ((n : Int) - 1)).1) ((shS s 19 21 23 j j ((n : Int) - 1)).2.1) ((shS s 19 21 23 j j ((n : Int) - 1)).2.2.1) ((shS s 19 21 23 j j ((n : Int) - 1)).2.2.2)) (by rw [hvn]; exact shS_0 s 19 21 23 j _) ?_
    exact pg_sub (L := [(0, .ref 102), (1, .long key), (3, ii x), (4, ii (fndR (s.2.2.2 19) n key)), (5, ii (j : Int))]) rfl rfl rfl (lp26 _ j rfl (Nat.le_refl _) (by omega))
