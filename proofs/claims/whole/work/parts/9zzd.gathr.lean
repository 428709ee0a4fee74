/-! the reference: gathered -/
/-- what waits from base on is done with -/
def gaB (s : RS) (base : Nat) : RS := (va_up s.1 13 ((base : Nat) : Int), s.2.1, s.2.2.1, s.2.2.2)
theorem gaB_k {s : RS} {base k : Nat} (h : k ≠ 13) : (gaB s base).1 k = s.1 k := up_ne _ _ h
theorem gaB_13 {s : RS} {base : Nat} : (gaB s base).1 13 = ((base : Nat) : Int) := by
  show va_up s.1 13 ((base : Nat) : Int) 13 = _
  exact up_eq _ _ _
theorem cpS_ga {s : RS} {base : Nat} : cpS (gaB s base) = cpS s := by
  unfold cpS
  rw [gaB_k (by decide), gaB_k (by decide)]
theorem allN_sT {p : Nat → Bool} {k : Nat} (h : allN k p = true) (h2 : p k = true) : allN (k + 1) p = true := allN_iff.mpr (fun j hj => by
  by_cases z : j = k
  · rw [z]; exact h2
  · exact allN_iff.mp h j (by omega))
theorem allN_sF {p : Nat → Bool} {k : Nat} (h : allN k p = false ∨ p k = false) : allN (k + 1) p = false := by
  cases z : allN (k + 1) p with
  | false => rfl
  | true =>
    have a := allN_iff.mp z
    rcases h with h | h
    · have : allN k p = true := allN_iff.mpr (fun j hj => a j (by omega))
      rw [this] at h; cases h
    · rw [a k (by omega)] at h; cases h
theorem dres_fl {pre post : mj_H} {s s2 : RS} {W2 cost e : Nat} {p c nd pl : Int} (hT : tkd s s2 W2 cost p) (he : 1 ≤ e ∧ e ≤ 100) (hnd : 0 ≤ nd) : dres pre post s (W2 + cost) c nd (dEr (cpS s) W2 e pl) (ii (-1)) (rS pre post (failS s2 (e : Int) pl)) := by
  obtain ⟨T1, T2, T3, T4, T5, T6, T13, T8, T7, T9⟩ := hT
  have k3 := failS_k (t := s2) (c := (e : Int)) (p := pl) (k := 3) (by decide) (by decide)
  have k4 := failS_k (t := s2) (c := (e : Int)) (p := pl) (k := 4) (by decide) (by decide)
  have k7 := failS_k (t := s2) (c := (e : Int)) (p := pl) (k := 7) (by decide) (by decide)
  have k8 := failS_k (t := s2) (c := (e : Int)) (p := pl) (k := 8) (by decide) (by decide)
  have k13 := failS_k (t := s2) (c := (e : Int)) (p := pl) (k := 13) (by decide) (by decide)
  exact dres_e (rext_fl T1 _ _) (dfr_fl T2 _ _) (by omega) (by omega) ⟨-1, rfl, by omega, by omega⟩ failS_5 (by rw [failS_6, cpS_d T2]) he (by omega) (by omega) (by omega)
/-- waits and price are set -/
theorem ga_tkd {s s2 : RS} {base W : Nat} (h : s2 = (va_up (va_up s.1 13 ((base : Nat) : Int)) 9 3, s.2.1, s.2.2.1, s.2.2.2)) (he : s.1 5 = 0) (h8 : s.1 8 = (W : Int)) : tkd (gaB s base) s2 W 0 ((3 : Nat) : Int) := by
  have k : ∀ k, k ≠ 9 → s2.1 k = (gaB s base).1 k := fun k hk => by rw [h]; exact up_ne _ _ hk
  have k5 := k 5 (by decide)
  have k8 := k 8 (by decide)
  have k7 := k 7 (by decide)
  rw [gaB_k (by decide)] at k5 k8
  refine ⟨⟨by rw [k 4 (by decide)]; exact Int.le_refl _, by rw [k 3 (by decide)]; exact Int.le_refl _, fun _ _ _ => by rw [h]; exact ⟨rfl, rfl⟩, fun _ _ => by rw [h]; rfl⟩, ⟨fun k' _ _ _ _ _ _ c9 _ _ _ => k k' c9, fun _ => k 11 (by decide), by rw [h]; rfl, fun _ _ _ _ _ _ => by rw [h]; rfl, fun _ _ => by rw [h]; rfl, fun _ _ => by rw [h]; rfl⟩, k 3 (by decide), k 4 (by decide), by omega, k 6 (by decide), k 13 (by decide), by omega, by omega, by rw [h]; show va_up (va_up s.1 13 ((base : Nat) : Int)) 9 3 9 = ((3 : Nat) : Int); exact up_eq _ _ _⟩
theorem ga_flat {k n : Nat} {f : Nat → Int64} (h2 : 2 ≤ k) (h5 : k ≤ 5) (d : Nat) : vsz (d + 1) (vrow k n f) = 1 + n := by
  show (if k ≤ 1 then 1 else if k = 6 then 1 + n * 0 else if k = 7 then _ else 1 + n) = _
  rw [if_neg (by omega), if_neg (by omega), if_neg (by omega)]
theorem ga_nest {n : Nat} {ch : Nat → VV} (d : Nat) : vsz (d + 1) (vnest n ch) = 1 + sumN n (fun k => vsz d (ch k)) := by
  show (if (7 : Nat) ≤ 1 then 1 else if (7 : Nat) = 6 then _ else if (7 : Nat) = 7 then 1 + sumN n (fun k => vsz d (ch k)) else _) = _
  rw [if_neg (by omega), if_neg (by omega), if_pos rfl]
set_option maxRecDepth 20000 in
theorem pm_X12_gathered : mj_mmof pg_ms 244 = some ((⟨"ArrayCalculatorModel", "gathered", "(II)I"⟩, prog_14_method_28_code, 8, (Option.some Jvm.ClassFile.FieldType.int)), 12, false, mj_dec prog_14_method_28_code) := rfl
theorem dm_X12_gathered_0 : mj_dec prog_14_method_28_code 0 = some (.aload_n 0, 1) := by decide +kernel
theorem dm_X12_gathered_1 : mj_dec prog_14_method_28_code 1 = some (.getfield 202, 3) := by decide +kernel
theorem dm_X12_gathered_4 : mj_dec prog_14_method_28_code 4 = some (.iload_n 1, 1) := by decide +kernel
theorem dm_X12_gathered_5 : mj_dec prog_14_method_28_code 5 = some (.isub, 1) := by decide +kernel
theorem dm_X12_gathered_6 : mj_dec prog_14_method_28_code 6 = some (.istore_n 3, 1) := by decide +kernel
theorem dm_X12_gathered_7 : mj_dec prog_14_method_28_code 7 = some (.aload_n 0, 1) := by decide +kernel
theorem dm_X12_gathered_8 : mj_dec prog_14_method_28_code 8 = some (.iload_n 1, 1) := by decide +kernel
theorem dm_X12_gathered_9 : mj_dec prog_14_method_28_code 9 = some (.putfield 202, 3) := by decide +kernel
theorem dm_X12_gathered_12 : mj_dec prog_14_method_28_code 12 = some (.aload_n 0, 1) := by decide +kernel
theorem dm_X12_gathered_13 : mj_dec prog_14_method_28_code 13 = some (.iconst 3, 1) := by decide +kernel
theorem dm_X12_gathered_14 : mj_dec prog_14_method_28_code 14 = some (.putfield 196, 3) := by decide +kernel
theorem dm_X12_gathered_17 : mj_dec prog_14_method_28_code 17 = some (.aload_n 0, 1) := by decide +kernel
theorem dm_X12_gathered_18 : mj_dec prog_14_method_28_code 18 = some (.getfield 181, 3) := by decide +kernel
theorem dm_X12_gathered_21 : mj_dec prog_14_method_28_code 21 = some (.ifCond .le 5, 3) := by decide +kernel
theorem dm_X12_gathered_24 : mj_dec prog_14_method_28_code 24 = some (.iconst (-1), 1) := by decide +kernel
theorem dm_X12_gathered_25 : mj_dec prog_14_method_28_code 25 = some (.ireturn, 1) := by decide +kernel
theorem r_gathE {xt : mj_X} {d base : Nat} {pre post : mj_H} {s : RS} {place : Int} (hm : pre.length = 102) (hd1 : 1 ≤ d) (he1 : 0 < s.1 5) (he2 : s.1 5 ≤ 100) (hw : 0 ≤ s.1 13 ∧ s.1 13 ≤ 8192) (hbn : base ≤ 8192) : pgV xt d 244 [.ref 102, ii ((base : Nat) : Int), ii place] (rS pre post s) (fun x h' => x = ii (-1) ∧ h' = rS pre post (va_up (va_up s.1 13 ((base : Nat) : Int)) 9 3, s.2.1, s.2.2.1, s.2.2.2)) := by
  refine x_enter pm_X12_gathered (L0 := [(0, .ref 102), (1, ii ((base : Nat) : Int)), (2, ii place)]) rfl (Nat.le_of_ble_eq_true rfl) (by omega) ?_
  refine me1 (pc' := 1) (L' := [(0, .ref 102), (1, ii ((base : Nat) : Int)), (2, ii place)]) (S' := [.ref 102]) dm_X12_gathered_0 rfl rfl rfl rfl ?_
  refine me3 (pc' := 4) (S' := [ii (s.1 13)]) dm_X12_gathered_1 (q_geti (v := s.1 13) hm rfl (fun m i l => rg_13 m i l) rfl) rfl rfl rfl ?_
  refine me1 (pc' := 5) (L' := [(0, .ref 102), (1, ii ((base : Nat) : Int)), (2, ii place)]) (S' := [ii ((base : Nat) : Int), ii (s.1 13)]) dm_X12_gathered_4 rfl rfl rfl rfl ?_
  refine y_isub (a := s.1 13) (b := ((base : Nat) : Int)) dm_X12_gathered_5 (pc' := 6) rfl ?_
  refine me1 (pc' := 7) (L' := [(3, ii ((s.1 13) - ((base : Nat) : Int))), (0, .ref 102), (1, ii ((base : Nat) : Int)), (2, ii place)]) (S' := []) dm_X12_gathered_6 rfl rfl rfl rfl ?_
  refine me1 (pc' := 8) (L' := [(3, ii ((s.1 13) - ((base : Nat) : Int))), (0, .ref 102), (1, ii ((base : Nat) : Int)), (2, ii place)]) (S' := [.ref 102]) dm_X12_gathered_7 rfl rfl rfl rfl ?_
  refine me1 (pc' := 9) (L' := [(3, ii ((s.1 13) - ((base : Nat) : Int))), (0, .ref 102), (1, ii ((base : Nat) : Int)), (2, ii place)]) (S' := [ii ((base : Nat) : Int), .ref 102]) dm_X12_gathered_8 rfl rfl rfl rfl ?_
  refine me3 (pc' := 12) (S' := []) (h1 := rI pre post (va_up s.1 13 ((base : Nat) : Int)) s.2.1 s.2.2.1 s.2.2.2) dm_X12_gathered_9 (q_puti hm rfl rfl (fun m i l v => rf_13 m i l v)) rfl rfl rfl ?_
  refine me1 (pc' := 13) (L' := [(3, ii ((s.1 13) - ((base : Nat) : Int))), (0, .ref 102), (1, ii ((base : Nat) : Int)), (2, ii place)]) (S' := [.ref 102]) dm_X12_gathered_12 rfl rfl rfl rfl ?_
  refine me0 (pc' := 14) (S' := [ii 3, .ref 102]) dm_X12_gathered_13 rfl rfl rfl rfl ?_
  refine me3 (pc' := 17) (S' := []) (h1 := rI pre post (va_up (va_up s.1 13 ((base : Nat) : Int)) 9 3) s.2.1 s.2.2.1 s.2.2.2) dm_X12_gathered_14 (q_puti hm rfl rfl (fun m i l v => rf_9 m i l v)) rfl rfl rfl ?_
  refine me1 (pc' := 18) (L' := [(3, ii ((s.1 13) - ((base : Nat) : Int))), (0, .ref 102), (1, ii ((base : Nat) : Int)), (2, ii place)]) (S' := [.ref 102]) dm_X12_gathered_17 rfl rfl rfl rfl ?_
  refine me3 (pc' := 21) (S' := [ii (s.1 5)]) dm_X12_gathered_18 (q_geti (v := s.1 5) hm rfl (fun m i l => rg_5 m i l) rfl) rfl rfl rfl ?_
  refine pg_st (S' := [ii (s.1 5)]) (congrArg (fun z => ii z :: []) (by first | rfl | (rw [up_ne _ _ (by decide), up_ne _ _ (by decide)]))) ?_
  refine y_1le (a := s.1 5) (t := 26) (pc' := 24) dm_X12_gathered_21 rfl rfl (by omega) (fun hb1 => ?_) (fun hb1 => ?_)
  · exfalso; omega
  · refine me0 (pc' := 25) (S' := [ii (-1)]) dm_X12_gathered_24 rfl rfl rfl rfl ?_
    refine y_ret (r := some (ii (-1))) dm_X12_gathered_25 rfl rfl rfl ?_
    exact ⟨_, rfl, rfl, rfl⟩
theorem dm_X12_gathered_26 : mj_dec prog_14_method_28_code 26 = some (.iload_n 3, 1) := by decide +kernel
theorem dm_X12_gathered_27 : mj_dec prog_14_method_28_code 27 = some (.ifCond .le 7, 3) := by decide +kernel
theorem dm_X12_gathered_30 : mj_dec prog_14_method_28_code 30 = some (.iconst 1, 1) := by decide +kernel
theorem dm_X12_gathered_31 : mj_dec prog_14_method_28_code 31 = some (.goto 4, 3) := by decide +kernel
theorem dm_X12_gathered_35 : mj_dec prog_14_method_28_code 35 = some (.istore 4, 2) := by decide +kernel
theorem dm_X12_gathered_37 : mj_dec prog_14_method_28_code 37 = some (.iload_n 3, 1) := by decide +kernel
theorem dm_X12_gathered_38 : mj_dec prog_14_method_28_code 38 = some (.ifCond .le 7, 3) := by decide +kernel
theorem dm_X12_gathered_41 : mj_dec prog_14_method_28_code 41 = some (.iconst 1, 1) := by decide +kernel
theorem dm_X12_gathered_42 : mj_dec prog_14_method_28_code 42 = some (.goto 4, 3) := by decide +kernel
theorem dm_X12_gathered_46 : mj_dec prog_14_method_28_code 46 = some (.istore 5, 2) := by decide +kernel
theorem dm_X12_gathered_48 : mj_dec prog_14_method_28_code 48 = some (.iconst 0, 1) := by decide +kernel
theorem dm_X12_gathered_49 : mj_dec prog_14_method_28_code 49 = some (.istore 6, 2) := by decide +kernel
theorem dm_X12_gathered_51 : mj_dec prog_14_method_28_code 51 = some (.iload 6, 2) := by decide +kernel
theorem dm_X12_gathered_53 : mj_dec prog_14_method_28_code 53 = some (.iload_n 3, 1) := by decide +kernel
theorem dm_X12_gathered_54 : mj_dec prog_14_method_28_code 54 = some (.if_icmp .ge 66, 3) := by decide +kernel
theorem dm_X12_gathered_57 : mj_dec prog_14_method_28_code 57 = some (.iload 4, 2) := by decide +kernel
theorem dm_X12_gathered_59 : mj_dec prog_14_method_28_code 59 = some (.ifCond .eq 23, 3) := by decide +kernel
theorem dm_X12_gathered_62 : mj_dec prog_14_method_28_code 62 = some (.aload_n 0, 1) := by decide +kernel
theorem dm_X12_gathered_63 : mj_dec prog_14_method_28_code 63 = some (.aload_n 0, 1) := by decide +kernel
theorem dm_X12_gathered_64 : mj_dec prog_14_method_28_code 64 = some (.getfield 30, 3) := by decide +kernel
theorem dm_X12_gathered_67 : mj_dec prog_14_method_28_code 67 = some (.iload_n 1, 1) := by decide +kernel
theorem dm_X12_gathered_68 : mj_dec prog_14_method_28_code 68 = some (.iload 6, 2) := by decide +kernel
theorem dm_X12_gathered_70 : mj_dec prog_14_method_28_code 70 = some (.iadd, 1) := by decide +kernel
theorem dm_X12_gathered_71 : mj_dec prog_14_method_28_code 71 = some (.iaload, 1) := by decide +kernel
theorem dm_X12_gathered_72 : mj_dec prog_14_method_28_code 72 = some (.invokevirtual 146, 3) := by decide +kernel
theorem dm_X12_gathered_75 : mj_dec prog_14_method_28_code 75 = some (.ifCond .ne 7, 3) := by decide +kernel
theorem dm_X12_gathered_78 : mj_dec prog_14_method_28_code 78 = some (.iconst 1, 1) := by decide +kernel
theorem dm_X12_gathered_79 : mj_dec prog_14_method_28_code 79 = some (.goto 4, 3) := by decide +kernel
theorem dm_X12_gathered_82 : mj_dec prog_14_method_28_code 82 = some (.iconst 0, 1) := by decide +kernel
theorem dm_X12_gathered_83 : mj_dec prog_14_method_28_code 83 = some (.istore 4, 2) := by decide +kernel
theorem dm_X12_gathered_85 : mj_dec prog_14_method_28_code 85 = some (.iload 5, 2) := by decide +kernel
theorem dm_X12_gathered_87 : mj_dec prog_14_method_28_code 87 = some (.ifCond .eq 24, 3) := by decide +kernel
theorem dm_X12_gathered_90 : mj_dec prog_14_method_28_code 90 = some (.aload_n 0, 1) := by decide +kernel
theorem dm_X12_gathered_91 : mj_dec prog_14_method_28_code 91 = some (.aload_n 0, 1) := by decide +kernel
theorem dm_X12_gathered_92 : mj_dec prog_14_method_28_code 92 = some (.getfield 30, 3) := by decide +kernel
theorem dm_X12_gathered_95 : mj_dec prog_14_method_28_code 95 = some (.iload_n 1, 1) := by decide +kernel
theorem dm_X12_gathered_96 : mj_dec prog_14_method_28_code 96 = some (.iload 6, 2) := by decide +kernel
theorem dm_X12_gathered_98 : mj_dec prog_14_method_28_code 98 = some (.iadd, 1) := by decide +kernel
theorem dm_X12_gathered_99 : mj_dec prog_14_method_28_code 99 = some (.iaload, 1) := by decide +kernel
theorem dm_X12_gathered_100 : mj_dec prog_14_method_28_code 100 = some (.invokevirtual 146, 3) := by decide +kernel
theorem dm_X12_gathered_103 : mj_dec prog_14_method_28_code 103 = some (.iconst 1, 1) := by decide +kernel
theorem dm_X12_gathered_104 : mj_dec prog_14_method_28_code 104 = some (.if_icmp .ne 7, 3) := by decide +kernel
theorem dm_X12_gathered_107 : mj_dec prog_14_method_28_code 107 = some (.iconst 1, 1) := by decide +kernel
theorem dm_X12_gathered_108 : mj_dec prog_14_method_28_code 108 = some (.goto 4, 3) := by decide +kernel
theorem dm_X12_gathered_111 : mj_dec prog_14_method_28_code 111 = some (.iconst 0, 1) := by decide +kernel
theorem dm_X12_gathered_112 : mj_dec prog_14_method_28_code 112 = some (.istore 5, 2) := by decide +kernel
theorem dm_X12_gathered_114 : mj_dec prog_14_method_28_code 114 = some (.iinc 6 1, 3) := by decide +kernel
theorem dm_X12_gathered_117 : mj_dec prog_14_method_28_code 117 = some (.goto (-66), 3) := by decide +kernel
theorem dm_X12_gathered_120 : mj_dec prog_14_method_28_code 120 = some (.iload_n 3, 1) := by decide +kernel
theorem dm_X12_gathered_121 : mj_dec prog_14_method_28_code 121 = some (.iload 4, 2) := by decide +kernel
theorem dm_X12_gathered_123 : mj_dec prog_14_method_28_code 123 = some (.ifCond .ne 8, 3) := by decide +kernel
theorem dm_X12_gathered_131 : mj_dec prog_14_method_28_code 131 = some (.bipush 120, 2) := by decide +kernel
theorem dm_X12_gathered_133 : mj_dec prog_14_method_28_code 133 = some (.goto 5, 3) := by decide +kernel
theorem dm_X12_gathered_138 : mj_dec prog_14_method_28_code 138 = some (.if_icmp .le 11, 3) := by decide +kernel
theorem dm_X12_gathered_141 : mj_dec prog_14_method_28_code 141 = some (.aload_n 0, 1) := by decide +kernel
theorem dm_X12_gathered_142 : mj_dec prog_14_method_28_code 142 = some (.bipush 8, 2) := by decide +kernel
theorem dm_X12_gathered_144 : mj_dec prog_14_method_28_code 144 = some (.iload_n 2, 1) := by decide +kernel
theorem dm_X12_gathered_145 : mj_dec prog_14_method_28_code 145 = some (.invokevirtual 190, 3) := by decide +kernel
theorem dm_X12_gathered_148 : mj_dec prog_14_method_28_code 148 = some (.ireturn, 1) := by decide +kernel
theorem dm_X12_gathered_149 : mj_dec prog_14_method_28_code 149 = some (.aload_n 0, 1) := by decide +kernel
theorem dm_X12_gathered_150 : mj_dec prog_14_method_28_code 150 = some (.iload 5, 2) := by decide +kernel
theorem dm_X12_gathered_152 : mj_dec prog_14_method_28_code 152 = some (.ifCond .eq 7, 3) := by decide +kernel
theorem dm_X12_gathered_159 : mj_dec prog_14_method_28_code 159 = some (.iload 4, 2) := by decide +kernel
theorem dm_X12_gathered_161 : mj_dec prog_14_method_28_code 161 = some (.ifCond .eq 7, 3) := by decide +kernel
theorem dm_X12_gathered_164 : mj_dec prog_14_method_28_code 164 = some (.iconst 5, 1) := by decide +kernel
theorem dm_X12_gathered_165 : mj_dec prog_14_method_28_code 165 = some (.goto 5, 3) := by decide +kernel
theorem dm_X12_gathered_170 : mj_dec prog_14_method_28_code 170 = some (.iload_n 3, 1) := by decide +kernel
theorem dm_X12_gathered_171 : mj_dec prog_14_method_28_code 171 = some (.invokevirtual 126, 3) := by decide +kernel
theorem dm_X12_gathered_174 : mj_dec prog_14_method_28_code 174 = some (.istore 6, 2) := by decide +kernel
theorem dm_X12_gathered_176 : mj_dec prog_14_method_28_code 176 = some (.iconst 0, 1) := by decide +kernel
theorem dm_X12_gathered_177 : mj_dec prog_14_method_28_code 177 = some (.istore 7, 2) := by decide +kernel
theorem dm_X12_gathered_179 : mj_dec prog_14_method_28_code 179 = some (.iload 7, 2) := by decide +kernel
theorem dm_X12_gathered_181 : mj_dec prog_14_method_28_code 181 = some (.iload_n 3, 1) := by decide +kernel
theorem dm_X12_gathered_182 : mj_dec prog_14_method_28_code 182 = some (.if_icmp .ge 61, 3) := by decide +kernel
theorem dm_X12_gathered_185 : mj_dec prog_14_method_28_code 185 = some (.aload_n 0, 1) := by decide +kernel
theorem dm_X12_gathered_186 : mj_dec prog_14_method_28_code 186 = some (.getfield 8, 3) := by decide +kernel
theorem dm_X12_gathered_189 : mj_dec prog_14_method_28_code 189 = some (.aload_n 0, 1) := by decide +kernel
theorem dm_X12_gathered_190 : mj_dec prog_14_method_28_code 190 = some (.getfield 15, 3) := by decide +kernel
theorem dm_X12_gathered_193 : mj_dec prog_14_method_28_code 193 = some (.iload 6, 2) := by decide +kernel
theorem dm_X12_gathered_195 : mj_dec prog_14_method_28_code 195 = some (.iaload, 1) := by decide +kernel
theorem dm_X12_gathered_196 : mj_dec prog_14_method_28_code 196 = some (.iload 7, 2) := by decide +kernel
theorem dm_X12_gathered_198 : mj_dec prog_14_method_28_code 198 = some (.iadd, 1) := by decide +kernel
theorem dm_X12_gathered_199 : mj_dec prog_14_method_28_code 199 = some (.iload 4, 2) := by decide +kernel
theorem dm_X12_gathered_201 : mj_dec prog_14_method_28_code 201 = some (.ifCond .ne 8, 3) := by decide +kernel
theorem dm_X12_gathered_209 : mj_dec prog_14_method_28_code 209 = some (.aload_n 0, 1) := by decide +kernel
theorem dm_X12_gathered_210 : mj_dec prog_14_method_28_code 210 = some (.aload_n 0, 1) := by decide +kernel
theorem dm_X12_gathered_211 : mj_dec prog_14_method_28_code 211 = some (.getfield 30, 3) := by decide +kernel
theorem dm_X12_gathered_214 : mj_dec prog_14_method_28_code 214 = some (.iload_n 1, 1) := by decide +kernel
theorem dm_X12_gathered_215 : mj_dec prog_14_method_28_code 215 = some (.iload 7, 2) := by decide +kernel
theorem dm_X12_gathered_217 : mj_dec prog_14_method_28_code 217 = some (.iadd, 1) := by decide +kernel
theorem dm_X12_gathered_218 : mj_dec prog_14_method_28_code 218 = some (.iaload, 1) := by decide +kernel
theorem dm_X12_gathered_219 : mj_dec prog_14_method_28_code 219 = some (.iconst 0, 1) := by decide +kernel
theorem dm_X12_gathered_220 : mj_dec prog_14_method_28_code 220 = some (.invokevirtual 138, 3) := by decide +kernel
theorem dm_X12_gathered_223 : mj_dec prog_14_method_28_code 223 = some (.goto 13, 3) := by decide +kernel
theorem dm_X12_gathered_236 : mj_dec prog_14_method_28_code 236 = some (.lastore, 1) := by decide +kernel
theorem dm_X12_gathered_237 : mj_dec prog_14_method_28_code 237 = some (.iinc 7 1, 3) := by decide +kernel
theorem dm_X12_gathered_240 : mj_dec prog_14_method_28_code 240 = some (.goto (-61), 3) := by decide +kernel
theorem dm_X12_gathered_243 : mj_dec prog_14_method_28_code 243 = some (.aload_n 0, 1) := by decide +kernel
theorem dm_X12_gathered_244 : mj_dec prog_14_method_28_code 244 = some (.iload 4, 2) := by decide +kernel
theorem dm_X12_gathered_246 : mj_dec prog_14_method_28_code 246 = some (.ifCond .eq 12, 3) := by decide +kernel
theorem dm_X12_gathered_249 : mj_dec prog_14_method_28_code 249 = some (.aload_n 0, 1) := by decide +kernel
theorem dm_X12_gathered_250 : mj_dec prog_14_method_28_code 250 = some (.iload 6, 2) := by decide +kernel
theorem dm_X12_gathered_252 : mj_dec prog_14_method_28_code 252 = some (.invokevirtual 205, 3) := by decide +kernel
theorem dm_X12_gathered_255 : mj_dec prog_14_method_28_code 255 = some (.goto 5, 3) := by decide +kernel
theorem dm_X12_gathered_260 : mj_dec prog_14_method_28_code 260 = some (.iload_n 2, 1) := by decide +kernel
theorem dm_X12_gathered_261 : mj_dec prog_14_method_28_code 261 = some (.invokevirtual 208, 3) := by decide +kernel
theorem dm_X12_gathered_264 : mj_dec prog_14_method_28_code 264 = some (.ireturn, 1) := by decide +kernel
theorem r_gathN {xt : mj_X} {d q b n base W : Nat} {pre post : mj_H} {s : RS} {place nd : Int} {ch : Nat → VV} (hm : pre.length = 102) (hd1 : 42 ≤ d) (hB : rB s) (hq : s.1 4 = (q : Int)) (hb : s.1 3 = (b : Int)) (hq3 : 3 ≤ q) (hV2 : q + 10 < 310000) (hca : 0 ≤ s.1 10 ∧ s.1 10 ≤ 100) (hC : b + 300 ≤ 820000) (hw13 : s.1 13 = ((base + n : Nat) : Int)) (hbn : base + n ≤ 8192) (he0 : s.1 5 = 0) (h8 : s.1 8 = (W : Int)) (hW : W ≤ 500000) (hnd : 0 ≤ nd) (hch : ∀ k, k < n → ∃ p : Nat, 3 ≤ p ∧ s.2.2.1 12 (base + k) = (p : Int) ∧ rv s 7 p (ch k)) (hS1 : ∀ k, k < n → vsz 7 (ch k) ≤ 1000) (hn : n ≤ 300) (hn0 : 0 < n) (hN : allN n (isNb ch) = true) (hS : allN n (isSg ch) = false) (hkd : ∀ k, k < n → vk (ch k) = 0) : pgV xt d 244 [.ref 102, ii ((base : Nat) : Int), ii place] (rS pre post s) (dres pre post (gaB s base) W (7 + 3 * (n : Int)) nd (dGa (cpS s) W n ch place)) := by
  have hB0 := hB
  obtain ⟨hB1, hB2_, hB3, hB4⟩ := hB
  have hBg : rB (gaB s base) := by unfold rB; rw [gaB_k (by decide), gaB_k (by decide)]; exact hB0
  refine x_enter pm_X12_gathered (L0 := [(0, .ref 102), (1, ii ((base : Nat) : Int)), (2, ii place)]) rfl (Nat.le_of_ble_eq_true rfl) (by omega) ?_
  refine me1 (pc' := 1) (L' := [(0, .ref 102), (1, ii ((base : Nat) : Int)), (2, ii place)]) (S' := [.ref 102]) dm_X12_gathered_0 rfl rfl rfl rfl ?_
  refine me3 (pc' := 4) (S' := [ii (s.1 13)]) dm_X12_gathered_1 (q_geti (v := s.1 13) hm rfl (fun m i l => rg_13 m i l) rfl) rfl rfl rfl ?_
  refine me1 (pc' := 5) (L' := [(0, .ref 102), (1, ii ((base : Nat) : Int)), (2, ii place)]) (S' := [ii ((base : Nat) : Int), ii (s.1 13)]) dm_X12_gathered_4 rfl rfl rfl rfl ?_
  refine y_isub (a := s.1 13) (b := ((base : Nat) : Int)) dm_X12_gathered_5 (pc' := 6) rfl ?_
  refine pg_st (S' := [ii ((n : Nat) : Int)]) (congrArg (fun z => ii z :: []) (by rw [hw13]; omega)) ?_
  refine me1 (pc' := 7) (L' := [(3, ii ((n : Nat) : Int)), (0, .ref 102), (1, ii ((base : Nat) : Int)), (2, ii place)]) (S' := []) dm_X12_gathered_6 rfl rfl rfl rfl ?_
  refine me1 (pc' := 8) (L' := [(3, ii ((n : Nat) : Int)), (0, .ref 102), (1, ii ((base : Nat) : Int)), (2, ii place)]) (S' := [.ref 102]) dm_X12_gathered_7 rfl rfl rfl rfl ?_
  refine me1 (pc' := 9) (L' := [(3, ii ((n : Nat) : Int)), (0, .ref 102), (1, ii ((base : Nat) : Int)), (2, ii place)]) (S' := [ii ((base : Nat) : Int), .ref 102]) dm_X12_gathered_8 rfl rfl rfl rfl ?_
  refine me3 (pc' := 12) (S' := []) (h1 := rI pre post (va_up s.1 13 ((base : Nat) : Int)) s.2.1 s.2.2.1 s.2.2.2) dm_X12_gathered_9 (q_puti hm rfl rfl (fun m i l v => rf_13 m i l v)) rfl rfl rfl ?_
  refine me1 (pc' := 13) (L' := [(3, ii ((n : Nat) : Int)), (0, .ref 102), (1, ii ((base : Nat) : Int)), (2, ii place)]) (S' := [.ref 102]) dm_X12_gathered_12 rfl rfl rfl rfl ?_
  refine me0 (pc' := 14) (S' := [ii 3, .ref 102]) dm_X12_gathered_13 rfl rfl rfl rfl ?_
  refine me3 (pc' := 17) (S' := []) (h1 := rI pre post (va_up (va_up s.1 13 ((base : Nat) : Int)) 9 3) s.2.1 s.2.2.1 s.2.2.2) dm_X12_gathered_14 (q_puti hm rfl rfl (fun m i l v => rf_9 m i l v)) rfl rfl rfl ?_
  obtain ⟨s2, hs2⟩ : ∃ s2 : RS, s2 = (va_up (va_up s.1 13 ((base : Nat) : Int)) 9 3, s.2.1, s.2.2.1, s.2.2.2) := ⟨_, rfl⟩
  have hT := ga_tkd (W := W) hs2 he0 h8
  have hk2 : ∀ k, k ≠ 13 → k ≠ 9 → s2.1 k = s.1 k := fun k a c => by rw [hs2]; show va_up (va_up s.1 13 ((base : Nat) : Int)) 9 3 k = _; rw [up_ne _ _ c, up_ne _ _ a]
  have hqS : s2.1 4 = (q : Int) := (hk2 4 (by decide) (by decide)).trans hq
  have hbS : s2.1 3 = (b : Int) := (hk2 3 (by decide) (by decide)).trans hb
  have heS : s2.1 5 = 0 := (hk2 5 (by decide) (by decide)).trans he0
  have hca2 : 0 ≤ s2.1 10 ∧ s2.1 10 ≤ 100 := by rw [hk2 10 (by decide) (by decide)]; exact hca
  have hx2 : rext s s2 := ⟨by omega, by omega, fun _ _ _ => by rw [hs2]; exact ⟨rfl, rfl⟩, fun _ _ => by rw [hs2]⟩
  have hB2 : rB s2 := ⟨by omega, by omega, by omega, by omega⟩
  have hch2 : ∀ k, k < n → ∃ p : Nat, 3 ≤ p ∧ s2.2.2.1 12 (base + k) = (p : Int) ∧ rv s2 7 p (ch k) := fun k hk => by obtain ⟨p, p1, p2, p3⟩ := hch k hk; exact ⟨p, p1, by rw [hs2]; exact p2, rv_ext hx2 p1 p3⟩
  refine pg_cast (h2 := rI pre post s2.1 s2.2.1 s2.2.2.1 s2.2.2.2) (by rw [hs2]) ?_
  refine me1 (pc' := 18) (L' := [(3, ii ((n : Nat) : Int)), (0, .ref 102), (1, ii ((base : Nat) : Int)), (2, ii place)]) (S' := [.ref 102]) dm_X12_gathered_17 rfl rfl rfl rfl ?_
  refine me3 (pc' := 21) (S' := [ii (s2.1 5)]) dm_X12_gathered_18 (q_geti (v := s2.1 5) hm rfl (fun m i l => rg_5 m i l) rfl) rfl rfl rfl ?_
  refine y_1le (a := s2.1 5) (t := 26) (pc' := 24) dm_X12_gathered_21 rfl rfl (by omega) (fun hb1 => ?_) (fun hb1 => ?_)
  · refine me1 (pc' := 27) (L' := [(3, ii ((n : Nat) : Int)), (0, .ref 102), (1, ii ((base : Nat) : Int)), (2, ii place)]) (S' := [ii ((n : Nat) : Int)]) dm_X12_gathered_26 rfl rfl rfl rfl ?_
    refine y_1le (a := ((n : Nat) : Int)) (t := 34) (pc' := 30) dm_X12_gathered_27 rfl rfl (by omega) (fun hb2 => ?_) (fun hb2 => ?_)
    · exfalso; omega
    · refine me0 (pc' := 31) (S' := [ii 1]) dm_X12_gathered_30 rfl rfl rfl rfl ?_
      refine me2 (pc' := 35) (S' := [ii 1]) dm_X12_gathered_31 rfl rfl rfl ?_
      refine me1 (pc' := 37) (L' := [(4, ii 1), (3, ii ((n : Nat) : Int)), (0, .ref 102), (1, ii ((base : Nat) : Int)), (2, ii place)]) (S' := []) dm_X12_gathered_35 rfl rfl rfl rfl ?_
      refine me1 (pc' := 38) (L' := [(4, ii 1), (3, ii ((n : Nat) : Int)), (0, .ref 102), (1, ii ((base : Nat) : Int)), (2, ii place)]) (S' := [ii ((n : Nat) : Int)]) dm_X12_gathered_37 rfl rfl rfl rfl ?_
      refine y_1le (a := ((n : Nat) : Int)) (t := 45) (pc' := 41) dm_X12_gathered_38 rfl rfl (by omega) (fun hb3 => ?_) (fun hb3 => ?_)
      · exfalso; omega
      · refine me0 (pc' := 42) (S' := [ii 1]) dm_X12_gathered_41 rfl rfl rfl rfl ?_
        refine me2 (pc' := 46) (S' := [ii 1]) dm_X12_gathered_42 rfl rfl rfl ?_
        refine me1 (pc' := 48) (L' := [(5, ii 1), (4, ii 1), (3, ii ((n : Nat) : Int)), (0, .ref 102), (1, ii ((base : Nat) : Int)), (2, ii place)]) (S' := []) dm_X12_gathered_46 rfl rfl rfl rfl ?_
        refine me0 (pc' := 49) (S' := [ii 0]) dm_X12_gathered_48 rfl rfl rfl rfl ?_
        refine me1 (pc' := 51) (L' := [(6, ii 0), (5, ii 1), (4, ii 1), (3, ii ((n : Nat) : Int)), (0, .ref 102), (1, ii ((base : Nat) : Int)), (2, ii place)]) (S' := []) dm_X12_gathered_49 rfl rfl rfl rfl ?_
        have lp51 : ∀ (n51 : Nat) (k : Nat) (c1 : Bool) (c2 : Bool), n - k = n51 → (k ≤ n) → (c1 = allN k (isNb ch)) → (c2 = allN k (isSg ch)) → pgE xt (d - 1) 12 8 false (Option.some Jvm.ClassFile.FieldType.int) (mj_dec prog_14_method_28_code) 51 [(0, .ref 102), (1, ii ((base : Nat) : Int)), (2, ii place), (3, ii ((n : Nat) : Int)), (4, zz c1), (5, zz c2), (6, ii (k : Int))] [] (rI pre post s2.1 s2.2.1 s2.2.2.1 s2.2.2.2) (fun r h' => ∃ x, r = some x ∧ dres pre post (gaB s base) W (7 + 3 * (n : Int)) nd (dGa (cpS s) W n ch place) x h') := by
          intro n51
          induction n51 using Nat.strongRecOn with
          | ind n51 ih51 =>
            intro k c1 c2 hm51 hk h1 h2
            refine me1 (pc' := 53) (L' := [(0, .ref 102), (1, ii ((base : Nat) : Int)), (2, ii place), (3, ii ((n : Nat) : Int)), (4, zz c1), (5, zz c2), (6, ii (k : Int))]) (S' := [ii (k : Int)]) dm_X12_gathered_51 rfl rfl rfl rfl ?_
            refine me1 (pc' := 54) (L' := [(0, .ref 102), (1, ii ((base : Nat) : Int)), (2, ii place), (3, ii ((n : Nat) : Int)), (4, zz c1), (5, zz c2), (6, ii (k : Int))]) (S' := [ii ((n : Nat) : Int), ii (k : Int)]) dm_X12_gathered_53 rfl rfl rfl rfl ?_
            refine y_2ge (a := (k : Int)) (b := ((n : Nat) : Int)) (t := 120) (pc' := 57) dm_X12_gathered_54 rfl rfl (by omega) (fun hb4 => ?_) (fun hb4 => ?_)
            · have hkn : k = n := by omega
              rw [hkn] at h1 h2
              have hc1 : c1 = true := h1.trans hN
              have hc2 : c2 = false := h2.trans hS
              clear h1 h2
              refine me1 (pc' := 121) (L' := [(0, .ref 102), (1, ii ((base : Nat) : Int)), (2, ii place), (3, ii ((n : Nat) : Int)), (4, zz c1), (5, zz c2), (6, ii (k : Int))]) (S' := [ii ((n : Nat) : Int)]) dm_X12_gathered_120 rfl rfl rfl rfl ?_
              refine me1 (pc' := 123) (L' := [(0, .ref 102), (1, ii ((base : Nat) : Int)), (2, ii place), (3, ii ((n : Nat) : Int)), (4, zz c1), (5, zz c2), (6, ii (k : Int))]) (S' := [zz c1, ii ((n : Nat) : Int)]) dm_X12_gathered_121 rfl rfl rfl rfl ?_
              refine y_zne (c := c1) (t := 131) (pc' := 126) dm_X12_gathered_123 rfl rfl (fun hb5 => ?_) (fun hb5 => ?_)
              · refine me0 (pc' := 133) (S' := [ii 120, ii ((n : Nat) : Int)]) dm_X12_gathered_131 rfl rfl rfl rfl ?_
                refine me2 (pc' := 138) (S' := [ii 120, ii ((n : Nat) : Int)]) dm_X12_gathered_133 rfl rfl rfl ?_
                refine y_2le (a := ((n : Nat) : Int)) (b := 120) (t := 149) (pc' := 141) dm_X12_gathered_138 rfl rfl (by omega) (fun hb6 => ?_) (fun hb6 => ?_)
                · refine me1 (pc' := 150) (L' := [(0, .ref 102), (1, ii ((base : Nat) : Int)), (2, ii place), (3, ii ((n : Nat) : Int)), (4, zz c1), (5, zz c2), (6, ii (k : Int))]) (S' := [.ref 102]) dm_X12_gathered_149 rfl rfl rfl rfl ?_
                  refine me1 (pc' := 152) (L' := [(0, .ref 102), (1, ii ((base : Nat) : Int)), (2, ii place), (3, ii ((n : Nat) : Int)), (4, zz c1), (5, zz c2), (6, ii (k : Int))]) (S' := [zz c2, .ref 102]) dm_X12_gathered_150 rfl rfl rfl rfl ?_
                  refine y_zeq (c := c2) (t := 159) (pc' := 155) dm_X12_gathered_152 rfl rfl (fun hb7 => ?_) (fun hb7 => ?_)
                  · refine me1 (pc' := 161) (L' := [(0, .ref 102), (1, ii ((base : Nat) : Int)), (2, ii place), (3, ii ((n : Nat) : Int)), (4, zz c1), (5, zz c2), (6, ii (k : Int))]) (S' := [zz c1, .ref 102]) dm_X12_gathered_159 rfl rfl rfl rfl ?_
                    refine y_zeq (c := c1) (t := 168) (pc' := 164) dm_X12_gathered_161 rfl rfl (fun hb8 => ?_) (fun hb8 => ?_)
                    · exact absurd hb8 (by rw [hc1]; decide)
                    · refine me0 (pc' := 165) (S' := [ii 5, .ref 102]) dm_X12_gathered_164 rfl rfl rfl rfl ?_
                      refine me2 (pc' := 170) (S' := [ii 5, .ref 102]) dm_X12_gathered_165 rfl rfl rfl ?_
                      refine me1 (pc' := 171) (L' := [(0, .ref 102), (1, ii ((base : Nat) : Int)), (2, ii place), (3, ii ((n : Nat) : Int)), (4, zz c1), (5, zz c2), (6, ii (k : Int))]) (S' := [ii ((n : Nat) : Int), ii 5, .ref 102]) dm_X12_gathered_170 rfl rfl rfl rfl ?_
                      refine x_cv (pc' := 174) (rest := []) dm_X12_gathered_171 rfl (q_inv (As := [ii 5, ii ((n : Nat) : Int)]) (S := []) hm rfl rfl rfl) rfl rfl rfl (r_row_ (q := q) (b := b) (s := s2) hm (by omega) hqS hbS (by omega) (by omega) (by omega)) ?_
                      rintro _ _ ⟨rfl, rfl⟩
                      refine me1 (pc' := 176) (L' := [(6, ii (q : Int)), (0, .ref 102), (1, ii ((base : Nat) : Int)), (2, ii place), (3, ii ((n : Nat) : Int)), (4, zz c1), (5, zz c2)]) (S' := []) dm_X12_gathered_174 rfl rfl rfl rfl ?_
                      refine me0 (pc' := 177) (S' := [ii 0]) dm_X12_gathered_176 rfl rfl rfl rfl ?_
                      refine me1 (pc' := 179) (L' := [(7, ii 0), (6, ii (q : Int)), (0, .ref 102), (1, ii ((base : Nat) : Int)), (2, ii place), (3, ii ((n : Nat) : Int)), (4, zz c1), (5, zz c2)]) (S' := []) dm_X12_gathered_177 rfl rfl rfl rfl ?_
                      have lp179 : ∀ (n179 : Nat) (k : Nat), n - k = n179 → (k ≤ n) → pgE xt (d - 1) 12 8 false (Option.some Jvm.ClassFile.FieldType.int) (mj_dec prog_14_method_28_code) 179 [(0, .ref 102), (1, ii ((base : Nat) : Int)), (2, ii place), (3, ii ((n : Nat) : Int)), (4, zz c1), (5, zz c2), (6, ii (q : Int)), (7, ii (k : Int))] [] (rI pre post ((fillS (rowS s2 q b 5 ((n : Nat) : Int)) b k (fun k => vn (ch k) 0)).1) ((fillS (rowS s2 q b 5 ((n : Nat) : Int)) b k (fun k => vn (ch k) 0)).2.1) ((fillS (rowS s2 q b 5 ((n : Nat) : Int)) b k (fun k => vn (ch k) 0)).2.2.1) ((fillS (rowS s2 q b 5 ((n : Nat) : Int)) b k (fun k => vn (ch k) 0)).2.2.2)) (fun r h' => ∃ x, r = some x ∧ dres pre post (gaB s base) W (7 + 3 * (n : Int)) nd (dGa (cpS s) W n ch place) x h') := by
                        intro n179
                        induction n179 using Nat.strongRecOn with
                        | ind n179 ih179 =>
                          intro k hm179 hk
                          refine me1 (pc' := 181) (L' := [(0, .ref 102), (1, ii ((base : Nat) : Int)), (2, ii place), (3, ii ((n : Nat) : Int)), (4, zz c1), (5, zz c2), (6, ii (q : Int)), (7, ii (k : Int))]) (S' := [ii (k : Int)]) dm_X12_gathered_179 rfl rfl rfl rfl ?_
                          refine me1 (pc' := 182) (L' := [(0, .ref 102), (1, ii ((base : Nat) : Int)), (2, ii place), (3, ii ((n : Nat) : Int)), (4, zz c1), (5, zz c2), (6, ii (q : Int)), (7, ii (k : Int))]) (S' := [ii ((n : Nat) : Int), ii (k : Int)]) dm_X12_gathered_181 rfl rfl rfl rfl ?_
                          refine y_2ge (a := (k : Int)) (b := ((n : Nat) : Int)) (t := 243) (pc' := 185) dm_X12_gathered_182 rfl rfl (by omega) (fun hb9 => ?_) (fun hb9 => ?_)
                          · have hkn2 : k = n := by omega
                            refine pg_cast (h2 := rI pre post ((fillS (rowS s2 q b 5 ((n : Nat) : Int)) b n (fun k => vn (ch k) 0)).1) ((fillS (rowS s2 q b 5 ((n : Nat) : Int)) b n (fun k => vn (ch k) 0)).2.1) ((fillS (rowS s2 q b 5 ((n : Nat) : Int)) b n (fun k => vn (ch k) 0)).2.2.1) ((fillS (rowS s2 q b 5 ((n : Nat) : Int)) b n (fun k => vn (ch k) 0)).2.2.2)) (by rw [hkn2]) ?_
                            refine me1 (pc' := 244) (L' := [(0, .ref 102), (1, ii ((base : Nat) : Int)), (2, ii place), (3, ii ((n : Nat) : Int)), (4, zz c1), (5, zz c2), (6, ii (q : Int)), (7, ii (k : Int))]) (S' := [.ref 102]) dm_X12_gathered_243 rfl rfl rfl rfl ?_
                            refine me1 (pc' := 246) (L' := [(0, .ref 102), (1, ii ((base : Nat) : Int)), (2, ii place), (3, ii ((n : Nat) : Int)), (4, zz c1), (5, zz c2), (6, ii (q : Int)), (7, ii (k : Int))]) (S' := [zz c1, .ref 102]) dm_X12_gathered_244 rfl rfl rfl rfl ?_
                            refine y_zeq (c := c1) (t := 258) (pc' := 249) dm_X12_gathered_246 rfl rfl (fun hb10 => ?_) (fun hb10 => ?_)
                            · exact absurd hb10 (by rw [hc1]; decide)
                            · refine me1 (pc' := 250) (L' := [(0, .ref 102), (1, ii ((base : Nat) : Int)), (2, ii place), (3, ii ((n : Nat) : Int)), (4, zz c1), (5, zz c2), (6, ii (q : Int)), (7, ii (k : Int))]) (S' := [.ref 102, .ref 102]) dm_X12_gathered_249 rfl rfl rfl rfl ?_
                              refine me1 (pc' := 252) (L' := [(0, .ref 102), (1, ii ((base : Nat) : Int)), (2, ii place), (3, ii ((n : Nat) : Int)), (4, zz c1), (5, zz c2), (6, ii (q : Int)), (7, ii (k : Int))]) (S' := [ii (q : Int), .ref 102, .ref 102]) dm_X12_gathered_250 rfl rfl rfl rfl ?_
                              have hBF : rB (fillS (rowS s2 q b 5 ((n : Nat) : Int)) b n (fun k => vn (ch k) 0)) := ⟨by show 3 ≤ (q : Int) + 1; omega, by show (q : Int) + 1 ≤ 310000; omega, by show 0 ≤ (b : Int) + ((n : Nat) : Int); omega, by show (b : Int) + ((n : Nat) : Int) ≤ 820000; omega⟩
                              have hvZ : rv (fillS (rowS s2 q b 5 ((n : Nat) : Int)) b n (fun k => vn (ch k) 0)) (6 + 1) q (vrow 5 n (fun k => vn (ch k) 0)) := rv_rowS (kind := 5) (vw1_row (by omega) (by omega) (by omega)) (by show ¬ 5 = 7; omega) (by show ¬ 5 = 6; omega) rfl rfl rfl (fun _ _ => rfl)
                              refine x_cv (pc' := 255) (rest := [.ref 102]) dm_X12_gathered_252 rfl (q_inv (As := [ii (q : Int)]) (S := [.ref 102]) hm rfl rfl rfl) rfl rfl rfl (r_settled_ (s := (fillS (rowS s2 q b 5 ((n : Nat) : Int)) b n (fun k => vn (ch k) 0))) (fr0 := b) hm (by omega) hBF hvZ (up_eq _ _ _)) ?_
                              rintro _ _ ⟨rfl, rfl⟩
                              refine me2 (pc' := 260) (S' := [ii (q : Int), .ref 102]) dm_X12_gathered_255 rfl rfl rfl ?_
                              refine me1 (pc' := 261) (L' := [(0, .ref 102), (1, ii ((base : Nat) : Int)), (2, ii place), (3, ii ((n : Nat) : Int)), (4, zz c1), (5, zz c2), (6, ii (q : Int)), (7, ii (k : Int))]) (S' := [ii place, ii (q : Int), .ref 102]) dm_X12_gathered_260 rfl rfl rfl rfl ?_
                              have hvf := vform_le (m := n) (f := (fun k => vn (ch k) 0))
                              have hst := setS_row s2 q b (vform n (fun k => vn (ch k) 0)) n n 5 (fun k => vn (ch k) 0)
                              have hG : rG pre post s2 8 (.inr (vrow (vform n (fun k => vn (ch k) 0)) n (fun k => vn (ch k) 0))) place n 1 (ii (q : Int)) (rS pre post (setS (fillS (rowS s2 q b 5 ((n : Nat) : Int)) b n (fun k => vn (ch k) 0)) q b (vform n (fun k => vn (ch k) 0)) n)) := by rw [show rS pre post (setS (fillS (rowS s2 q b 5 ((n : Nat) : Int)) b n (fun k => vn (ch k) 0)) q b (vform n (fun k => vn (ch k) 0)) n) = rS pre post (fillS (rowS s2 q b ((vform n (fun k => vn (ch k) 0) : Nat) : Int) ((n : Nat) : Int)) b n (fun k => vn (ch k) 0)) from congrArg (rS pre post) hst]; exact rG_P (rresP_of (rres_row (e := 7) (kind := vform n (fun k => vn (ch k) 0)) (n := n) (w := (vrow (vform n (fun k => vn (ch k) 0)) n (fun k => vn (ch k) 0))) hqS hq3 hbS heS (vw1_row (by omega) (by omega) (by omega)) (by show ¬ vform n (fun k => vn (ch k) 0) = 7; omega) (by show ¬ vform n (fun k => vn (ch k) 0) = 6; omega) rfl rfl rfl (fun _ _ => rfl) (Nat.le_refl _) (Nat.le_refl _)))
                              refine x_cv (pc' := 264) (rest := []) dm_X12_gathered_261 rfl (q_inv (As := [ii (q : Int), ii place]) (S := []) hm rfl rfl rfl) rfl rfl rfl (r_mdo (s := gaB s base) (s2 := s2) (W2 := W) (cost := 0) (p := 3) (C := n) (V := 1) (o := .inr (vrow (vform n (fun k => vn (ch k) 0)) n (fun k => vn (ch k) 0))) (c := 7 + 3 * (n : Int)) (nd := nd) hm (by omega) hT hBg hG (by rw [gaB_k (by decide)]; exact hca) (by omega) hW hnd (fun z hz => by cases hz) (fun v hv9 => by injection hv9 with hv9; rw [← hv9, ga_flat (by omega) (by omega)]; omega) (by omega) (by omega) (by rw [gaB_k (by decide), gaB_k (by decide)]; omega) (fun v hv9 _ _ => by injection hv9 with hv9; have z : vsz 7 (vrow (vform n (fun k => vn (ch k) 0)) n (fun k => vn (ch k) 0)) = 1 + n := ga_flat (by omega) (by omega) 6; rw [← hv9]; omega)) ?_
                              rintro x9 g9 hfin
                              obtain ⟨z9, rfl⟩ := dres_ii hfin
                              obtain ⟨t9, rfl⟩ := dres_st hfin
                              refine y_ret (r := some (ii z9)) dm_X12_gathered_264 rfl rfl rfl ?_
                              refine ⟨_, rfl, ?_⟩
                              have e9 : dGa (cpS s) W n ch place = dMo (cpS (gaB s base)) W 3 (.inr (vrow (vform n (fun k => vn (ch k) 0)) n (fun k => vn (ch k) 0))) place := by unfold dGa; rw [gaV_n hn0 (cnB_n hN) (by omega), cpS_ga]; rfl
                              rw [e9]
                              exact hfin
                          · refine me1 (pc' := 186) (L' := [(0, .ref 102), (1, ii ((base : Nat) : Int)), (2, ii place), (3, ii ((n : Nat) : Int)), (4, zz c1), (5, zz c2), (6, ii (q : Int)), (7, ii (k : Int))]) (S' := [.ref 102]) dm_X12_gathered_185 rfl rfl rfl rfl ?_
                            refine me3 (pc' := 189) (S' := [.ref (102 + 1)]) dm_X12_gathered_186 (q_getr hm rfl (fun m i l => rg_0 m i l)) rfl rfl rfl ?_
                            refine me1 (pc' := 190) (L' := [(0, .ref 102), (1, ii ((base : Nat) : Int)), (2, ii place), (3, ii ((n : Nat) : Int)), (4, zz c1), (5, zz c2), (6, ii (q : Int)), (7, ii (k : Int))]) (S' := [.ref 102, .ref (102 + 1)]) dm_X12_gathered_189 rfl rfl rfl rfl ?_
                            refine me3 (pc' := 193) (S' := [.ref (102 + 2), .ref (102 + 1)]) dm_X12_gathered_190 (q_getr hm rfl (fun m i l => rg_1 m i l)) rfl rfl rfl ?_
                            refine me1 (pc' := 195) (L' := [(0, .ref 102), (1, ii ((base : Nat) : Int)), (2, ii place), (3, ii ((n : Nat) : Int)), (4, zz c1), (5, zz c2), (6, ii (q : Int)), (7, ii (k : Int))]) (S' := [ii (q : Int), .ref (102 + 2), .ref (102 + 1)]) dm_X12_gathered_193 rfl rfl rfl rfl ?_
                            refine me3 (pc' := 196) (S' := [ii ((((fillS (rowS s2 q b 5 ((n : Nat) : Int)) b k (fun k => vn (ch k) 0)).2.2.1) 1) q), .ref (102 + 1)]) dm_X12_gathered_195 (q_iald (v := (((fillS (rowS s2 q b 5 ((n : Nat) : Int)) b k (fun k => vn (ch k) 0)).2.2.1) 1) q) (k := 1) (n := 310000) hm (fun m i l I J => rc_1 m i l I J) (by omega) (by omega) (by decide) rfl) rfl rfl rfl ?_
                            refine pg_st (S' := [ii (b : Int), .ref (102 + 1)]) (congrArg (fun z => ii z :: [.ref (102 + 1)]) (up_eq _ _ _)) ?_
                            refine me1 (pc' := 198) (L' := [(0, .ref 102), (1, ii ((base : Nat) : Int)), (2, ii place), (3, ii ((n : Nat) : Int)), (4, zz c1), (5, zz c2), (6, ii (q : Int)), (7, ii (k : Int))]) (S' := [ii (k : Int), ii (b : Int), .ref (102 + 1)]) dm_X12_gathered_196 rfl rfl rfl rfl ?_
                            refine y_iadd (a := (b : Int)) (b := (k : Int)) dm_X12_gathered_198 (pc' := 199) rfl ?_
                            refine me1 (pc' := 201) (L' := [(0, .ref 102), (1, ii ((base : Nat) : Int)), (2, ii place), (3, ii ((n : Nat) : Int)), (4, zz c1), (5, zz c2), (6, ii (q : Int)), (7, ii (k : Int))]) (S' := [zz c1, ii ((b : Int) + (k : Int)), .ref (102 + 1)]) dm_X12_gathered_199 rfl rfl rfl rfl ?_
                            refine y_zne (c := c1) (t := 209) (pc' := 204) dm_X12_gathered_201 rfl rfl (fun hb11 => ?_) (fun hb11 => ?_)
                            · refine me1 (pc' := 210) (L' := [(0, .ref 102), (1, ii ((base : Nat) : Int)), (2, ii place), (3, ii ((n : Nat) : Int)), (4, zz c1), (5, zz c2), (6, ii (q : Int)), (7, ii (k : Int))]) (S' := [.ref 102, ii ((b : Int) + (k : Int)), .ref (102 + 1)]) dm_X12_gathered_209 rfl rfl rfl rfl ?_
                              refine me1 (pc' := 211) (L' := [(0, .ref 102), (1, ii ((base : Nat) : Int)), (2, ii place), (3, ii ((n : Nat) : Int)), (4, zz c1), (5, zz c2), (6, ii (q : Int)), (7, ii (k : Int))]) (S' := [.ref 102, .ref 102, ii ((b : Int) + (k : Int)), .ref (102 + 1)]) dm_X12_gathered_210 rfl rfl rfl rfl ?_
                              refine me3 (pc' := 214) (S' := [.ref (102 + 4), .ref 102, ii ((b : Int) + (k : Int)), .ref (102 + 1)]) dm_X12_gathered_211 (q_getr hm rfl (fun m i l => rg_12 m i l)) rfl rfl rfl ?_
                              refine me1 (pc' := 215) (L' := [(0, .ref 102), (1, ii ((base : Nat) : Int)), (2, ii place), (3, ii ((n : Nat) : Int)), (4, zz c1), (5, zz c2), (6, ii (q : Int)), (7, ii (k : Int))]) (S' := [ii ((base : Nat) : Int), .ref (102 + 4), .ref 102, ii ((b : Int) + (k : Int)), .ref (102 + 1)]) dm_X12_gathered_214 rfl rfl rfl rfl ?_
                              refine me1 (pc' := 217) (L' := [(0, .ref 102), (1, ii ((base : Nat) : Int)), (2, ii place), (3, ii ((n : Nat) : Int)), (4, zz c1), (5, zz c2), (6, ii (q : Int)), (7, ii (k : Int))]) (S' := [ii (k : Int), ii ((base : Nat) : Int), .ref (102 + 4), .ref 102, ii ((b : Int) + (k : Int)), .ref (102 + 1)]) dm_X12_gathered_215 rfl rfl rfl rfl ?_
                              refine y_iadd (a := ((base : Nat) : Int)) (b := (k : Int)) dm_X12_gathered_217 (pc' := 218) rfl ?_
                              refine pg_st (S' := [ii ((base + k : Nat) : Int), .ref (102 + 4), .ref 102, ii ((b : Int) + (k : Int)), .ref (102 + 1)]) (congrArg (fun z => ii z :: [.ref (102 + 4), .ref 102, ii ((b : Int) + (k : Int)), .ref (102 + 1)]) (by omega)) ?_
                              refine me3 (pc' := 219) (S' := [ii ((((fillS (rowS s2 q b 5 ((n : Nat) : Int)) b k (fun k => vn (ch k) 0)).2.2.1) 12) (base + k)), .ref 102, ii ((b : Int) + (k : Int)), .ref (102 + 1)]) dm_X12_gathered_218 (q_iald (v := (((fillS (rowS s2 q b 5 ((n : Nat) : Int)) b k (fun k => vn (ch k) 0)).2.2.1) 12) (base + k)) (k := 12) (n := 8192) hm (fun m i l I J => rc_12 m i l I J) (by omega) (by omega) (by decide) rfl) rfl rfl rfl ?_
                              obtain ⟨p219, hp219, hpe219, hpv219⟩ := hch2 k (by omega)
                              have hpk219 := (rv_wf hpv219).1.1
                              refine pg_st (S' := [ii (p219 : Int), .ref 102, ii ((b : Int) + (k : Int)), .ref (102 + 1)]) (congrArg (fun z => ii z :: [.ref 102, ii ((b : Int) + (k : Int)), .ref (102 + 1)]) (hpe219)) ?_
                              refine me0 (pc' := 220) (S' := [ii 0, ii (p219 : Int), .ref 102, ii ((b : Int) + (k : Int)), .ref (102 + 1)]) dm_X12_gathered_219 rfl rfl rfl rfl ?_
                              have hpvF : rv (fillS (rowS s2 q b 5 ((n : Nat) : Int)) b k (fun k => vn (ch k) 0)) 7 p219 (ch k) := rv_ext (rext_fill (rext_row hqS hbS _ (by omega)) (by omega) _) hp219 hpv219
                              have hBF : rB (fillS (rowS s2 q b 5 ((n : Nat) : Int)) b k (fun k => vn (ch k) 0)) := ⟨by show 3 ≤ (q : Int) + 1; omega, by show (q : Int) + 1 ≤ 310000; omega, by show 0 ≤ (b : Int) + ((n : Nat) : Int); omega, by show (b : Int) + ((n : Nat) : Int) ≤ 820000; omega⟩
                              have hvq1 : vk (ch k) ≤ 1 := by have := hkd k (by omega); omega
                              refine x_cp (pc' := 223) (v := .long (vn (ch k) 0)) (rest := [ii ((b : Int) + (k : Int)), .ref (102 + 1)]) dm_X12_gathered_220 rfl (q_inv (As := [ii (p219 : Int), ii 0]) (S := [ii ((b : Int) + (k : Int)), .ref (102 + 1)]) hm rfl rfl rfl) rfl rfl rfl (r_number_ (k := 0) hm (by omega) hBF hpvF (by omega) (by rw [vq_1 (rv_wf hpvF).1 hvq1]; omega)) ?_
                              refine me2 (pc' := 236) (S' := [.long (vn (ch k) 0), ii ((b : Int) + (k : Int)), .ref (102 + 1)]) dm_X12_gathered_223 rfl rfl rfl ?_
                              refine me3 (pc' := 237) (S' := []) (h1 := rI pre post ((fillS (rowS s2 q b 5 ((n : Nat) : Int)) b k (fun k => vn (ch k) 0)).1) ((fillS (rowS s2 q b 5 ((n : Nat) : Int)) b k (fun k => vn (ch k) 0)).2.1) ((fillS (rowS s2 q b 5 ((n : Nat) : Int)) b k (fun k => vn (ch k) 0)).2.2.1) (va_up ((fillS (rowS s2 q b 5 ((n : Nat) : Int)) b k (fun k => vn (ch k) 0)).2.2.2) 0 (va_up (((fillS (rowS s2 q b 5 ((n : Nat) : Int)) b k (fun k => vn (ch k) 0)).2.2.2) 0) (b + k) (vn (ch k) 0)))) dm_X12_gathered_236 (q_last (j := (b : Int) + (k : Int)) (k := 0) (n := 820000) hm (fun m i l I J => rc_0 m i l I J) (fun m i l I J f => rs_0 m i l I J f) (by omega) (by omega) (by decide)) rfl rfl rfl ?_
                              refine y_iinc (pc' := 240) (L' := [(7, ii ((k : Int) + 1)), (0, .ref 102), (1, ii ((base : Nat) : Int)), (2, ii place), (3, ii ((n : Nat) : Int)), (4, zz c1), (5, zz c2), (6, ii (q : Int))]) dm_X12_gathered_237 (y_incp (a := (k : Int)) (c := 1) rfl rfl (by decide)) rfl ?_
                              refine me2 (pc' := 179) (S' := []) dm_X12_gathered_240 rfl rfl rfl ?_
                              refine pg_cast (h2 := rI pre post ((fillS (rowS s2 q b 5 ((n : Nat) : Int)) b (k + 1) (fun k => vn (ch k) 0)).1) ((fillS (rowS s2 q b 5 ((n : Nat) : Int)) b (k + 1) (fun k => vn (ch k) 0)).2.1) ((fillS (rowS s2 q b 5 ((n : Nat) : Int)) b (k + 1) (fun k => vn (ch k) 0)).2.2.1) ((fillS (rowS s2 q b 5 ((n : Nat) : Int)) b (k + 1) (fun k => vn (ch k) 0)).2.2.2)) (fill_s (rowS s2 q b 5 ((n : Nat) : Int)) b k (fun k => vn (ch k) 0)) ?_
                              exact pg_sub (L := [(0, .ref 102), (1, ii ((base : Nat) : Int)), (2, ii place), (3, ii ((n : Nat) : Int)), (4, zz c1), (5, zz c2), (6, ii (q : Int)), (7, ii ((k + 1) : Int))]) rfl rfl rfl (ih179 (n - (k + 1)) (by omega) (k + 1) rfl (by omega))
                            · exact absurd hb11 (by rw [hc1]; decide)
                      refine pg_cast (h2 := rI pre post ((fillS (rowS s2 q b 5 ((n : Nat) : Int)) b 0 (fun k => vn (ch k) 0)).1) ((fillS (rowS s2 q b 5 ((n : Nat) : Int)) b 0 (fun k => vn (ch k) 0)).2.1) ((fillS (rowS s2 q b 5 ((n : Nat) : Int)) b 0 (fun k => vn (ch k) 0)).2.2.1) ((fillS (rowS s2 q b 5 ((n : Nat) : Int)) b 0 (fun k => vn (ch k) 0)).2.2.2)) (fill_0 (rowS s2 q b 5 ((n : Nat) : Int)) b (fun k => vn (ch k) 0)) ?_
                      exact pg_sub (L := [(0, .ref 102), (1, ii ((base : Nat) : Int)), (2, ii place), (3, ii ((n : Nat) : Int)), (4, zz c1), (5, zz c2), (6, ii (q : Int)), (7, ii (0 : Int))]) rfl rfl rfl (lp179 _ 0 rfl (Nat.zero_le _))
                  · exact absurd hb7 (by rw [hc2]; decide)
                · refine me1 (pc' := 142) (L' := [(0, .ref 102), (1, ii ((base : Nat) : Int)), (2, ii place), (3, ii ((n : Nat) : Int)), (4, zz c1), (5, zz c2), (6, ii (k : Int))]) (S' := [.ref 102]) dm_X12_gathered_141 rfl rfl rfl rfl ?_
                  refine me0 (pc' := 144) (S' := [ii 8, .ref 102]) dm_X12_gathered_142 rfl rfl rfl rfl ?_
                  refine me1 (pc' := 145) (L' := [(0, .ref 102), (1, ii ((base : Nat) : Int)), (2, ii place), (3, ii ((n : Nat) : Int)), (4, zz c1), (5, zz c2), (6, ii (k : Int))]) (S' := [ii place, ii 8, .ref 102]) dm_X12_gathered_144 rfl rfl rfl rfl ?_
                  refine x_cv (pc' := 148) (rest := []) dm_X12_gathered_145 rfl (q_inv (As := [ii 8, ii place]) (S := []) hm rfl rfl rfl) rfl rfl rfl (r_fail_ (s := s2) hm (by omega) heS hca2.1 hca2.2) ?_
                  rintro _ _ ⟨rfl, rfl⟩
                  refine y_ret (r := some (ii (-1))) dm_X12_gathered_148 rfl rfl rfl ?_
                  refine ⟨_, rfl, ?_⟩
                  have e9 : dGa (cpS s) W n ch place = dEr (cpS (gaB s base)) W 8 place := by unfold dGa; rw [gaV_n8 hn0 (cnB_n hN) (by omega), cpS_ga]
                  rw [e9]
                  exact dres_fl (cost := 0) (e := 8) hT (by omega) hnd
              · exact absurd hb5 (by rw [hc1]; decide)
            · refine me1 (pc' := 59) (L' := [(0, .ref 102), (1, ii ((base : Nat) : Int)), (2, ii place), (3, ii ((n : Nat) : Int)), (4, zz c1), (5, zz c2), (6, ii (k : Int))]) (S' := [zz c1]) dm_X12_gathered_57 rfl rfl rfl rfl ?_
              refine y_zeq (c := c1) (t := 82) (pc' := 62) dm_X12_gathered_59 rfl rfl (fun hb12 => ?_) (fun hb12 => ?_)
              · refine me0 (pc' := 83) (S' := [ii 0]) dm_X12_gathered_82 rfl rfl rfl rfl ?_
                refine me1 (pc' := 85) (L' := [(4, ii 0), (0, .ref 102), (1, ii ((base : Nat) : Int)), (2, ii place), (3, ii ((n : Nat) : Int)), (5, zz c2), (6, ii (k : Int))]) (S' := []) dm_X12_gathered_83 rfl rfl rfl rfl ?_
                refine me1 (pc' := 87) (L' := [(4, ii 0), (0, .ref 102), (1, ii ((base : Nat) : Int)), (2, ii place), (3, ii ((n : Nat) : Int)), (5, zz c2), (6, ii (k : Int))]) (S' := [zz c2]) dm_X12_gathered_85 rfl rfl rfl rfl ?_
                refine y_zeq (c := c2) (t := 111) (pc' := 90) dm_X12_gathered_87 rfl rfl (fun hb13 => ?_) (fun hb13 => ?_)
                · refine me0 (pc' := 112) (S' := [ii 0]) dm_X12_gathered_111 rfl rfl rfl rfl ?_
                  refine me1 (pc' := 114) (L' := [(5, ii 0), (4, ii 0), (0, .ref 102), (1, ii ((base : Nat) : Int)), (2, ii place), (3, ii ((n : Nat) : Int)), (6, ii (k : Int))]) (S' := []) dm_X12_gathered_112 rfl rfl rfl rfl ?_
                  refine y_iinc (pc' := 117) (L' := [(6, ii ((k : Int) + 1)), (5, ii 0), (4, ii 0), (0, .ref 102), (1, ii ((base : Nat) : Int)), (2, ii place), (3, ii ((n : Nat) : Int))]) dm_X12_gathered_114 (y_incp (a := (k : Int)) (c := 1) rfl rfl (by decide)) rfl ?_
                  refine me2 (pc' := 51) (S' := []) dm_X12_gathered_117 rfl rfl rfl ?_
                  exact pg_sub (L := [(0, .ref 102), (1, ii ((base : Nat) : Int)), (2, ii place), (3, ii ((n : Nat) : Int)), (4, zz false), (5, zz false), (6, ii ((k + 1) : Int))]) rfl rfl rfl (ih51 (n - (k + 1)) (by omega) (k + 1) false false rfl (by omega) (allN_sF (p := isNb ch) (Or.inl (by rw [← h1]; exact hb12))).symm (allN_sF (p := isSg ch) (Or.inl (by rw [← h2]; exact hb13))).symm)
                · refine me1 (pc' := 91) (L' := [(4, ii 0), (0, .ref 102), (1, ii ((base : Nat) : Int)), (2, ii place), (3, ii ((n : Nat) : Int)), (5, zz c2), (6, ii (k : Int))]) (S' := [.ref 102]) dm_X12_gathered_90 rfl rfl rfl rfl ?_
                  refine me1 (pc' := 92) (L' := [(4, ii 0), (0, .ref 102), (1, ii ((base : Nat) : Int)), (2, ii place), (3, ii ((n : Nat) : Int)), (5, zz c2), (6, ii (k : Int))]) (S' := [.ref 102, .ref 102]) dm_X12_gathered_91 rfl rfl rfl rfl ?_
                  refine me3 (pc' := 95) (S' := [.ref (102 + 4), .ref 102]) dm_X12_gathered_92 (q_getr hm rfl (fun m i l => rg_12 m i l)) rfl rfl rfl ?_
                  refine me1 (pc' := 96) (L' := [(4, ii 0), (0, .ref 102), (1, ii ((base : Nat) : Int)), (2, ii place), (3, ii ((n : Nat) : Int)), (5, zz c2), (6, ii (k : Int))]) (S' := [ii ((base : Nat) : Int), .ref (102 + 4), .ref 102]) dm_X12_gathered_95 rfl rfl rfl rfl ?_
                  refine me1 (pc' := 98) (L' := [(4, ii 0), (0, .ref 102), (1, ii ((base : Nat) : Int)), (2, ii place), (3, ii ((n : Nat) : Int)), (5, zz c2), (6, ii (k : Int))]) (S' := [ii (k : Int), ii ((base : Nat) : Int), .ref (102 + 4), .ref 102]) dm_X12_gathered_96 rfl rfl rfl rfl ?_
                  refine y_iadd (a := ((base : Nat) : Int)) (b := (k : Int)) dm_X12_gathered_98 (pc' := 99) rfl ?_
                  refine pg_st (S' := [ii ((base + k : Nat) : Int), .ref (102 + 4), .ref 102]) (congrArg (fun z => ii z :: [.ref (102 + 4), .ref 102]) (by omega)) ?_
                  refine me3 (pc' := 100) (S' := [ii ((s2.2.2.1 12) (base + k)), .ref 102]) dm_X12_gathered_99 (q_iald (v := (s2.2.2.1 12) (base + k)) (k := 12) (n := 8192) hm (fun m i l I J => rc_12 m i l I J) (by omega) (by omega) (by decide) rfl) rfl rfl rfl ?_
                  obtain ⟨p100, hp100, hpe100, hpv100⟩ := hch2 k (by omega)
                  have hpk100 := (rv_wf hpv100).1.1
                  refine pg_st (S' := [ii (p100 : Int), .ref 102]) (congrArg (fun z => ii z :: [.ref 102]) (hpe100)) ?_
                  refine x_cp (pc' := 103) (v := ii (vk (ch k) : Int)) (rest := []) dm_X12_gathered_100 rfl (q_inv (As := [ii (p100 : Int)]) (S := []) hm rfl rfl rfl) rfl rfl rfl (r_kindOf_ hm (by omega) hB2 hpv100) ?_
                  refine me0 (pc' := 104) (S' := [ii 1, ii (vk (ch k) : Int)]) dm_X12_gathered_103 rfl rfl rfl rfl ?_
                  refine y_2ne (a := (vk (ch k) : Int)) (b := 1) (t := 111) (pc' := 107) dm_X12_gathered_104 rfl rfl (by omega) (fun hb14 => ?_) (fun hb14 => ?_)
                  · refine me0 (pc' := 112) (S' := [ii 0]) dm_X12_gathered_111 rfl rfl rfl rfl ?_
                    refine me1 (pc' := 114) (L' := [(5, ii 0), (4, ii 0), (0, .ref 102), (1, ii ((base : Nat) : Int)), (2, ii place), (3, ii ((n : Nat) : Int)), (6, ii (k : Int))]) (S' := []) dm_X12_gathered_112 rfl rfl rfl rfl ?_
                    refine y_iinc (pc' := 117) (L' := [(6, ii ((k : Int) + 1)), (5, ii 0), (4, ii 0), (0, .ref 102), (1, ii ((base : Nat) : Int)), (2, ii place), (3, ii ((n : Nat) : Int))]) dm_X12_gathered_114 (y_incp (a := (k : Int)) (c := 1) rfl rfl (by decide)) rfl ?_
                    refine me2 (pc' := 51) (S' := []) dm_X12_gathered_117 rfl rfl rfl ?_
                    exact pg_sub (L := [(0, .ref 102), (1, ii ((base : Nat) : Int)), (2, ii place), (3, ii ((n : Nat) : Int)), (4, zz false), (5, zz false), (6, ii ((k + 1) : Int))]) rfl rfl rfl (ih51 (n - (k + 1)) (by omega) (k + 1) false false rfl (by omega) (allN_sF (p := isNb ch) (Or.inl (by rw [← h1]; exact hb12))).symm (allN_sF (p := isSg ch) (Or.inr (decide_eq_false (by omega)))).symm)
                  · refine me0 (pc' := 108) (S' := [ii 1]) dm_X12_gathered_107 rfl rfl rfl rfl ?_
                    refine me2 (pc' := 112) (S' := [ii 1]) dm_X12_gathered_108 rfl rfl rfl ?_
                    refine me1 (pc' := 114) (L' := [(5, ii 1), (4, ii 0), (0, .ref 102), (1, ii ((base : Nat) : Int)), (2, ii place), (3, ii ((n : Nat) : Int)), (6, ii (k : Int))]) (S' := []) dm_X12_gathered_112 rfl rfl rfl rfl ?_
                    refine y_iinc (pc' := 117) (L' := [(6, ii ((k : Int) + 1)), (5, ii 1), (4, ii 0), (0, .ref 102), (1, ii ((base : Nat) : Int)), (2, ii place), (3, ii ((n : Nat) : Int))]) dm_X12_gathered_114 (y_incp (a := (k : Int)) (c := 1) rfl rfl (by decide)) rfl ?_
                    refine me2 (pc' := 51) (S' := []) dm_X12_gathered_117 rfl rfl rfl ?_
                    exact pg_sub (L := [(0, .ref 102), (1, ii ((base : Nat) : Int)), (2, ii place), (3, ii ((n : Nat) : Int)), (4, zz false), (5, zz true), (6, ii ((k + 1) : Int))]) rfl rfl rfl (ih51 (n - (k + 1)) (by omega) (k + 1) false true rfl (by omega) (allN_sF (p := isNb ch) (Or.inl (by rw [← h1]; exact hb12))).symm (allN_sT (p := isSg ch) (by rw [← h2]; exact hb13) (decide_eq_true (by omega))).symm)
              · refine me1 (pc' := 63) (L' := [(0, .ref 102), (1, ii ((base : Nat) : Int)), (2, ii place), (3, ii ((n : Nat) : Int)), (4, zz c1), (5, zz c2), (6, ii (k : Int))]) (S' := [.ref 102]) dm_X12_gathered_62 rfl rfl rfl rfl ?_
                refine me1 (pc' := 64) (L' := [(0, .ref 102), (1, ii ((base : Nat) : Int)), (2, ii place), (3, ii ((n : Nat) : Int)), (4, zz c1), (5, zz c2), (6, ii (k : Int))]) (S' := [.ref 102, .ref 102]) dm_X12_gathered_63 rfl rfl rfl rfl ?_
                refine me3 (pc' := 67) (S' := [.ref (102 + 4), .ref 102]) dm_X12_gathered_64 (q_getr hm rfl (fun m i l => rg_12 m i l)) rfl rfl rfl ?_
                refine me1 (pc' := 68) (L' := [(0, .ref 102), (1, ii ((base : Nat) : Int)), (2, ii place), (3, ii ((n : Nat) : Int)), (4, zz c1), (5, zz c2), (6, ii (k : Int))]) (S' := [ii ((base : Nat) : Int), .ref (102 + 4), .ref 102]) dm_X12_gathered_67 rfl rfl rfl rfl ?_
                refine me1 (pc' := 70) (L' := [(0, .ref 102), (1, ii ((base : Nat) : Int)), (2, ii place), (3, ii ((n : Nat) : Int)), (4, zz c1), (5, zz c2), (6, ii (k : Int))]) (S' := [ii (k : Int), ii ((base : Nat) : Int), .ref (102 + 4), .ref 102]) dm_X12_gathered_68 rfl rfl rfl rfl ?_
                refine y_iadd (a := ((base : Nat) : Int)) (b := (k : Int)) dm_X12_gathered_70 (pc' := 71) rfl ?_
                refine pg_st (S' := [ii ((base + k : Nat) : Int), .ref (102 + 4), .ref 102]) (congrArg (fun z => ii z :: [.ref (102 + 4), .ref 102]) (by omega)) ?_
                refine me3 (pc' := 72) (S' := [ii ((s2.2.2.1 12) (base + k)), .ref 102]) dm_X12_gathered_71 (q_iald (v := (s2.2.2.1 12) (base + k)) (k := 12) (n := 8192) hm (fun m i l I J => rc_12 m i l I J) (by omega) (by omega) (by decide) rfl) rfl rfl rfl ?_
                obtain ⟨p72, hp72, hpe72, hpv72⟩ := hch2 k (by omega)
                have hpk72 := (rv_wf hpv72).1.1
                refine pg_st (S' := [ii (p72 : Int), .ref 102]) (congrArg (fun z => ii z :: [.ref 102]) (hpe72)) ?_
                refine x_cp (pc' := 75) (v := ii (vk (ch k) : Int)) (rest := []) dm_X12_gathered_72 rfl (q_inv (As := [ii (p72 : Int)]) (S := []) hm rfl rfl rfl) rfl rfl rfl (r_kindOf_ hm (by omega) hB2 hpv72) ?_
                refine y_1ne (a := (vk (ch k) : Int)) (t := 82) (pc' := 78) dm_X12_gathered_75 rfl rfl (by omega) (fun hb15 => ?_) (fun hb15 => ?_)
                · refine me0 (pc' := 83) (S' := [ii 0]) dm_X12_gathered_82 rfl rfl rfl rfl ?_
                  refine me1 (pc' := 85) (L' := [(4, ii 0), (0, .ref 102), (1, ii ((base : Nat) : Int)), (2, ii place), (3, ii ((n : Nat) : Int)), (5, zz c2), (6, ii (k : Int))]) (S' := []) dm_X12_gathered_83 rfl rfl rfl rfl ?_
                  refine me1 (pc' := 87) (L' := [(4, ii 0), (0, .ref 102), (1, ii ((base : Nat) : Int)), (2, ii place), (3, ii ((n : Nat) : Int)), (5, zz c2), (6, ii (k : Int))]) (S' := [zz c2]) dm_X12_gathered_85 rfl rfl rfl rfl ?_
                  refine y_zeq (c := c2) (t := 111) (pc' := 90) dm_X12_gathered_87 rfl rfl (fun hb16 => ?_) (fun hb16 => ?_)
                  · refine me0 (pc' := 112) (S' := [ii 0]) dm_X12_gathered_111 rfl rfl rfl rfl ?_
                    refine me1 (pc' := 114) (L' := [(5, ii 0), (4, ii 0), (0, .ref 102), (1, ii ((base : Nat) : Int)), (2, ii place), (3, ii ((n : Nat) : Int)), (6, ii (k : Int))]) (S' := []) dm_X12_gathered_112 rfl rfl rfl rfl ?_
                    refine y_iinc (pc' := 117) (L' := [(6, ii ((k : Int) + 1)), (5, ii 0), (4, ii 0), (0, .ref 102), (1, ii ((base : Nat) : Int)), (2, ii place), (3, ii ((n : Nat) : Int))]) dm_X12_gathered_114 (y_incp (a := (k : Int)) (c := 1) rfl rfl (by decide)) rfl ?_
                    refine me2 (pc' := 51) (S' := []) dm_X12_gathered_117 rfl rfl rfl ?_
                    exact pg_sub (L := [(0, .ref 102), (1, ii ((base : Nat) : Int)), (2, ii place), (3, ii ((n : Nat) : Int)), (4, zz false), (5, zz false), (6, ii ((k + 1) : Int))]) rfl rfl rfl (ih51 (n - (k + 1)) (by omega) (k + 1) false false rfl (by omega) (allN_sF (p := isNb ch) (Or.inr (decide_eq_false (by omega)))).symm (allN_sF (p := isSg ch) (Or.inl (by rw [← h2]; exact hb16))).symm)
                  · refine me1 (pc' := 91) (L' := [(4, ii 0), (0, .ref 102), (1, ii ((base : Nat) : Int)), (2, ii place), (3, ii ((n : Nat) : Int)), (5, zz c2), (6, ii (k : Int))]) (S' := [.ref 102]) dm_X12_gathered_90 rfl rfl rfl rfl ?_
                    refine me1 (pc' := 92) (L' := [(4, ii 0), (0, .ref 102), (1, ii ((base : Nat) : Int)), (2, ii place), (3, ii ((n : Nat) : Int)), (5, zz c2), (6, ii (k : Int))]) (S' := [.ref 102, .ref 102]) dm_X12_gathered_91 rfl rfl rfl rfl ?_
                    refine me3 (pc' := 95) (S' := [.ref (102 + 4), .ref 102]) dm_X12_gathered_92 (q_getr hm rfl (fun m i l => rg_12 m i l)) rfl rfl rfl ?_
                    refine me1 (pc' := 96) (L' := [(4, ii 0), (0, .ref 102), (1, ii ((base : Nat) : Int)), (2, ii place), (3, ii ((n : Nat) : Int)), (5, zz c2), (6, ii (k : Int))]) (S' := [ii ((base : Nat) : Int), .ref (102 + 4), .ref 102]) dm_X12_gathered_95 rfl rfl rfl rfl ?_
                    refine me1 (pc' := 98) (L' := [(4, ii 0), (0, .ref 102), (1, ii ((base : Nat) : Int)), (2, ii place), (3, ii ((n : Nat) : Int)), (5, zz c2), (6, ii (k : Int))]) (S' := [ii (k : Int), ii ((base : Nat) : Int), .ref (102 + 4), .ref 102]) dm_X12_gathered_96 rfl rfl rfl rfl ?_
                    refine y_iadd (a := ((base : Nat) : Int)) (b := (k : Int)) dm_X12_gathered_98 (pc' := 99) rfl ?_
                    refine pg_st (S' := [ii ((base + k : Nat) : Int), .ref (102 + 4), .ref 102]) (congrArg (fun z => ii z :: [.ref (102 + 4), .ref 102]) (by omega)) ?_
                    refine me3 (pc' := 100) (S' := [ii ((s2.2.2.1 12) (base + k)), .ref 102]) dm_X12_gathered_99 (q_iald (v := (s2.2.2.1 12) (base + k)) (k := 12) (n := 8192) hm (fun m i l I J => rc_12 m i l I J) (by omega) (by omega) (by decide) rfl) rfl rfl rfl ?_
                    obtain ⟨p100, hp100, hpe100, hpv100⟩ := hch2 k (by omega)
                    have hpk100 := (rv_wf hpv100).1.1
                    refine pg_st (S' := [ii (p100 : Int), .ref 102]) (congrArg (fun z => ii z :: [.ref 102]) (hpe100)) ?_
                    refine x_cp (pc' := 103) (v := ii (vk (ch k) : Int)) (rest := []) dm_X12_gathered_100 rfl (q_inv (As := [ii (p100 : Int)]) (S := []) hm rfl rfl rfl) rfl rfl rfl (r_kindOf_ hm (by omega) hB2 hpv100) ?_
                    refine me0 (pc' := 104) (S' := [ii 1, ii (vk (ch k) : Int)]) dm_X12_gathered_103 rfl rfl rfl rfl ?_
                    refine y_2ne (a := (vk (ch k) : Int)) (b := 1) (t := 111) (pc' := 107) dm_X12_gathered_104 rfl rfl (by omega) (fun hb17 => ?_) (fun hb17 => ?_)
                    · refine me0 (pc' := 112) (S' := [ii 0]) dm_X12_gathered_111 rfl rfl rfl rfl ?_
                      refine me1 (pc' := 114) (L' := [(5, ii 0), (4, ii 0), (0, .ref 102), (1, ii ((base : Nat) : Int)), (2, ii place), (3, ii ((n : Nat) : Int)), (6, ii (k : Int))]) (S' := []) dm_X12_gathered_112 rfl rfl rfl rfl ?_
                      refine y_iinc (pc' := 117) (L' := [(6, ii ((k : Int) + 1)), (5, ii 0), (4, ii 0), (0, .ref 102), (1, ii ((base : Nat) : Int)), (2, ii place), (3, ii ((n : Nat) : Int))]) dm_X12_gathered_114 (y_incp (a := (k : Int)) (c := 1) rfl rfl (by decide)) rfl ?_
                      refine me2 (pc' := 51) (S' := []) dm_X12_gathered_117 rfl rfl rfl ?_
                      exact pg_sub (L := [(0, .ref 102), (1, ii ((base : Nat) : Int)), (2, ii place), (3, ii ((n : Nat) : Int)), (4, zz false), (5, zz false), (6, ii ((k + 1) : Int))]) rfl rfl rfl (ih51 (n - (k + 1)) (by omega) (k + 1) false false rfl (by omega) (allN_sF (p := isNb ch) (Or.inr (decide_eq_false (by omega)))).symm (allN_sF (p := isSg ch) (Or.inr (decide_eq_false (by omega)))).symm)
                    · refine me0 (pc' := 108) (S' := [ii 1]) dm_X12_gathered_107 rfl rfl rfl rfl ?_
                      refine me2 (pc' := 112) (S' := [ii 1]) dm_X12_gathered_108 rfl rfl rfl ?_
                      refine me1 (pc' := 114) (L' := [(5, ii 1), (4, ii 0), (0, .ref 102), (1, ii ((base : Nat) : Int)), (2, ii place), (3, ii ((n : Nat) : Int)), (6, ii (k : Int))]) (S' := []) dm_X12_gathered_112 rfl rfl rfl rfl ?_
                      refine y_iinc (pc' := 117) (L' := [(6, ii ((k : Int) + 1)), (5, ii 1), (4, ii 0), (0, .ref 102), (1, ii ((base : Nat) : Int)), (2, ii place), (3, ii ((n : Nat) : Int))]) dm_X12_gathered_114 (y_incp (a := (k : Int)) (c := 1) rfl rfl (by decide)) rfl ?_
                      refine me2 (pc' := 51) (S' := []) dm_X12_gathered_117 rfl rfl rfl ?_
                      exact pg_sub (L := [(0, .ref 102), (1, ii ((base : Nat) : Int)), (2, ii place), (3, ii ((n : Nat) : Int)), (4, zz false), (5, zz true), (6, ii ((k + 1) : Int))]) rfl rfl rfl (ih51 (n - (k + 1)) (by omega) (k + 1) false true rfl (by omega) (allN_sF (p := isNb ch) (Or.inr (decide_eq_false (by omega)))).symm (allN_sT (p := isSg ch) (by rw [← h2]; exact hb16) (decide_eq_true (by omega))).symm)
                · refine me0 (pc' := 79) (S' := [ii 1]) dm_X12_gathered_78 rfl rfl rfl rfl ?_
                  refine me2 (pc' := 83) (S' := [ii 1]) dm_X12_gathered_79 rfl rfl rfl ?_
                  refine me1 (pc' := 85) (L' := [(4, ii 1), (0, .ref 102), (1, ii ((base : Nat) : Int)), (2, ii place), (3, ii ((n : Nat) : Int)), (5, zz c2), (6, ii (k : Int))]) (S' := []) dm_X12_gathered_83 rfl rfl rfl rfl ?_
                  refine me1 (pc' := 87) (L' := [(4, ii 1), (0, .ref 102), (1, ii ((base : Nat) : Int)), (2, ii place), (3, ii ((n : Nat) : Int)), (5, zz c2), (6, ii (k : Int))]) (S' := [zz c2]) dm_X12_gathered_85 rfl rfl rfl rfl ?_
                  refine y_zeq (c := c2) (t := 111) (pc' := 90) dm_X12_gathered_87 rfl rfl (fun hb18 => ?_) (fun hb18 => ?_)
                  · refine me0 (pc' := 112) (S' := [ii 0]) dm_X12_gathered_111 rfl rfl rfl rfl ?_
                    refine me1 (pc' := 114) (L' := [(5, ii 0), (4, ii 1), (0, .ref 102), (1, ii ((base : Nat) : Int)), (2, ii place), (3, ii ((n : Nat) : Int)), (6, ii (k : Int))]) (S' := []) dm_X12_gathered_112 rfl rfl rfl rfl ?_
                    refine y_iinc (pc' := 117) (L' := [(6, ii ((k : Int) + 1)), (5, ii 0), (4, ii 1), (0, .ref 102), (1, ii ((base : Nat) : Int)), (2, ii place), (3, ii ((n : Nat) : Int))]) dm_X12_gathered_114 (y_incp (a := (k : Int)) (c := 1) rfl rfl (by decide)) rfl ?_
                    refine me2 (pc' := 51) (S' := []) dm_X12_gathered_117 rfl rfl rfl ?_
                    exact pg_sub (L := [(0, .ref 102), (1, ii ((base : Nat) : Int)), (2, ii place), (3, ii ((n : Nat) : Int)), (4, zz true), (5, zz false), (6, ii ((k + 1) : Int))]) rfl rfl rfl (ih51 (n - (k + 1)) (by omega) (k + 1) true false rfl (by omega) (allN_sT (p := isNb ch) (by rw [← h1]; exact hb12) (decide_eq_true (by omega))).symm (allN_sF (p := isSg ch) (Or.inl (by rw [← h2]; exact hb18))).symm)
                  · refine me1 (pc' := 91) (L' := [(4, ii 1), (0, .ref 102), (1, ii ((base : Nat) : Int)), (2, ii place), (3, ii ((n : Nat) : Int)), (5, zz c2), (6, ii (k : Int))]) (S' := [.ref 102]) dm_X12_gathered_90 rfl rfl rfl rfl ?_
                    refine me1 (pc' := 92) (L' := [(4, ii 1), (0, .ref 102), (1, ii ((base : Nat) : Int)), (2, ii place), (3, ii ((n : Nat) : Int)), (5, zz c2), (6, ii (k : Int))]) (S' := [.ref 102, .ref 102]) dm_X12_gathered_91 rfl rfl rfl rfl ?_
                    refine me3 (pc' := 95) (S' := [.ref (102 + 4), .ref 102]) dm_X12_gathered_92 (q_getr hm rfl (fun m i l => rg_12 m i l)) rfl rfl rfl ?_
                    refine me1 (pc' := 96) (L' := [(4, ii 1), (0, .ref 102), (1, ii ((base : Nat) : Int)), (2, ii place), (3, ii ((n : Nat) : Int)), (5, zz c2), (6, ii (k : Int))]) (S' := [ii ((base : Nat) : Int), .ref (102 + 4), .ref 102]) dm_X12_gathered_95 rfl rfl rfl rfl ?_
                    refine me1 (pc' := 98) (L' := [(4, ii 1), (0, .ref 102), (1, ii ((base : Nat) : Int)), (2, ii place), (3, ii ((n : Nat) : Int)), (5, zz c2), (6, ii (k : Int))]) (S' := [ii (k : Int), ii ((base : Nat) : Int), .ref (102 + 4), .ref 102]) dm_X12_gathered_96 rfl rfl rfl rfl ?_
                    refine y_iadd (a := ((base : Nat) : Int)) (b := (k : Int)) dm_X12_gathered_98 (pc' := 99) rfl ?_
                    refine pg_st (S' := [ii ((base + k : Nat) : Int), .ref (102 + 4), .ref 102]) (congrArg (fun z => ii z :: [.ref (102 + 4), .ref 102]) (by omega)) ?_
                    refine me3 (pc' := 100) (S' := [ii ((s2.2.2.1 12) (base + k)), .ref 102]) dm_X12_gathered_99 (q_iald (v := (s2.2.2.1 12) (base + k)) (k := 12) (n := 8192) hm (fun m i l I J => rc_12 m i l I J) (by omega) (by omega) (by decide) rfl) rfl rfl rfl ?_
                    obtain ⟨p100, hp100, hpe100, hpv100⟩ := hch2 k (by omega)
                    have hpk100 := (rv_wf hpv100).1.1
                    refine pg_st (S' := [ii (p100 : Int), .ref 102]) (congrArg (fun z => ii z :: [.ref 102]) (hpe100)) ?_
                    refine x_cp (pc' := 103) (v := ii (vk (ch k) : Int)) (rest := []) dm_X12_gathered_100 rfl (q_inv (As := [ii (p100 : Int)]) (S := []) hm rfl rfl rfl) rfl rfl rfl (r_kindOf_ hm (by omega) hB2 hpv100) ?_
                    refine me0 (pc' := 104) (S' := [ii 1, ii (vk (ch k) : Int)]) dm_X12_gathered_103 rfl rfl rfl rfl ?_
                    refine y_2ne (a := (vk (ch k) : Int)) (b := 1) (t := 111) (pc' := 107) dm_X12_gathered_104 rfl rfl (by omega) (fun hb19 => ?_) (fun hb19 => ?_)
                    · refine me0 (pc' := 112) (S' := [ii 0]) dm_X12_gathered_111 rfl rfl rfl rfl ?_
                      refine me1 (pc' := 114) (L' := [(5, ii 0), (4, ii 1), (0, .ref 102), (1, ii ((base : Nat) : Int)), (2, ii place), (3, ii ((n : Nat) : Int)), (6, ii (k : Int))]) (S' := []) dm_X12_gathered_112 rfl rfl rfl rfl ?_
                      refine y_iinc (pc' := 117) (L' := [(6, ii ((k : Int) + 1)), (5, ii 0), (4, ii 1), (0, .ref 102), (1, ii ((base : Nat) : Int)), (2, ii place), (3, ii ((n : Nat) : Int))]) dm_X12_gathered_114 (y_incp (a := (k : Int)) (c := 1) rfl rfl (by decide)) rfl ?_
                      refine me2 (pc' := 51) (S' := []) dm_X12_gathered_117 rfl rfl rfl ?_
                      exact pg_sub (L := [(0, .ref 102), (1, ii ((base : Nat) : Int)), (2, ii place), (3, ii ((n : Nat) : Int)), (4, zz true), (5, zz false), (6, ii ((k + 1) : Int))]) rfl rfl rfl (ih51 (n - (k + 1)) (by omega) (k + 1) true false rfl (by omega) (allN_sT (p := isNb ch) (by rw [← h1]; exact hb12) (decide_eq_true (by omega))).symm (allN_sF (p := isSg ch) (Or.inr (decide_eq_false (by omega)))).symm)
                    · refine me0 (pc' := 108) (S' := [ii 1]) dm_X12_gathered_107 rfl rfl rfl rfl ?_
                      refine me2 (pc' := 112) (S' := [ii 1]) dm_X12_gathered_108 rfl rfl rfl ?_
                      refine me1 (pc' := 114) (L' := [(5, ii 1), (4, ii 1), (0, .ref 102), (1, ii ((base : Nat) : Int)), (2, ii place), (3, ii ((n : Nat) : Int)), (6, ii (k : Int))]) (S' := []) dm_X12_gathered_112 rfl rfl rfl rfl ?_
                      refine y_iinc (pc' := 117) (L' := [(6, ii ((k : Int) + 1)), (5, ii 1), (4, ii 1), (0, .ref 102), (1, ii ((base : Nat) : Int)), (2, ii place), (3, ii ((n : Nat) : Int))]) dm_X12_gathered_114 (y_incp (a := (k : Int)) (c := 1) rfl rfl (by decide)) rfl ?_
                      refine me2 (pc' := 51) (S' := []) dm_X12_gathered_117 rfl rfl rfl ?_
                      exact pg_sub (L := [(0, .ref 102), (1, ii ((base : Nat) : Int)), (2, ii place), (3, ii ((n : Nat) : Int)), (4, zz true), (5, zz true), (6, ii ((k + 1) : Int))]) rfl rfl rfl (ih51 (n - (k + 1)) (by omega) (k + 1) true true rfl (by omega) (allN_sT (p := isNb ch) (by rw [← h1]; exact hb12) (decide_eq_true (by omega))).symm (allN_sT (p := isSg ch) (by rw [← h2]; exact hb18) (decide_eq_true (by omega))).symm)
        exact pg_sub (L := [(0, .ref 102), (1, ii ((base : Nat) : Int)), (2, ii place), (3, ii ((n : Nat) : Int)), (4, zz true), (5, zz true), (6, ii (0 : Int))]) rfl rfl rfl (lp51 _ 0 true true rfl (Nat.zero_le _) rfl rfl)
  · exfalso; omega
theorem dm_X12_gathered_126 : mj_dec prog_14_method_28_code 126 = some (.iload 5, 2) := by decide +kernel
theorem dm_X12_gathered_128 : mj_dec prog_14_method_28_code 128 = some (.ifCond .eq 8, 3) := by decide +kernel
theorem dm_X12_gathered_155 : mj_dec prog_14_method_28_code 155 = some (.iconst 3, 1) := by decide +kernel
theorem dm_X12_gathered_156 : mj_dec prog_14_method_28_code 156 = some (.goto 14, 3) := by decide +kernel
theorem dm_X12_gathered_204 : mj_dec prog_14_method_28_code 204 = some (.iload 5, 2) := by decide +kernel
theorem dm_X12_gathered_206 : mj_dec prog_14_method_28_code 206 = some (.ifCond .eq 20, 3) := by decide +kernel
theorem dm_X12_gathered_258 : mj_dec prog_14_method_28_code 258 = some (.iload 6, 2) := by decide +kernel
theorem r_gathS {xt : mj_X} {d q b n base W : Nat} {pre post : mj_H} {s : RS} {place nd : Int} {ch : Nat → VV} (hm : pre.length = 102) (hd1 : 42 ≤ d) (hB : rB s) (hq : s.1 4 = (q : Int)) (hb : s.1 3 = (b : Int)) (hq3 : 3 ≤ q) (hV2 : q + 10 < 310000) (hca : 0 ≤ s.1 10 ∧ s.1 10 ≤ 100) (hC : b + 300 ≤ 820000) (hw13 : s.1 13 = ((base + n : Nat) : Int)) (hbn : base + n ≤ 8192) (he0 : s.1 5 = 0) (h8 : s.1 8 = (W : Int)) (hW : W ≤ 500000) (hnd : 0 ≤ nd) (hch : ∀ k, k < n → ∃ p : Nat, 3 ≤ p ∧ s.2.2.1 12 (base + k) = (p : Int) ∧ rv s 7 p (ch k)) (hS1 : ∀ k, k < n → vsz 7 (ch k) ≤ 1000) (hn : n ≤ 300) (hn0 : 0 < n) (hN : allN n (isNb ch) = false) (hS : allN n (isSg ch) = true) (hkd : ∀ k, k < n → vk (ch k) = 1) : pgV xt d 244 [.ref 102, ii ((base : Nat) : Int), ii place] (rS pre post s) (dres pre post (gaB s base) W (7 + 3 * (n : Int)) nd (dGa (cpS s) W n ch place)) := by
  have hB0 := hB
  obtain ⟨hB1, hB2_, hB3, hB4⟩ := hB
  have hBg : rB (gaB s base) := by unfold rB; rw [gaB_k (by decide), gaB_k (by decide)]; exact hB0
  refine x_enter pm_X12_gathered (L0 := [(0, .ref 102), (1, ii ((base : Nat) : Int)), (2, ii place)]) rfl (Nat.le_of_ble_eq_true rfl) (by omega) ?_
  refine me1 (pc' := 1) (L' := [(0, .ref 102), (1, ii ((base : Nat) : Int)), (2, ii place)]) (S' := [.ref 102]) dm_X12_gathered_0 rfl rfl rfl rfl ?_
  refine me3 (pc' := 4) (S' := [ii (s.1 13)]) dm_X12_gathered_1 (q_geti (v := s.1 13) hm rfl (fun m i l => rg_13 m i l) rfl) rfl rfl rfl ?_
  refine me1 (pc' := 5) (L' := [(0, .ref 102), (1, ii ((base : Nat) : Int)), (2, ii place)]) (S' := [ii ((base : Nat) : Int), ii (s.1 13)]) dm_X12_gathered_4 rfl rfl rfl rfl ?_
  refine y_isub (a := s.1 13) (b := ((base : Nat) : Int)) dm_X12_gathered_5 (pc' := 6) rfl ?_
  refine pg_st (S' := [ii ((n : Nat) : Int)]) (congrArg (fun z => ii z :: []) (by rw [hw13]; omega)) ?_
  refine me1 (pc' := 7) (L' := [(3, ii ((n : Nat) : Int)), (0, .ref 102), (1, ii ((base : Nat) : Int)), (2, ii place)]) (S' := []) dm_X12_gathered_6 rfl rfl rfl rfl ?_
  refine me1 (pc' := 8) (L' := [(3, ii ((n : Nat) : Int)), (0, .ref 102), (1, ii ((base : Nat) : Int)), (2, ii place)]) (S' := [.ref 102]) dm_X12_gathered_7 rfl rfl rfl rfl ?_
  refine me1 (pc' := 9) (L' := [(3, ii ((n : Nat) : Int)), (0, .ref 102), (1, ii ((base : Nat) : Int)), (2, ii place)]) (S' := [ii ((base : Nat) : Int), .ref 102]) dm_X12_gathered_8 rfl rfl rfl rfl ?_
  refine me3 (pc' := 12) (S' := []) (h1 := rI pre post (va_up s.1 13 ((base : Nat) : Int)) s.2.1 s.2.2.1 s.2.2.2) dm_X12_gathered_9 (q_puti hm rfl rfl (fun m i l v => rf_13 m i l v)) rfl rfl rfl ?_
  refine me1 (pc' := 13) (L' := [(3, ii ((n : Nat) : Int)), (0, .ref 102), (1, ii ((base : Nat) : Int)), (2, ii place)]) (S' := [.ref 102]) dm_X12_gathered_12 rfl rfl rfl rfl ?_
  refine me0 (pc' := 14) (S' := [ii 3, .ref 102]) dm_X12_gathered_13 rfl rfl rfl rfl ?_
  refine me3 (pc' := 17) (S' := []) (h1 := rI pre post (va_up (va_up s.1 13 ((base : Nat) : Int)) 9 3) s.2.1 s.2.2.1 s.2.2.2) dm_X12_gathered_14 (q_puti hm rfl rfl (fun m i l v => rf_9 m i l v)) rfl rfl rfl ?_
  obtain ⟨s2, hs2⟩ : ∃ s2 : RS, s2 = (va_up (va_up s.1 13 ((base : Nat) : Int)) 9 3, s.2.1, s.2.2.1, s.2.2.2) := ⟨_, rfl⟩
  have hT := ga_tkd (W := W) hs2 he0 h8
  have hk2 : ∀ k, k ≠ 13 → k ≠ 9 → s2.1 k = s.1 k := fun k a c => by rw [hs2]; show va_up (va_up s.1 13 ((base : Nat) : Int)) 9 3 k = _; rw [up_ne _ _ c, up_ne _ _ a]
  have hqS : s2.1 4 = (q : Int) := (hk2 4 (by decide) (by decide)).trans hq
  have hbS : s2.1 3 = (b : Int) := (hk2 3 (by decide) (by decide)).trans hb
  have heS : s2.1 5 = 0 := (hk2 5 (by decide) (by decide)).trans he0
  have hca2 : 0 ≤ s2.1 10 ∧ s2.1 10 ≤ 100 := by rw [hk2 10 (by decide) (by decide)]; exact hca
  have hx2 : rext s s2 := ⟨by omega, by omega, fun _ _ _ => by rw [hs2]; exact ⟨rfl, rfl⟩, fun _ _ => by rw [hs2]⟩
  have hB2 : rB s2 := ⟨by omega, by omega, by omega, by omega⟩
  have hch2 : ∀ k, k < n → ∃ p : Nat, 3 ≤ p ∧ s2.2.2.1 12 (base + k) = (p : Int) ∧ rv s2 7 p (ch k) := fun k hk => by obtain ⟨p, p1, p2, p3⟩ := hch k hk; exact ⟨p, p1, by rw [hs2]; exact p2, rv_ext hx2 p1 p3⟩
  refine pg_cast (h2 := rI pre post s2.1 s2.2.1 s2.2.2.1 s2.2.2.2) (by rw [hs2]) ?_
  refine me1 (pc' := 18) (L' := [(3, ii ((n : Nat) : Int)), (0, .ref 102), (1, ii ((base : Nat) : Int)), (2, ii place)]) (S' := [.ref 102]) dm_X12_gathered_17 rfl rfl rfl rfl ?_
  refine me3 (pc' := 21) (S' := [ii (s2.1 5)]) dm_X12_gathered_18 (q_geti (v := s2.1 5) hm rfl (fun m i l => rg_5 m i l) rfl) rfl rfl rfl ?_
  refine y_1le (a := s2.1 5) (t := 26) (pc' := 24) dm_X12_gathered_21 rfl rfl (by omega) (fun hb1 => ?_) (fun hb1 => ?_)
  · refine me1 (pc' := 27) (L' := [(3, ii ((n : Nat) : Int)), (0, .ref 102), (1, ii ((base : Nat) : Int)), (2, ii place)]) (S' := [ii ((n : Nat) : Int)]) dm_X12_gathered_26 rfl rfl rfl rfl ?_
    refine y_1le (a := ((n : Nat) : Int)) (t := 34) (pc' := 30) dm_X12_gathered_27 rfl rfl (by omega) (fun hb2 => ?_) (fun hb2 => ?_)
    · exfalso; omega
    · refine me0 (pc' := 31) (S' := [ii 1]) dm_X12_gathered_30 rfl rfl rfl rfl ?_
      refine me2 (pc' := 35) (S' := [ii 1]) dm_X12_gathered_31 rfl rfl rfl ?_
      refine me1 (pc' := 37) (L' := [(4, ii 1), (3, ii ((n : Nat) : Int)), (0, .ref 102), (1, ii ((base : Nat) : Int)), (2, ii place)]) (S' := []) dm_X12_gathered_35 rfl rfl rfl rfl ?_
      refine me1 (pc' := 38) (L' := [(4, ii 1), (3, ii ((n : Nat) : Int)), (0, .ref 102), (1, ii ((base : Nat) : Int)), (2, ii place)]) (S' := [ii ((n : Nat) : Int)]) dm_X12_gathered_37 rfl rfl rfl rfl ?_
      refine y_1le (a := ((n : Nat) : Int)) (t := 45) (pc' := 41) dm_X12_gathered_38 rfl rfl (by omega) (fun hb3 => ?_) (fun hb3 => ?_)
      · exfalso; omega
      · refine me0 (pc' := 42) (S' := [ii 1]) dm_X12_gathered_41 rfl rfl rfl rfl ?_
        refine me2 (pc' := 46) (S' := [ii 1]) dm_X12_gathered_42 rfl rfl rfl ?_
        refine me1 (pc' := 48) (L' := [(5, ii 1), (4, ii 1), (3, ii ((n : Nat) : Int)), (0, .ref 102), (1, ii ((base : Nat) : Int)), (2, ii place)]) (S' := []) dm_X12_gathered_46 rfl rfl rfl rfl ?_
        refine me0 (pc' := 49) (S' := [ii 0]) dm_X12_gathered_48 rfl rfl rfl rfl ?_
        refine me1 (pc' := 51) (L' := [(6, ii 0), (5, ii 1), (4, ii 1), (3, ii ((n : Nat) : Int)), (0, .ref 102), (1, ii ((base : Nat) : Int)), (2, ii place)]) (S' := []) dm_X12_gathered_49 rfl rfl rfl rfl ?_
        have lp51 : ∀ (n51 : Nat) (k : Nat) (c1 : Bool) (c2 : Bool), n - k = n51 → (k ≤ n) → (c1 = allN k (isNb ch)) → (c2 = allN k (isSg ch)) → pgE xt (d - 1) 12 8 false (Option.some Jvm.ClassFile.FieldType.int) (mj_dec prog_14_method_28_code) 51 [(0, .ref 102), (1, ii ((base : Nat) : Int)), (2, ii place), (3, ii ((n : Nat) : Int)), (4, zz c1), (5, zz c2), (6, ii (k : Int))] [] (rI pre post s2.1 s2.2.1 s2.2.2.1 s2.2.2.2) (fun r h' => ∃ x, r = some x ∧ dres pre post (gaB s base) W (7 + 3 * (n : Int)) nd (dGa (cpS s) W n ch place) x h') := by
          intro n51
          induction n51 using Nat.strongRecOn with
          | ind n51 ih51 =>
            intro k c1 c2 hm51 hk h1 h2
            refine me1 (pc' := 53) (L' := [(0, .ref 102), (1, ii ((base : Nat) : Int)), (2, ii place), (3, ii ((n : Nat) : Int)), (4, zz c1), (5, zz c2), (6, ii (k : Int))]) (S' := [ii (k : Int)]) dm_X12_gathered_51 rfl rfl rfl rfl ?_
            refine me1 (pc' := 54) (L' := [(0, .ref 102), (1, ii ((base : Nat) : Int)), (2, ii place), (3, ii ((n : Nat) : Int)), (4, zz c1), (5, zz c2), (6, ii (k : Int))]) (S' := [ii ((n : Nat) : Int), ii (k : Int)]) dm_X12_gathered_53 rfl rfl rfl rfl ?_
            refine y_2ge (a := (k : Int)) (b := ((n : Nat) : Int)) (t := 120) (pc' := 57) dm_X12_gathered_54 rfl rfl (by omega) (fun hb4 => ?_) (fun hb4 => ?_)
            · have hkn : k = n := by omega
              rw [hkn] at h1 h2
              have hc1 : c1 = false := h1.trans hN
              have hc2 : c2 = true := h2.trans hS
              clear h1 h2
              refine me1 (pc' := 121) (L' := [(0, .ref 102), (1, ii ((base : Nat) : Int)), (2, ii place), (3, ii ((n : Nat) : Int)), (4, zz c1), (5, zz c2), (6, ii (k : Int))]) (S' := [ii ((n : Nat) : Int)]) dm_X12_gathered_120 rfl rfl rfl rfl ?_
              refine me1 (pc' := 123) (L' := [(0, .ref 102), (1, ii ((base : Nat) : Int)), (2, ii place), (3, ii ((n : Nat) : Int)), (4, zz c1), (5, zz c2), (6, ii (k : Int))]) (S' := [zz c1, ii ((n : Nat) : Int)]) dm_X12_gathered_121 rfl rfl rfl rfl ?_
              refine y_zne (c := c1) (t := 131) (pc' := 126) dm_X12_gathered_123 rfl rfl (fun hb5 => ?_) (fun hb5 => ?_)
              · exact absurd hb5 (by rw [hc1]; decide)
              · refine me1 (pc' := 128) (L' := [(0, .ref 102), (1, ii ((base : Nat) : Int)), (2, ii place), (3, ii ((n : Nat) : Int)), (4, zz c1), (5, zz c2), (6, ii (k : Int))]) (S' := [zz c2, ii ((n : Nat) : Int)]) dm_X12_gathered_126 rfl rfl rfl rfl ?_
                refine y_zeq (c := c2) (t := 136) (pc' := 131) dm_X12_gathered_128 rfl rfl (fun hb6 => ?_) (fun hb6 => ?_)
                · exact absurd hb6 (by rw [hc2]; decide)
                · refine me0 (pc' := 133) (S' := [ii 120, ii ((n : Nat) : Int)]) dm_X12_gathered_131 rfl rfl rfl rfl ?_
                  refine me2 (pc' := 138) (S' := [ii 120, ii ((n : Nat) : Int)]) dm_X12_gathered_133 rfl rfl rfl ?_
                  refine y_2le (a := ((n : Nat) : Int)) (b := 120) (t := 149) (pc' := 141) dm_X12_gathered_138 rfl rfl (by omega) (fun hb7 => ?_) (fun hb7 => ?_)
                  · refine me1 (pc' := 150) (L' := [(0, .ref 102), (1, ii ((base : Nat) : Int)), (2, ii place), (3, ii ((n : Nat) : Int)), (4, zz c1), (5, zz c2), (6, ii (k : Int))]) (S' := [.ref 102]) dm_X12_gathered_149 rfl rfl rfl rfl ?_
                    refine me1 (pc' := 152) (L' := [(0, .ref 102), (1, ii ((base : Nat) : Int)), (2, ii place), (3, ii ((n : Nat) : Int)), (4, zz c1), (5, zz c2), (6, ii (k : Int))]) (S' := [zz c2, .ref 102]) dm_X12_gathered_150 rfl rfl rfl rfl ?_
                    refine y_zeq (c := c2) (t := 159) (pc' := 155) dm_X12_gathered_152 rfl rfl (fun hb8 => ?_) (fun hb8 => ?_)
                    · exact absurd hb8 (by rw [hc2]; decide)
                    · refine me0 (pc' := 156) (S' := [ii 3, .ref 102]) dm_X12_gathered_155 rfl rfl rfl rfl ?_
                      refine me2 (pc' := 170) (S' := [ii 3, .ref 102]) dm_X12_gathered_156 rfl rfl rfl ?_
                      refine me1 (pc' := 171) (L' := [(0, .ref 102), (1, ii ((base : Nat) : Int)), (2, ii place), (3, ii ((n : Nat) : Int)), (4, zz c1), (5, zz c2), (6, ii (k : Int))]) (S' := [ii ((n : Nat) : Int), ii 3, .ref 102]) dm_X12_gathered_170 rfl rfl rfl rfl ?_
                      refine x_cv (pc' := 174) (rest := []) dm_X12_gathered_171 rfl (q_inv (As := [ii 3, ii ((n : Nat) : Int)]) (S := []) hm rfl rfl rfl) rfl rfl rfl (r_row_ (q := q) (b := b) (s := s2) hm (by omega) hqS hbS (by omega) (by omega) (by omega)) ?_
                      rintro _ _ ⟨rfl, rfl⟩
                      refine me1 (pc' := 176) (L' := [(6, ii (q : Int)), (0, .ref 102), (1, ii ((base : Nat) : Int)), (2, ii place), (3, ii ((n : Nat) : Int)), (4, zz c1), (5, zz c2)]) (S' := []) dm_X12_gathered_174 rfl rfl rfl rfl ?_
                      refine me0 (pc' := 177) (S' := [ii 0]) dm_X12_gathered_176 rfl rfl rfl rfl ?_
                      refine me1 (pc' := 179) (L' := [(7, ii 0), (6, ii (q : Int)), (0, .ref 102), (1, ii ((base : Nat) : Int)), (2, ii place), (3, ii ((n : Nat) : Int)), (4, zz c1), (5, zz c2)]) (S' := []) dm_X12_gathered_177 rfl rfl rfl rfl ?_
                      have lp179 : ∀ (n179 : Nat) (k : Nat), n - k = n179 → (k ≤ n) → pgE xt (d - 1) 12 8 false (Option.some Jvm.ClassFile.FieldType.int) (mj_dec prog_14_method_28_code) 179 [(0, .ref 102), (1, ii ((base : Nat) : Int)), (2, ii place), (3, ii ((n : Nat) : Int)), (4, zz c1), (5, zz c2), (6, ii (q : Int)), (7, ii (k : Int))] [] (rI pre post ((fillS (rowS s2 q b 3 ((n : Nat) : Int)) b k (fun k => vn (ch k) 0)).1) ((fillS (rowS s2 q b 3 ((n : Nat) : Int)) b k (fun k => vn (ch k) 0)).2.1) ((fillS (rowS s2 q b 3 ((n : Nat) : Int)) b k (fun k => vn (ch k) 0)).2.2.1) ((fillS (rowS s2 q b 3 ((n : Nat) : Int)) b k (fun k => vn (ch k) 0)).2.2.2)) (fun r h' => ∃ x, r = some x ∧ dres pre post (gaB s base) W (7 + 3 * (n : Int)) nd (dGa (cpS s) W n ch place) x h') := by
                        intro n179
                        induction n179 using Nat.strongRecOn with
                        | ind n179 ih179 =>
                          intro k hm179 hk
                          refine me1 (pc' := 181) (L' := [(0, .ref 102), (1, ii ((base : Nat) : Int)), (2, ii place), (3, ii ((n : Nat) : Int)), (4, zz c1), (5, zz c2), (6, ii (q : Int)), (7, ii (k : Int))]) (S' := [ii (k : Int)]) dm_X12_gathered_179 rfl rfl rfl rfl ?_
                          refine me1 (pc' := 182) (L' := [(0, .ref 102), (1, ii ((base : Nat) : Int)), (2, ii place), (3, ii ((n : Nat) : Int)), (4, zz c1), (5, zz c2), (6, ii (q : Int)), (7, ii (k : Int))]) (S' := [ii ((n : Nat) : Int), ii (k : Int)]) dm_X12_gathered_181 rfl rfl rfl rfl ?_
                          refine y_2ge (a := (k : Int)) (b := ((n : Nat) : Int)) (t := 243) (pc' := 185) dm_X12_gathered_182 rfl rfl (by omega) (fun hb9 => ?_) (fun hb9 => ?_)
                          · have hkn2 : k = n := by omega
                            refine pg_cast (h2 := rI pre post ((fillS (rowS s2 q b 3 ((n : Nat) : Int)) b n (fun k => vn (ch k) 0)).1) ((fillS (rowS s2 q b 3 ((n : Nat) : Int)) b n (fun k => vn (ch k) 0)).2.1) ((fillS (rowS s2 q b 3 ((n : Nat) : Int)) b n (fun k => vn (ch k) 0)).2.2.1) ((fillS (rowS s2 q b 3 ((n : Nat) : Int)) b n (fun k => vn (ch k) 0)).2.2.2)) (by rw [hkn2]) ?_
                            refine me1 (pc' := 244) (L' := [(0, .ref 102), (1, ii ((base : Nat) : Int)), (2, ii place), (3, ii ((n : Nat) : Int)), (4, zz c1), (5, zz c2), (6, ii (q : Int)), (7, ii (k : Int))]) (S' := [.ref 102]) dm_X12_gathered_243 rfl rfl rfl rfl ?_
                            refine me1 (pc' := 246) (L' := [(0, .ref 102), (1, ii ((base : Nat) : Int)), (2, ii place), (3, ii ((n : Nat) : Int)), (4, zz c1), (5, zz c2), (6, ii (q : Int)), (7, ii (k : Int))]) (S' := [zz c1, .ref 102]) dm_X12_gathered_244 rfl rfl rfl rfl ?_
                            refine y_zeq (c := c1) (t := 258) (pc' := 249) dm_X12_gathered_246 rfl rfl (fun hb10 => ?_) (fun hb10 => ?_)
                            · refine me1 (pc' := 260) (L' := [(0, .ref 102), (1, ii ((base : Nat) : Int)), (2, ii place), (3, ii ((n : Nat) : Int)), (4, zz c1), (5, zz c2), (6, ii (q : Int)), (7, ii (k : Int))]) (S' := [ii (q : Int), .ref 102]) dm_X12_gathered_258 rfl rfl rfl rfl ?_
                              refine me1 (pc' := 261) (L' := [(0, .ref 102), (1, ii ((base : Nat) : Int)), (2, ii place), (3, ii ((n : Nat) : Int)), (4, zz c1), (5, zz c2), (6, ii (q : Int)), (7, ii (k : Int))]) (S' := [ii place, ii (q : Int), .ref 102]) dm_X12_gathered_260 rfl rfl rfl rfl ?_
                              have hG : rG pre post s2 8 (.inr (vrow 3 n (fun k => vn (ch k) 0))) place n 1 (ii (q : Int)) (rS pre post (fillS (rowS s2 q b 3 ((n : Nat) : Int)) b n (fun k => vn (ch k) 0))) := rG_P (rresP_of (rres_row (e := 7) (kind := 3) (n := n) (w := (vrow 3 n (fun k => vn (ch k) 0))) hqS hq3 hbS heS (vw1_row (by omega) (by omega) (by omega)) (by show ¬ 3 = 7; omega) (by show ¬ 3 = 6; omega) rfl rfl rfl (fun _ _ => rfl) (Nat.le_refl _) (Nat.le_refl _)))
                              refine x_cv (pc' := 264) (rest := []) dm_X12_gathered_261 rfl (q_inv (As := [ii (q : Int), ii place]) (S := []) hm rfl rfl rfl) rfl rfl rfl (r_mdo (s := gaB s base) (s2 := s2) (W2 := W) (cost := 0) (p := 3) (C := n) (V := 1) (o := .inr (vrow 3 n (fun k => vn (ch k) 0))) (c := 7 + 3 * (n : Int)) (nd := nd) hm (by omega) hT hBg hG (by rw [gaB_k (by decide)]; exact hca) (by omega) hW hnd (fun z hz => by cases hz) (fun v hv9 => by injection hv9 with hv9; rw [← hv9, ga_flat (by omega) (by omega)]; omega) (by omega) (by omega) (by rw [gaB_k (by decide), gaB_k (by decide)]; omega) (fun v hv9 _ _ => by injection hv9 with hv9; have z : vsz 7 (vrow (3) n (fun k => vn (ch k) 0)) = 1 + n := ga_flat (by omega) (by omega) 6; rw [← hv9]; omega)) ?_
                              rintro x9 g9 hfin
                              obtain ⟨z9, rfl⟩ := dres_ii hfin
                              obtain ⟨t9, rfl⟩ := dres_st hfin
                              refine y_ret (r := some (ii z9)) dm_X12_gathered_264 rfl rfl rfl ?_
                              refine ⟨_, rfl, ?_⟩
                              have e9 : dGa (cpS s) W n ch place = dMo (cpS (gaB s base)) W 3 (.inr (vrow 3 n (fun k => vn (ch k) 0))) place := by unfold dGa; rw [gaV_s hn0 (fun z => by have := cnB_all z; rw [show allN n (isNb ch) = false from hN] at this; cases this) (cnB_n hS) (by omega), cpS_ga]; rfl
                              rw [e9]
                              exact hfin
                            · exact absurd hb10 (by rw [hc1]; decide)
                          · refine me1 (pc' := 186) (L' := [(0, .ref 102), (1, ii ((base : Nat) : Int)), (2, ii place), (3, ii ((n : Nat) : Int)), (4, zz c1), (5, zz c2), (6, ii (q : Int)), (7, ii (k : Int))]) (S' := [.ref 102]) dm_X12_gathered_185 rfl rfl rfl rfl ?_
                            refine me3 (pc' := 189) (S' := [.ref (102 + 1)]) dm_X12_gathered_186 (q_getr hm rfl (fun m i l => rg_0 m i l)) rfl rfl rfl ?_
                            refine me1 (pc' := 190) (L' := [(0, .ref 102), (1, ii ((base : Nat) : Int)), (2, ii place), (3, ii ((n : Nat) : Int)), (4, zz c1), (5, zz c2), (6, ii (q : Int)), (7, ii (k : Int))]) (S' := [.ref 102, .ref (102 + 1)]) dm_X12_gathered_189 rfl rfl rfl rfl ?_
                            refine me3 (pc' := 193) (S' := [.ref (102 + 2), .ref (102 + 1)]) dm_X12_gathered_190 (q_getr hm rfl (fun m i l => rg_1 m i l)) rfl rfl rfl ?_
                            refine me1 (pc' := 195) (L' := [(0, .ref 102), (1, ii ((base : Nat) : Int)), (2, ii place), (3, ii ((n : Nat) : Int)), (4, zz c1), (5, zz c2), (6, ii (q : Int)), (7, ii (k : Int))]) (S' := [ii (q : Int), .ref (102 + 2), .ref (102 + 1)]) dm_X12_gathered_193 rfl rfl rfl rfl ?_
                            refine me3 (pc' := 196) (S' := [ii ((((fillS (rowS s2 q b 3 ((n : Nat) : Int)) b k (fun k => vn (ch k) 0)).2.2.1) 1) q), .ref (102 + 1)]) dm_X12_gathered_195 (q_iald (v := (((fillS (rowS s2 q b 3 ((n : Nat) : Int)) b k (fun k => vn (ch k) 0)).2.2.1) 1) q) (k := 1) (n := 310000) hm (fun m i l I J => rc_1 m i l I J) (by omega) (by omega) (by decide) rfl) rfl rfl rfl ?_
                            refine pg_st (S' := [ii (b : Int), .ref (102 + 1)]) (congrArg (fun z => ii z :: [.ref (102 + 1)]) (up_eq _ _ _)) ?_
                            refine me1 (pc' := 198) (L' := [(0, .ref 102), (1, ii ((base : Nat) : Int)), (2, ii place), (3, ii ((n : Nat) : Int)), (4, zz c1), (5, zz c2), (6, ii (q : Int)), (7, ii (k : Int))]) (S' := [ii (k : Int), ii (b : Int), .ref (102 + 1)]) dm_X12_gathered_196 rfl rfl rfl rfl ?_
                            refine y_iadd (a := (b : Int)) (b := (k : Int)) dm_X12_gathered_198 (pc' := 199) rfl ?_
                            refine me1 (pc' := 201) (L' := [(0, .ref 102), (1, ii ((base : Nat) : Int)), (2, ii place), (3, ii ((n : Nat) : Int)), (4, zz c1), (5, zz c2), (6, ii (q : Int)), (7, ii (k : Int))]) (S' := [zz c1, ii ((b : Int) + (k : Int)), .ref (102 + 1)]) dm_X12_gathered_199 rfl rfl rfl rfl ?_
                            refine y_zne (c := c1) (t := 209) (pc' := 204) dm_X12_gathered_201 rfl rfl (fun hb11 => ?_) (fun hb11 => ?_)
                            · exact absurd hb11 (by rw [hc1]; decide)
                            · refine me1 (pc' := 206) (L' := [(0, .ref 102), (1, ii ((base : Nat) : Int)), (2, ii place), (3, ii ((n : Nat) : Int)), (4, zz c1), (5, zz c2), (6, ii (q : Int)), (7, ii (k : Int))]) (S' := [zz c2, ii ((b : Int) + (k : Int)), .ref (102 + 1)]) dm_X12_gathered_204 rfl rfl rfl rfl ?_
                              refine y_zeq (c := c2) (t := 226) (pc' := 209) dm_X12_gathered_206 rfl rfl (fun hb12 => ?_) (fun hb12 => ?_)
                              · exact absurd hb12 (by rw [hc2]; decide)
                              · refine me1 (pc' := 210) (L' := [(0, .ref 102), (1, ii ((base : Nat) : Int)), (2, ii place), (3, ii ((n : Nat) : Int)), (4, zz c1), (5, zz c2), (6, ii (q : Int)), (7, ii (k : Int))]) (S' := [.ref 102, ii ((b : Int) + (k : Int)), .ref (102 + 1)]) dm_X12_gathered_209 rfl rfl rfl rfl ?_
                                refine me1 (pc' := 211) (L' := [(0, .ref 102), (1, ii ((base : Nat) : Int)), (2, ii place), (3, ii ((n : Nat) : Int)), (4, zz c1), (5, zz c2), (6, ii (q : Int)), (7, ii (k : Int))]) (S' := [.ref 102, .ref 102, ii ((b : Int) + (k : Int)), .ref (102 + 1)]) dm_X12_gathered_210 rfl rfl rfl rfl ?_
                                refine me3 (pc' := 214) (S' := [.ref (102 + 4), .ref 102, ii ((b : Int) + (k : Int)), .ref (102 + 1)]) dm_X12_gathered_211 (q_getr hm rfl (fun m i l => rg_12 m i l)) rfl rfl rfl ?_
                                refine me1 (pc' := 215) (L' := [(0, .ref 102), (1, ii ((base : Nat) : Int)), (2, ii place), (3, ii ((n : Nat) : Int)), (4, zz c1), (5, zz c2), (6, ii (q : Int)), (7, ii (k : Int))]) (S' := [ii ((base : Nat) : Int), .ref (102 + 4), .ref 102, ii ((b : Int) + (k : Int)), .ref (102 + 1)]) dm_X12_gathered_214 rfl rfl rfl rfl ?_
                                refine me1 (pc' := 217) (L' := [(0, .ref 102), (1, ii ((base : Nat) : Int)), (2, ii place), (3, ii ((n : Nat) : Int)), (4, zz c1), (5, zz c2), (6, ii (q : Int)), (7, ii (k : Int))]) (S' := [ii (k : Int), ii ((base : Nat) : Int), .ref (102 + 4), .ref 102, ii ((b : Int) + (k : Int)), .ref (102 + 1)]) dm_X12_gathered_215 rfl rfl rfl rfl ?_
                                refine y_iadd (a := ((base : Nat) : Int)) (b := (k : Int)) dm_X12_gathered_217 (pc' := 218) rfl ?_
                                refine pg_st (S' := [ii ((base + k : Nat) : Int), .ref (102 + 4), .ref 102, ii ((b : Int) + (k : Int)), .ref (102 + 1)]) (congrArg (fun z => ii z :: [.ref (102 + 4), .ref 102, ii ((b : Int) + (k : Int)), .ref (102 + 1)]) (by omega)) ?_
                                refine me3 (pc' := 219) (S' := [ii ((((fillS (rowS s2 q b 3 ((n : Nat) : Int)) b k (fun k => vn (ch k) 0)).2.2.1) 12) (base + k)), .ref 102, ii ((b : Int) + (k : Int)), .ref (102 + 1)]) dm_X12_gathered_218 (q_iald (v := (((fillS (rowS s2 q b 3 ((n : Nat) : Int)) b k (fun k => vn (ch k) 0)).2.2.1) 12) (base + k)) (k := 12) (n := 8192) hm (fun m i l I J => rc_12 m i l I J) (by omega) (by omega) (by decide) rfl) rfl rfl rfl ?_
                                obtain ⟨p219, hp219, hpe219, hpv219⟩ := hch2 k (by omega)
                                have hpk219 := (rv_wf hpv219).1.1
                                refine pg_st (S' := [ii (p219 : Int), .ref 102, ii ((b : Int) + (k : Int)), .ref (102 + 1)]) (congrArg (fun z => ii z :: [.ref 102, ii ((b : Int) + (k : Int)), .ref (102 + 1)]) (hpe219)) ?_
                                refine me0 (pc' := 220) (S' := [ii 0, ii (p219 : Int), .ref 102, ii ((b : Int) + (k : Int)), .ref (102 + 1)]) dm_X12_gathered_219 rfl rfl rfl rfl ?_
                                have hpvF : rv (fillS (rowS s2 q b 3 ((n : Nat) : Int)) b k (fun k => vn (ch k) 0)) 7 p219 (ch k) := rv_ext (rext_fill (rext_row hqS hbS _ (by omega)) (by omega) _) hp219 hpv219
                                have hBF : rB (fillS (rowS s2 q b 3 ((n : Nat) : Int)) b k (fun k => vn (ch k) 0)) := ⟨by show 3 ≤ (q : Int) + 1; omega, by show (q : Int) + 1 ≤ 310000; omega, by show 0 ≤ (b : Int) + ((n : Nat) : Int); omega, by show (b : Int) + ((n : Nat) : Int) ≤ 820000; omega⟩
                                have hvq1 : vk (ch k) ≤ 1 := by have := hkd k (by omega); omega
                                refine x_cp (pc' := 223) (v := .long (vn (ch k) 0)) (rest := [ii ((b : Int) + (k : Int)), .ref (102 + 1)]) dm_X12_gathered_220 rfl (q_inv (As := [ii (p219 : Int), ii 0]) (S := [ii ((b : Int) + (k : Int)), .ref (102 + 1)]) hm rfl rfl rfl) rfl rfl rfl (r_number_ (k := 0) hm (by omega) hBF hpvF (by omega) (by rw [vq_1 (rv_wf hpvF).1 hvq1]; omega)) ?_
                                refine me2 (pc' := 236) (S' := [.long (vn (ch k) 0), ii ((b : Int) + (k : Int)), .ref (102 + 1)]) dm_X12_gathered_223 rfl rfl rfl ?_
                                refine me3 (pc' := 237) (S' := []) (h1 := rI pre post ((fillS (rowS s2 q b 3 ((n : Nat) : Int)) b k (fun k => vn (ch k) 0)).1) ((fillS (rowS s2 q b 3 ((n : Nat) : Int)) b k (fun k => vn (ch k) 0)).2.1) ((fillS (rowS s2 q b 3 ((n : Nat) : Int)) b k (fun k => vn (ch k) 0)).2.2.1) (va_up ((fillS (rowS s2 q b 3 ((n : Nat) : Int)) b k (fun k => vn (ch k) 0)).2.2.2) 0 (va_up (((fillS (rowS s2 q b 3 ((n : Nat) : Int)) b k (fun k => vn (ch k) 0)).2.2.2) 0) (b + k) (vn (ch k) 0)))) dm_X12_gathered_236 (q_last (j := (b : Int) + (k : Int)) (k := 0) (n := 820000) hm (fun m i l I J => rc_0 m i l I J) (fun m i l I J f => rs_0 m i l I J f) (by omega) (by omega) (by decide)) rfl rfl rfl ?_
                                refine y_iinc (pc' := 240) (L' := [(7, ii ((k : Int) + 1)), (0, .ref 102), (1, ii ((base : Nat) : Int)), (2, ii place), (3, ii ((n : Nat) : Int)), (4, zz c1), (5, zz c2), (6, ii (q : Int))]) dm_X12_gathered_237 (y_incp (a := (k : Int)) (c := 1) rfl rfl (by decide)) rfl ?_
                                refine me2 (pc' := 179) (S' := []) dm_X12_gathered_240 rfl rfl rfl ?_
                                refine pg_cast (h2 := rI pre post ((fillS (rowS s2 q b 3 ((n : Nat) : Int)) b (k + 1) (fun k => vn (ch k) 0)).1) ((fillS (rowS s2 q b 3 ((n : Nat) : Int)) b (k + 1) (fun k => vn (ch k) 0)).2.1) ((fillS (rowS s2 q b 3 ((n : Nat) : Int)) b (k + 1) (fun k => vn (ch k) 0)).2.2.1) ((fillS (rowS s2 q b 3 ((n : Nat) : Int)) b (k + 1) (fun k => vn (ch k) 0)).2.2.2)) (fill_s (rowS s2 q b 3 ((n : Nat) : Int)) b k (fun k => vn (ch k) 0)) ?_
                                exact pg_sub (L := [(0, .ref 102), (1, ii ((base : Nat) : Int)), (2, ii place), (3, ii ((n : Nat) : Int)), (4, zz c1), (5, zz c2), (6, ii (q : Int)), (7, ii ((k + 1) : Int))]) rfl rfl rfl (ih179 (n - (k + 1)) (by omega) (k + 1) rfl (by omega))
                      refine pg_cast (h2 := rI pre post ((fillS (rowS s2 q b 3 ((n : Nat) : Int)) b 0 (fun k => vn (ch k) 0)).1) ((fillS (rowS s2 q b 3 ((n : Nat) : Int)) b 0 (fun k => vn (ch k) 0)).2.1) ((fillS (rowS s2 q b 3 ((n : Nat) : Int)) b 0 (fun k => vn (ch k) 0)).2.2.1) ((fillS (rowS s2 q b 3 ((n : Nat) : Int)) b 0 (fun k => vn (ch k) 0)).2.2.2)) (fill_0 (rowS s2 q b 3 ((n : Nat) : Int)) b (fun k => vn (ch k) 0)) ?_
                      exact pg_sub (L := [(0, .ref 102), (1, ii ((base : Nat) : Int)), (2, ii place), (3, ii ((n : Nat) : Int)), (4, zz c1), (5, zz c2), (6, ii (q : Int)), (7, ii (0 : Int))]) rfl rfl rfl (lp179 _ 0 rfl (Nat.zero_le _))
                  · refine me1 (pc' := 142) (L' := [(0, .ref 102), (1, ii ((base : Nat) : Int)), (2, ii place), (3, ii ((n : Nat) : Int)), (4, zz c1), (5, zz c2), (6, ii (k : Int))]) (S' := [.ref 102]) dm_X12_gathered_141 rfl rfl rfl rfl ?_
                    refine me0 (pc' := 144) (S' := [ii 8, .ref 102]) dm_X12_gathered_142 rfl rfl rfl rfl ?_
                    refine me1 (pc' := 145) (L' := [(0, .ref 102), (1, ii ((base : Nat) : Int)), (2, ii place), (3, ii ((n : Nat) : Int)), (4, zz c1), (5, zz c2), (6, ii (k : Int))]) (S' := [ii place, ii 8, .ref 102]) dm_X12_gathered_144 rfl rfl rfl rfl ?_
                    refine x_cv (pc' := 148) (rest := []) dm_X12_gathered_145 rfl (q_inv (As := [ii 8, ii place]) (S := []) hm rfl rfl rfl) rfl rfl rfl (r_fail_ (s := s2) hm (by omega) heS hca2.1 hca2.2) ?_
                    rintro _ _ ⟨rfl, rfl⟩
                    refine y_ret (r := some (ii (-1))) dm_X12_gathered_148 rfl rfl rfl ?_
                    refine ⟨_, rfl, ?_⟩
                    have e9 : dGa (cpS s) W n ch place = dEr (cpS (gaB s base)) W 8 place := by unfold dGa; rw [gaV_s8 hn0 (fun z => by have := cnB_all z; rw [show allN n (isNb ch) = false from hN] at this; cases this) (cnB_n hS) (by omega), cpS_ga]
                    rw [e9]
                    exact dres_fl (cost := 0) (e := 8) hT (by omega) hnd
            · refine me1 (pc' := 59) (L' := [(0, .ref 102), (1, ii ((base : Nat) : Int)), (2, ii place), (3, ii ((n : Nat) : Int)), (4, zz c1), (5, zz c2), (6, ii (k : Int))]) (S' := [zz c1]) dm_X12_gathered_57 rfl rfl rfl rfl ?_
              refine y_zeq (c := c1) (t := 82) (pc' := 62) dm_X12_gathered_59 rfl rfl (fun hb13 => ?_) (fun hb13 => ?_)
              · refine me0 (pc' := 83) (S' := [ii 0]) dm_X12_gathered_82 rfl rfl rfl rfl ?_
                refine me1 (pc' := 85) (L' := [(4, ii 0), (0, .ref 102), (1, ii ((base : Nat) : Int)), (2, ii place), (3, ii ((n : Nat) : Int)), (5, zz c2), (6, ii (k : Int))]) (S' := []) dm_X12_gathered_83 rfl rfl rfl rfl ?_
                refine me1 (pc' := 87) (L' := [(4, ii 0), (0, .ref 102), (1, ii ((base : Nat) : Int)), (2, ii place), (3, ii ((n : Nat) : Int)), (5, zz c2), (6, ii (k : Int))]) (S' := [zz c2]) dm_X12_gathered_85 rfl rfl rfl rfl ?_
                refine y_zeq (c := c2) (t := 111) (pc' := 90) dm_X12_gathered_87 rfl rfl (fun hb14 => ?_) (fun hb14 => ?_)
                · refine me0 (pc' := 112) (S' := [ii 0]) dm_X12_gathered_111 rfl rfl rfl rfl ?_
                  refine me1 (pc' := 114) (L' := [(5, ii 0), (4, ii 0), (0, .ref 102), (1, ii ((base : Nat) : Int)), (2, ii place), (3, ii ((n : Nat) : Int)), (6, ii (k : Int))]) (S' := []) dm_X12_gathered_112 rfl rfl rfl rfl ?_
                  refine y_iinc (pc' := 117) (L' := [(6, ii ((k : Int) + 1)), (5, ii 0), (4, ii 0), (0, .ref 102), (1, ii ((base : Nat) : Int)), (2, ii place), (3, ii ((n : Nat) : Int))]) dm_X12_gathered_114 (y_incp (a := (k : Int)) (c := 1) rfl rfl (by decide)) rfl ?_
                  refine me2 (pc' := 51) (S' := []) dm_X12_gathered_117 rfl rfl rfl ?_
                  exact pg_sub (L := [(0, .ref 102), (1, ii ((base : Nat) : Int)), (2, ii place), (3, ii ((n : Nat) : Int)), (4, zz false), (5, zz false), (6, ii ((k + 1) : Int))]) rfl rfl rfl (ih51 (n - (k + 1)) (by omega) (k + 1) false false rfl (by omega) (allN_sF (p := isNb ch) (Or.inl (by rw [← h1]; exact hb13))).symm (allN_sF (p := isSg ch) (Or.inl (by rw [← h2]; exact hb14))).symm)
                · refine me1 (pc' := 91) (L' := [(4, ii 0), (0, .ref 102), (1, ii ((base : Nat) : Int)), (2, ii place), (3, ii ((n : Nat) : Int)), (5, zz c2), (6, ii (k : Int))]) (S' := [.ref 102]) dm_X12_gathered_90 rfl rfl rfl rfl ?_
                  refine me1 (pc' := 92) (L' := [(4, ii 0), (0, .ref 102), (1, ii ((base : Nat) : Int)), (2, ii place), (3, ii ((n : Nat) : Int)), (5, zz c2), (6, ii (k : Int))]) (S' := [.ref 102, .ref 102]) dm_X12_gathered_91 rfl rfl rfl rfl ?_
                  refine me3 (pc' := 95) (S' := [.ref (102 + 4), .ref 102]) dm_X12_gathered_92 (q_getr hm rfl (fun m i l => rg_12 m i l)) rfl rfl rfl ?_
                  refine me1 (pc' := 96) (L' := [(4, ii 0), (0, .ref 102), (1, ii ((base : Nat) : Int)), (2, ii place), (3, ii ((n : Nat) : Int)), (5, zz c2), (6, ii (k : Int))]) (S' := [ii ((base : Nat) : Int), .ref (102 + 4), .ref 102]) dm_X12_gathered_95 rfl rfl rfl rfl ?_
                  refine me1 (pc' := 98) (L' := [(4, ii 0), (0, .ref 102), (1, ii ((base : Nat) : Int)), (2, ii place), (3, ii ((n : Nat) : Int)), (5, zz c2), (6, ii (k : Int))]) (S' := [ii (k : Int), ii ((base : Nat) : Int), .ref (102 + 4), .ref 102]) dm_X12_gathered_96 rfl rfl rfl rfl ?_
                  refine y_iadd (a := ((base : Nat) : Int)) (b := (k : Int)) dm_X12_gathered_98 (pc' := 99) rfl ?_
                  refine pg_st (S' := [ii ((base + k : Nat) : Int), .ref (102 + 4), .ref 102]) (congrArg (fun z => ii z :: [.ref (102 + 4), .ref 102]) (by omega)) ?_
                  refine me3 (pc' := 100) (S' := [ii ((s2.2.2.1 12) (base + k)), .ref 102]) dm_X12_gathered_99 (q_iald (v := (s2.2.2.1 12) (base + k)) (k := 12) (n := 8192) hm (fun m i l I J => rc_12 m i l I J) (by omega) (by omega) (by decide) rfl) rfl rfl rfl ?_
                  obtain ⟨p100, hp100, hpe100, hpv100⟩ := hch2 k (by omega)
                  have hpk100 := (rv_wf hpv100).1.1
                  refine pg_st (S' := [ii (p100 : Int), .ref 102]) (congrArg (fun z => ii z :: [.ref 102]) (hpe100)) ?_
                  refine x_cp (pc' := 103) (v := ii (vk (ch k) : Int)) (rest := []) dm_X12_gathered_100 rfl (q_inv (As := [ii (p100 : Int)]) (S := []) hm rfl rfl rfl) rfl rfl rfl (r_kindOf_ hm (by omega) hB2 hpv100) ?_
                  refine me0 (pc' := 104) (S' := [ii 1, ii (vk (ch k) : Int)]) dm_X12_gathered_103 rfl rfl rfl rfl ?_
                  refine y_2ne (a := (vk (ch k) : Int)) (b := 1) (t := 111) (pc' := 107) dm_X12_gathered_104 rfl rfl (by omega) (fun hb15 => ?_) (fun hb15 => ?_)
                  · refine me0 (pc' := 112) (S' := [ii 0]) dm_X12_gathered_111 rfl rfl rfl rfl ?_
                    refine me1 (pc' := 114) (L' := [(5, ii 0), (4, ii 0), (0, .ref 102), (1, ii ((base : Nat) : Int)), (2, ii place), (3, ii ((n : Nat) : Int)), (6, ii (k : Int))]) (S' := []) dm_X12_gathered_112 rfl rfl rfl rfl ?_
                    refine y_iinc (pc' := 117) (L' := [(6, ii ((k : Int) + 1)), (5, ii 0), (4, ii 0), (0, .ref 102), (1, ii ((base : Nat) : Int)), (2, ii place), (3, ii ((n : Nat) : Int))]) dm_X12_gathered_114 (y_incp (a := (k : Int)) (c := 1) rfl rfl (by decide)) rfl ?_
                    refine me2 (pc' := 51) (S' := []) dm_X12_gathered_117 rfl rfl rfl ?_
                    exact pg_sub (L := [(0, .ref 102), (1, ii ((base : Nat) : Int)), (2, ii place), (3, ii ((n : Nat) : Int)), (4, zz false), (5, zz false), (6, ii ((k + 1) : Int))]) rfl rfl rfl (ih51 (n - (k + 1)) (by omega) (k + 1) false false rfl (by omega) (allN_sF (p := isNb ch) (Or.inl (by rw [← h1]; exact hb13))).symm (allN_sF (p := isSg ch) (Or.inr (decide_eq_false (by omega)))).symm)
                  · refine me0 (pc' := 108) (S' := [ii 1]) dm_X12_gathered_107 rfl rfl rfl rfl ?_
                    refine me2 (pc' := 112) (S' := [ii 1]) dm_X12_gathered_108 rfl rfl rfl ?_
                    refine me1 (pc' := 114) (L' := [(5, ii 1), (4, ii 0), (0, .ref 102), (1, ii ((base : Nat) : Int)), (2, ii place), (3, ii ((n : Nat) : Int)), (6, ii (k : Int))]) (S' := []) dm_X12_gathered_112 rfl rfl rfl rfl ?_
                    refine y_iinc (pc' := 117) (L' := [(6, ii ((k : Int) + 1)), (5, ii 1), (4, ii 0), (0, .ref 102), (1, ii ((base : Nat) : Int)), (2, ii place), (3, ii ((n : Nat) : Int))]) dm_X12_gathered_114 (y_incp (a := (k : Int)) (c := 1) rfl rfl (by decide)) rfl ?_
                    refine me2 (pc' := 51) (S' := []) dm_X12_gathered_117 rfl rfl rfl ?_
                    exact pg_sub (L := [(0, .ref 102), (1, ii ((base : Nat) : Int)), (2, ii place), (3, ii ((n : Nat) : Int)), (4, zz false), (5, zz true), (6, ii ((k + 1) : Int))]) rfl rfl rfl (ih51 (n - (k + 1)) (by omega) (k + 1) false true rfl (by omega) (allN_sF (p := isNb ch) (Or.inl (by rw [← h1]; exact hb13))).symm (allN_sT (p := isSg ch) (by rw [← h2]; exact hb14) (decide_eq_true (by omega))).symm)
              · refine me1 (pc' := 63) (L' := [(0, .ref 102), (1, ii ((base : Nat) : Int)), (2, ii place), (3, ii ((n : Nat) : Int)), (4, zz c1), (5, zz c2), (6, ii (k : Int))]) (S' := [.ref 102]) dm_X12_gathered_62 rfl rfl rfl rfl ?_
                refine me1 (pc' := 64) (L' := [(0, .ref 102), (1, ii ((base : Nat) : Int)), (2, ii place), (3, ii ((n : Nat) : Int)), (4, zz c1), (5, zz c2), (6, ii (k : Int))]) (S' := [.ref 102, .ref 102]) dm_X12_gathered_63 rfl rfl rfl rfl ?_
                refine me3 (pc' := 67) (S' := [.ref (102 + 4), .ref 102]) dm_X12_gathered_64 (q_getr hm rfl (fun m i l => rg_12 m i l)) rfl rfl rfl ?_
                refine me1 (pc' := 68) (L' := [(0, .ref 102), (1, ii ((base : Nat) : Int)), (2, ii place), (3, ii ((n : Nat) : Int)), (4, zz c1), (5, zz c2), (6, ii (k : Int))]) (S' := [ii ((base : Nat) : Int), .ref (102 + 4), .ref 102]) dm_X12_gathered_67 rfl rfl rfl rfl ?_
                refine me1 (pc' := 70) (L' := [(0, .ref 102), (1, ii ((base : Nat) : Int)), (2, ii place), (3, ii ((n : Nat) : Int)), (4, zz c1), (5, zz c2), (6, ii (k : Int))]) (S' := [ii (k : Int), ii ((base : Nat) : Int), .ref (102 + 4), .ref 102]) dm_X12_gathered_68 rfl rfl rfl rfl ?_
                refine y_iadd (a := ((base : Nat) : Int)) (b := (k : Int)) dm_X12_gathered_70 (pc' := 71) rfl ?_
                refine pg_st (S' := [ii ((base + k : Nat) : Int), .ref (102 + 4), .ref 102]) (congrArg (fun z => ii z :: [.ref (102 + 4), .ref 102]) (by omega)) ?_
                refine me3 (pc' := 72) (S' := [ii ((s2.2.2.1 12) (base + k)), .ref 102]) dm_X12_gathered_71 (q_iald (v := (s2.2.2.1 12) (base + k)) (k := 12) (n := 8192) hm (fun m i l I J => rc_12 m i l I J) (by omega) (by omega) (by decide) rfl) rfl rfl rfl ?_
                obtain ⟨p72, hp72, hpe72, hpv72⟩ := hch2 k (by omega)
                have hpk72 := (rv_wf hpv72).1.1
                refine pg_st (S' := [ii (p72 : Int), .ref 102]) (congrArg (fun z => ii z :: [.ref 102]) (hpe72)) ?_
                refine x_cp (pc' := 75) (v := ii (vk (ch k) : Int)) (rest := []) dm_X12_gathered_72 rfl (q_inv (As := [ii (p72 : Int)]) (S := []) hm rfl rfl rfl) rfl rfl rfl (r_kindOf_ hm (by omega) hB2 hpv72) ?_
                refine y_1ne (a := (vk (ch k) : Int)) (t := 82) (pc' := 78) dm_X12_gathered_75 rfl rfl (by omega) (fun hb16 => ?_) (fun hb16 => ?_)
                · refine me0 (pc' := 83) (S' := [ii 0]) dm_X12_gathered_82 rfl rfl rfl rfl ?_
                  refine me1 (pc' := 85) (L' := [(4, ii 0), (0, .ref 102), (1, ii ((base : Nat) : Int)), (2, ii place), (3, ii ((n : Nat) : Int)), (5, zz c2), (6, ii (k : Int))]) (S' := []) dm_X12_gathered_83 rfl rfl rfl rfl ?_
                  refine me1 (pc' := 87) (L' := [(4, ii 0), (0, .ref 102), (1, ii ((base : Nat) : Int)), (2, ii place), (3, ii ((n : Nat) : Int)), (5, zz c2), (6, ii (k : Int))]) (S' := [zz c2]) dm_X12_gathered_85 rfl rfl rfl rfl ?_
                  refine y_zeq (c := c2) (t := 111) (pc' := 90) dm_X12_gathered_87 rfl rfl (fun hb17 => ?_) (fun hb17 => ?_)
                  · refine me0 (pc' := 112) (S' := [ii 0]) dm_X12_gathered_111 rfl rfl rfl rfl ?_
                    refine me1 (pc' := 114) (L' := [(5, ii 0), (4, ii 0), (0, .ref 102), (1, ii ((base : Nat) : Int)), (2, ii place), (3, ii ((n : Nat) : Int)), (6, ii (k : Int))]) (S' := []) dm_X12_gathered_112 rfl rfl rfl rfl ?_
                    refine y_iinc (pc' := 117) (L' := [(6, ii ((k : Int) + 1)), (5, ii 0), (4, ii 0), (0, .ref 102), (1, ii ((base : Nat) : Int)), (2, ii place), (3, ii ((n : Nat) : Int))]) dm_X12_gathered_114 (y_incp (a := (k : Int)) (c := 1) rfl rfl (by decide)) rfl ?_
                    refine me2 (pc' := 51) (S' := []) dm_X12_gathered_117 rfl rfl rfl ?_
                    exact pg_sub (L := [(0, .ref 102), (1, ii ((base : Nat) : Int)), (2, ii place), (3, ii ((n : Nat) : Int)), (4, zz false), (5, zz false), (6, ii ((k + 1) : Int))]) rfl rfl rfl (ih51 (n - (k + 1)) (by omega) (k + 1) false false rfl (by omega) (allN_sF (p := isNb ch) (Or.inr (decide_eq_false (by omega)))).symm (allN_sF (p := isSg ch) (Or.inl (by rw [← h2]; exact hb17))).symm)
                  · refine me1 (pc' := 91) (L' := [(4, ii 0), (0, .ref 102), (1, ii ((base : Nat) : Int)), (2, ii place), (3, ii ((n : Nat) : Int)), (5, zz c2), (6, ii (k : Int))]) (S' := [.ref 102]) dm_X12_gathered_90 rfl rfl rfl rfl ?_
                    refine me1 (pc' := 92) (L' := [(4, ii 0), (0, .ref 102), (1, ii ((base : Nat) : Int)), (2, ii place), (3, ii ((n : Nat) : Int)), (5, zz c2), (6, ii (k : Int))]) (S' := [.ref 102, .ref 102]) dm_X12_gathered_91 rfl rfl rfl rfl ?_
                    refine me3 (pc' := 95) (S' := [.ref (102 + 4), .ref 102]) dm_X12_gathered_92 (q_getr hm rfl (fun m i l => rg_12 m i l)) rfl rfl rfl ?_
                    refine me1 (pc' := 96) (L' := [(4, ii 0), (0, .ref 102), (1, ii ((base : Nat) : Int)), (2, ii place), (3, ii ((n : Nat) : Int)), (5, zz c2), (6, ii (k : Int))]) (S' := [ii ((base : Nat) : Int), .ref (102 + 4), .ref 102]) dm_X12_gathered_95 rfl rfl rfl rfl ?_
                    refine me1 (pc' := 98) (L' := [(4, ii 0), (0, .ref 102), (1, ii ((base : Nat) : Int)), (2, ii place), (3, ii ((n : Nat) : Int)), (5, zz c2), (6, ii (k : Int))]) (S' := [ii (k : Int), ii ((base : Nat) : Int), .ref (102 + 4), .ref 102]) dm_X12_gathered_96 rfl rfl rfl rfl ?_
                    refine y_iadd (a := ((base : Nat) : Int)) (b := (k : Int)) dm_X12_gathered_98 (pc' := 99) rfl ?_
                    refine pg_st (S' := [ii ((base + k : Nat) : Int), .ref (102 + 4), .ref 102]) (congrArg (fun z => ii z :: [.ref (102 + 4), .ref 102]) (by omega)) ?_
                    refine me3 (pc' := 100) (S' := [ii ((s2.2.2.1 12) (base + k)), .ref 102]) dm_X12_gathered_99 (q_iald (v := (s2.2.2.1 12) (base + k)) (k := 12) (n := 8192) hm (fun m i l I J => rc_12 m i l I J) (by omega) (by omega) (by decide) rfl) rfl rfl rfl ?_
                    obtain ⟨p100, hp100, hpe100, hpv100⟩ := hch2 k (by omega)
                    have hpk100 := (rv_wf hpv100).1.1
                    refine pg_st (S' := [ii (p100 : Int), .ref 102]) (congrArg (fun z => ii z :: [.ref 102]) (hpe100)) ?_
                    refine x_cp (pc' := 103) (v := ii (vk (ch k) : Int)) (rest := []) dm_X12_gathered_100 rfl (q_inv (As := [ii (p100 : Int)]) (S := []) hm rfl rfl rfl) rfl rfl rfl (r_kindOf_ hm (by omega) hB2 hpv100) ?_
                    refine me0 (pc' := 104) (S' := [ii 1, ii (vk (ch k) : Int)]) dm_X12_gathered_103 rfl rfl rfl rfl ?_
                    refine y_2ne (a := (vk (ch k) : Int)) (b := 1) (t := 111) (pc' := 107) dm_X12_gathered_104 rfl rfl (by omega) (fun hb18 => ?_) (fun hb18 => ?_)
                    · refine me0 (pc' := 112) (S' := [ii 0]) dm_X12_gathered_111 rfl rfl rfl rfl ?_
                      refine me1 (pc' := 114) (L' := [(5, ii 0), (4, ii 0), (0, .ref 102), (1, ii ((base : Nat) : Int)), (2, ii place), (3, ii ((n : Nat) : Int)), (6, ii (k : Int))]) (S' := []) dm_X12_gathered_112 rfl rfl rfl rfl ?_
                      refine y_iinc (pc' := 117) (L' := [(6, ii ((k : Int) + 1)), (5, ii 0), (4, ii 0), (0, .ref 102), (1, ii ((base : Nat) : Int)), (2, ii place), (3, ii ((n : Nat) : Int))]) dm_X12_gathered_114 (y_incp (a := (k : Int)) (c := 1) rfl rfl (by decide)) rfl ?_
                      refine me2 (pc' := 51) (S' := []) dm_X12_gathered_117 rfl rfl rfl ?_
                      exact pg_sub (L := [(0, .ref 102), (1, ii ((base : Nat) : Int)), (2, ii place), (3, ii ((n : Nat) : Int)), (4, zz false), (5, zz false), (6, ii ((k + 1) : Int))]) rfl rfl rfl (ih51 (n - (k + 1)) (by omega) (k + 1) false false rfl (by omega) (allN_sF (p := isNb ch) (Or.inr (decide_eq_false (by omega)))).symm (allN_sF (p := isSg ch) (Or.inr (decide_eq_false (by omega)))).symm)
                    · refine me0 (pc' := 108) (S' := [ii 1]) dm_X12_gathered_107 rfl rfl rfl rfl ?_
                      refine me2 (pc' := 112) (S' := [ii 1]) dm_X12_gathered_108 rfl rfl rfl ?_
                      refine me1 (pc' := 114) (L' := [(5, ii 1), (4, ii 0), (0, .ref 102), (1, ii ((base : Nat) : Int)), (2, ii place), (3, ii ((n : Nat) : Int)), (6, ii (k : Int))]) (S' := []) dm_X12_gathered_112 rfl rfl rfl rfl ?_
                      refine y_iinc (pc' := 117) (L' := [(6, ii ((k : Int) + 1)), (5, ii 1), (4, ii 0), (0, .ref 102), (1, ii ((base : Nat) : Int)), (2, ii place), (3, ii ((n : Nat) : Int))]) dm_X12_gathered_114 (y_incp (a := (k : Int)) (c := 1) rfl rfl (by decide)) rfl ?_
                      refine me2 (pc' := 51) (S' := []) dm_X12_gathered_117 rfl rfl rfl ?_
                      exact pg_sub (L := [(0, .ref 102), (1, ii ((base : Nat) : Int)), (2, ii place), (3, ii ((n : Nat) : Int)), (4, zz false), (5, zz true), (6, ii ((k + 1) : Int))]) rfl rfl rfl (ih51 (n - (k + 1)) (by omega) (k + 1) false true rfl (by omega) (allN_sF (p := isNb ch) (Or.inr (decide_eq_false (by omega)))).symm (allN_sT (p := isSg ch) (by rw [← h2]; exact hb17) (decide_eq_true (by omega))).symm)
                · refine me0 (pc' := 79) (S' := [ii 1]) dm_X12_gathered_78 rfl rfl rfl rfl ?_
                  refine me2 (pc' := 83) (S' := [ii 1]) dm_X12_gathered_79 rfl rfl rfl ?_
                  refine me1 (pc' := 85) (L' := [(4, ii 1), (0, .ref 102), (1, ii ((base : Nat) : Int)), (2, ii place), (3, ii ((n : Nat) : Int)), (5, zz c2), (6, ii (k : Int))]) (S' := []) dm_X12_gathered_83 rfl rfl rfl rfl ?_
                  refine me1 (pc' := 87) (L' := [(4, ii 1), (0, .ref 102), (1, ii ((base : Nat) : Int)), (2, ii place), (3, ii ((n : Nat) : Int)), (5, zz c2), (6, ii (k : Int))]) (S' := [zz c2]) dm_X12_gathered_85 rfl rfl rfl rfl ?_
                  refine y_zeq (c := c2) (t := 111) (pc' := 90) dm_X12_gathered_87 rfl rfl (fun hb19 => ?_) (fun hb19 => ?_)
                  · refine me0 (pc' := 112) (S' := [ii 0]) dm_X12_gathered_111 rfl rfl rfl rfl ?_
                    refine me1 (pc' := 114) (L' := [(5, ii 0), (4, ii 1), (0, .ref 102), (1, ii ((base : Nat) : Int)), (2, ii place), (3, ii ((n : Nat) : Int)), (6, ii (k : Int))]) (S' := []) dm_X12_gathered_112 rfl rfl rfl rfl ?_
                    refine y_iinc (pc' := 117) (L' := [(6, ii ((k : Int) + 1)), (5, ii 0), (4, ii 1), (0, .ref 102), (1, ii ((base : Nat) : Int)), (2, ii place), (3, ii ((n : Nat) : Int))]) dm_X12_gathered_114 (y_incp (a := (k : Int)) (c := 1) rfl rfl (by decide)) rfl ?_
                    refine me2 (pc' := 51) (S' := []) dm_X12_gathered_117 rfl rfl rfl ?_
                    exact pg_sub (L := [(0, .ref 102), (1, ii ((base : Nat) : Int)), (2, ii place), (3, ii ((n : Nat) : Int)), (4, zz true), (5, zz false), (6, ii ((k + 1) : Int))]) rfl rfl rfl (ih51 (n - (k + 1)) (by omega) (k + 1) true false rfl (by omega) (allN_sT (p := isNb ch) (by rw [← h1]; exact hb13) (decide_eq_true (by omega))).symm (allN_sF (p := isSg ch) (Or.inl (by rw [← h2]; exact hb19))).symm)
                  · refine me1 (pc' := 91) (L' := [(4, ii 1), (0, .ref 102), (1, ii ((base : Nat) : Int)), (2, ii place), (3, ii ((n : Nat) : Int)), (5, zz c2), (6, ii (k : Int))]) (S' := [.ref 102]) dm_X12_gathered_90 rfl rfl rfl rfl ?_
                    refine me1 (pc' := 92) (L' := [(4, ii 1), (0, .ref 102), (1, ii ((base : Nat) : Int)), (2, ii place), (3, ii ((n : Nat) : Int)), (5, zz c2), (6, ii (k : Int))]) (S' := [.ref 102, .ref 102]) dm_X12_gathered_91 rfl rfl rfl rfl ?_
                    refine me3 (pc' := 95) (S' := [.ref (102 + 4), .ref 102]) dm_X12_gathered_92 (q_getr hm rfl (fun m i l => rg_12 m i l)) rfl rfl rfl ?_
                    refine me1 (pc' := 96) (L' := [(4, ii 1), (0, .ref 102), (1, ii ((base : Nat) : Int)), (2, ii place), (3, ii ((n : Nat) : Int)), (5, zz c2), (6, ii (k : Int))]) (S' := [ii ((base : Nat) : Int), .ref (102 + 4), .ref 102]) dm_X12_gathered_95 rfl rfl rfl rfl ?_
                    refine me1 (pc' := 98) (L' := [(4, ii 1), (0, .ref 102), (1, ii ((base : Nat) : Int)), (2, ii place), (3, ii ((n : Nat) : Int)), (5, zz c2), (6, ii (k : Int))]) (S' := [ii (k : Int), ii ((base : Nat) : Int), .ref (102 + 4), .ref 102]) dm_X12_gathered_96 rfl rfl rfl rfl ?_
                    refine y_iadd (a := ((base : Nat) : Int)) (b := (k : Int)) dm_X12_gathered_98 (pc' := 99) rfl ?_
                    refine pg_st (S' := [ii ((base + k : Nat) : Int), .ref (102 + 4), .ref 102]) (congrArg (fun z => ii z :: [.ref (102 + 4), .ref 102]) (by omega)) ?_
                    refine me3 (pc' := 100) (S' := [ii ((s2.2.2.1 12) (base + k)), .ref 102]) dm_X12_gathered_99 (q_iald (v := (s2.2.2.1 12) (base + k)) (k := 12) (n := 8192) hm (fun m i l I J => rc_12 m i l I J) (by omega) (by omega) (by decide) rfl) rfl rfl rfl ?_
                    obtain ⟨p100, hp100, hpe100, hpv100⟩ := hch2 k (by omega)
                    have hpk100 := (rv_wf hpv100).1.1
                    refine pg_st (S' := [ii (p100 : Int), .ref 102]) (congrArg (fun z => ii z :: [.ref 102]) (hpe100)) ?_
                    refine x_cp (pc' := 103) (v := ii (vk (ch k) : Int)) (rest := []) dm_X12_gathered_100 rfl (q_inv (As := [ii (p100 : Int)]) (S := []) hm rfl rfl rfl) rfl rfl rfl (r_kindOf_ hm (by omega) hB2 hpv100) ?_
                    refine me0 (pc' := 104) (S' := [ii 1, ii (vk (ch k) : Int)]) dm_X12_gathered_103 rfl rfl rfl rfl ?_
                    refine y_2ne (a := (vk (ch k) : Int)) (b := 1) (t := 111) (pc' := 107) dm_X12_gathered_104 rfl rfl (by omega) (fun hb20 => ?_) (fun hb20 => ?_)
                    · refine me0 (pc' := 112) (S' := [ii 0]) dm_X12_gathered_111 rfl rfl rfl rfl ?_
                      refine me1 (pc' := 114) (L' := [(5, ii 0), (4, ii 1), (0, .ref 102), (1, ii ((base : Nat) : Int)), (2, ii place), (3, ii ((n : Nat) : Int)), (6, ii (k : Int))]) (S' := []) dm_X12_gathered_112 rfl rfl rfl rfl ?_
                      refine y_iinc (pc' := 117) (L' := [(6, ii ((k : Int) + 1)), (5, ii 0), (4, ii 1), (0, .ref 102), (1, ii ((base : Nat) : Int)), (2, ii place), (3, ii ((n : Nat) : Int))]) dm_X12_gathered_114 (y_incp (a := (k : Int)) (c := 1) rfl rfl (by decide)) rfl ?_
                      refine me2 (pc' := 51) (S' := []) dm_X12_gathered_117 rfl rfl rfl ?_
                      exact pg_sub (L := [(0, .ref 102), (1, ii ((base : Nat) : Int)), (2, ii place), (3, ii ((n : Nat) : Int)), (4, zz true), (5, zz false), (6, ii ((k + 1) : Int))]) rfl rfl rfl (ih51 (n - (k + 1)) (by omega) (k + 1) true false rfl (by omega) (allN_sT (p := isNb ch) (by rw [← h1]; exact hb13) (decide_eq_true (by omega))).symm (allN_sF (p := isSg ch) (Or.inr (decide_eq_false (by omega)))).symm)
                    · refine me0 (pc' := 108) (S' := [ii 1]) dm_X12_gathered_107 rfl rfl rfl rfl ?_
                      refine me2 (pc' := 112) (S' := [ii 1]) dm_X12_gathered_108 rfl rfl rfl ?_
                      refine me1 (pc' := 114) (L' := [(5, ii 1), (4, ii 1), (0, .ref 102), (1, ii ((base : Nat) : Int)), (2, ii place), (3, ii ((n : Nat) : Int)), (6, ii (k : Int))]) (S' := []) dm_X12_gathered_112 rfl rfl rfl rfl ?_
                      refine y_iinc (pc' := 117) (L' := [(6, ii ((k : Int) + 1)), (5, ii 1), (4, ii 1), (0, .ref 102), (1, ii ((base : Nat) : Int)), (2, ii place), (3, ii ((n : Nat) : Int))]) dm_X12_gathered_114 (y_incp (a := (k : Int)) (c := 1) rfl rfl (by decide)) rfl ?_
                      refine me2 (pc' := 51) (S' := []) dm_X12_gathered_117 rfl rfl rfl ?_
                      exact pg_sub (L := [(0, .ref 102), (1, ii ((base : Nat) : Int)), (2, ii place), (3, ii ((n : Nat) : Int)), (4, zz true), (5, zz true), (6, ii ((k + 1) : Int))]) rfl rfl rfl (ih51 (n - (k + 1)) (by omega) (k + 1) true true rfl (by omega) (allN_sT (p := isNb ch) (by rw [← h1]; exact hb13) (decide_eq_true (by omega))).symm (allN_sT (p := isSg ch) (by rw [← h2]; exact hb19) (decide_eq_true (by omega))).symm)
        exact pg_sub (L := [(0, .ref 102), (1, ii ((base : Nat) : Int)), (2, ii place), (3, ii ((n : Nat) : Int)), (4, zz true), (5, zz true), (6, ii (0 : Int))]) rfl rfl rfl (lp51 _ 0 true true rfl (Nat.zero_le _) rfl rfl)
  · exfalso; omega
theorem dm_X12_gathered_136 : mj_dec prog_14_method_28_code 136 = some (.bipush 24, 2) := by decide +kernel
theorem dm_X12_gathered_168 : mj_dec prog_14_method_28_code 168 = some (.bipush 7, 2) := by decide +kernel
theorem dm_X12_gathered_226 : mj_dec prog_14_method_28_code 226 = some (.aload_n 0, 1) := by decide +kernel
theorem dm_X12_gathered_227 : mj_dec prog_14_method_28_code 227 = some (.getfield 30, 3) := by decide +kernel
theorem dm_X12_gathered_230 : mj_dec prog_14_method_28_code 230 = some (.iload_n 1, 1) := by decide +kernel
theorem dm_X12_gathered_231 : mj_dec prog_14_method_28_code 231 = some (.iload 7, 2) := by decide +kernel
theorem dm_X12_gathered_233 : mj_dec prog_14_method_28_code 233 = some (.iadd, 1) := by decide +kernel
theorem dm_X12_gathered_234 : mj_dec prog_14_method_28_code 234 = some (.iaload, 1) := by decide +kernel
theorem dm_X12_gathered_235 : mj_dec prog_14_method_28_code 235 = some (.i2l, 1) := by decide +kernel
theorem r_gathV {xt : mj_X} {d q b n base W : Nat} {pre post : mj_H} {s : RS} {place nd : Int} {ch : Nat → VV} (hm : pre.length = 102) (hd1 : 42 ≤ d) (hB : rB s) (hq : s.1 4 = (q : Int)) (hb : s.1 3 = (b : Int)) (hq3 : 3 ≤ q) (hV2 : q + 10 < 310000) (hca : 0 ≤ s.1 10 ∧ s.1 10 ≤ 100) (hC : b + 300 ≤ 820000) (hw13 : s.1 13 = ((base + n : Nat) : Int)) (hbn : base + n ≤ 8192) (he0 : s.1 5 = 0) (h8 : s.1 8 = (W : Int)) (hW : W ≤ 500000) (hnd : 0 ≤ nd) (hch : ∀ k, k < n → ∃ p : Nat, 3 ≤ p ∧ s.2.2.1 12 (base + k) = (p : Int) ∧ rv s 7 p (ch k)) (hS1 : ∀ k, k < n → vsz 7 (ch k) ≤ 1000) (hn : n ≤ 300) (hn0 : 0 < n) (hN : allN n (isNb ch) = false) (hS : allN n (isSg ch) = false) : pgV xt d 244 [.ref 102, ii ((base : Nat) : Int), ii place] (rS pre post s) (dres pre post (gaB s base) W (7 + 3 * (n : Int)) nd (dGa (cpS s) W n ch place)) := by
  have hB0 := hB
  obtain ⟨hB1, hB2_, hB3, hB4⟩ := hB
  have hBg : rB (gaB s base) := by unfold rB; rw [gaB_k (by decide), gaB_k (by decide)]; exact hB0
  refine x_enter pm_X12_gathered (L0 := [(0, .ref 102), (1, ii ((base : Nat) : Int)), (2, ii place)]) rfl (Nat.le_of_ble_eq_true rfl) (by omega) ?_
  refine me1 (pc' := 1) (L' := [(0, .ref 102), (1, ii ((base : Nat) : Int)), (2, ii place)]) (S' := [.ref 102]) dm_X12_gathered_0 rfl rfl rfl rfl ?_
  refine me3 (pc' := 4) (S' := [ii (s.1 13)]) dm_X12_gathered_1 (q_geti (v := s.1 13) hm rfl (fun m i l => rg_13 m i l) rfl) rfl rfl rfl ?_
  refine me1 (pc' := 5) (L' := [(0, .ref 102), (1, ii ((base : Nat) : Int)), (2, ii place)]) (S' := [ii ((base : Nat) : Int), ii (s.1 13)]) dm_X12_gathered_4 rfl rfl rfl rfl ?_
  refine y_isub (a := s.1 13) (b := ((base : Nat) : Int)) dm_X12_gathered_5 (pc' := 6) rfl ?_
  refine pg_st (S' := [ii ((n : Nat) : Int)]) (congrArg (fun z => ii z :: []) (by rw [hw13]; omega)) ?_
  refine me1 (pc' := 7) (L' := [(3, ii ((n : Nat) : Int)), (0, .ref 102), (1, ii ((base : Nat) : Int)), (2, ii place)]) (S' := []) dm_X12_gathered_6 rfl rfl rfl rfl ?_
  refine me1 (pc' := 8) (L' := [(3, ii ((n : Nat) : Int)), (0, .ref 102), (1, ii ((base : Nat) : Int)), (2, ii place)]) (S' := [.ref 102]) dm_X12_gathered_7 rfl rfl rfl rfl ?_
  refine me1 (pc' := 9) (L' := [(3, ii ((n : Nat) : Int)), (0, .ref 102), (1, ii ((base : Nat) : Int)), (2, ii place)]) (S' := [ii ((base : Nat) : Int), .ref 102]) dm_X12_gathered_8 rfl rfl rfl rfl ?_
  refine me3 (pc' := 12) (S' := []) (h1 := rI pre post (va_up s.1 13 ((base : Nat) : Int)) s.2.1 s.2.2.1 s.2.2.2) dm_X12_gathered_9 (q_puti hm rfl rfl (fun m i l v => rf_13 m i l v)) rfl rfl rfl ?_
  refine me1 (pc' := 13) (L' := [(3, ii ((n : Nat) : Int)), (0, .ref 102), (1, ii ((base : Nat) : Int)), (2, ii place)]) (S' := [.ref 102]) dm_X12_gathered_12 rfl rfl rfl rfl ?_
  refine me0 (pc' := 14) (S' := [ii 3, .ref 102]) dm_X12_gathered_13 rfl rfl rfl rfl ?_
  refine me3 (pc' := 17) (S' := []) (h1 := rI pre post (va_up (va_up s.1 13 ((base : Nat) : Int)) 9 3) s.2.1 s.2.2.1 s.2.2.2) dm_X12_gathered_14 (q_puti hm rfl rfl (fun m i l v => rf_9 m i l v)) rfl rfl rfl ?_
  obtain ⟨s2, hs2⟩ : ∃ s2 : RS, s2 = (va_up (va_up s.1 13 ((base : Nat) : Int)) 9 3, s.2.1, s.2.2.1, s.2.2.2) := ⟨_, rfl⟩
  have hT := ga_tkd (W := W) hs2 he0 h8
  have hk2 : ∀ k, k ≠ 13 → k ≠ 9 → s2.1 k = s.1 k := fun k a c => by rw [hs2]; show va_up (va_up s.1 13 ((base : Nat) : Int)) 9 3 k = _; rw [up_ne _ _ c, up_ne _ _ a]
  have hqS : s2.1 4 = (q : Int) := (hk2 4 (by decide) (by decide)).trans hq
  have hbS : s2.1 3 = (b : Int) := (hk2 3 (by decide) (by decide)).trans hb
  have heS : s2.1 5 = 0 := (hk2 5 (by decide) (by decide)).trans he0
  have hca2 : 0 ≤ s2.1 10 ∧ s2.1 10 ≤ 100 := by rw [hk2 10 (by decide) (by decide)]; exact hca
  have hx2 : rext s s2 := ⟨by omega, by omega, fun _ _ _ => by rw [hs2]; exact ⟨rfl, rfl⟩, fun _ _ => by rw [hs2]⟩
  have hB2 : rB s2 := ⟨by omega, by omega, by omega, by omega⟩
  have hch2 : ∀ k, k < n → ∃ p : Nat, 3 ≤ p ∧ s2.2.2.1 12 (base + k) = (p : Int) ∧ rv s2 7 p (ch k) := fun k hk => by obtain ⟨p, p1, p2, p3⟩ := hch k hk; exact ⟨p, p1, by rw [hs2]; exact p2, rv_ext hx2 p1 p3⟩
  refine pg_cast (h2 := rI pre post s2.1 s2.2.1 s2.2.2.1 s2.2.2.2) (by rw [hs2]) ?_
  refine me1 (pc' := 18) (L' := [(3, ii ((n : Nat) : Int)), (0, .ref 102), (1, ii ((base : Nat) : Int)), (2, ii place)]) (S' := [.ref 102]) dm_X12_gathered_17 rfl rfl rfl rfl ?_
  refine me3 (pc' := 21) (S' := [ii (s2.1 5)]) dm_X12_gathered_18 (q_geti (v := s2.1 5) hm rfl (fun m i l => rg_5 m i l) rfl) rfl rfl rfl ?_
  refine y_1le (a := s2.1 5) (t := 26) (pc' := 24) dm_X12_gathered_21 rfl rfl (by omega) (fun hb1 => ?_) (fun hb1 => ?_)
  · refine me1 (pc' := 27) (L' := [(3, ii ((n : Nat) : Int)), (0, .ref 102), (1, ii ((base : Nat) : Int)), (2, ii place)]) (S' := [ii ((n : Nat) : Int)]) dm_X12_gathered_26 rfl rfl rfl rfl ?_
    refine y_1le (a := ((n : Nat) : Int)) (t := 34) (pc' := 30) dm_X12_gathered_27 rfl rfl (by omega) (fun hb2 => ?_) (fun hb2 => ?_)
    · exfalso; omega
    · refine me0 (pc' := 31) (S' := [ii 1]) dm_X12_gathered_30 rfl rfl rfl rfl ?_
      refine me2 (pc' := 35) (S' := [ii 1]) dm_X12_gathered_31 rfl rfl rfl ?_
      refine me1 (pc' := 37) (L' := [(4, ii 1), (3, ii ((n : Nat) : Int)), (0, .ref 102), (1, ii ((base : Nat) : Int)), (2, ii place)]) (S' := []) dm_X12_gathered_35 rfl rfl rfl rfl ?_
      refine me1 (pc' := 38) (L' := [(4, ii 1), (3, ii ((n : Nat) : Int)), (0, .ref 102), (1, ii ((base : Nat) : Int)), (2, ii place)]) (S' := [ii ((n : Nat) : Int)]) dm_X12_gathered_37 rfl rfl rfl rfl ?_
      refine y_1le (a := ((n : Nat) : Int)) (t := 45) (pc' := 41) dm_X12_gathered_38 rfl rfl (by omega) (fun hb3 => ?_) (fun hb3 => ?_)
      · exfalso; omega
      · refine me0 (pc' := 42) (S' := [ii 1]) dm_X12_gathered_41 rfl rfl rfl rfl ?_
        refine me2 (pc' := 46) (S' := [ii 1]) dm_X12_gathered_42 rfl rfl rfl ?_
        refine me1 (pc' := 48) (L' := [(5, ii 1), (4, ii 1), (3, ii ((n : Nat) : Int)), (0, .ref 102), (1, ii ((base : Nat) : Int)), (2, ii place)]) (S' := []) dm_X12_gathered_46 rfl rfl rfl rfl ?_
        refine me0 (pc' := 49) (S' := [ii 0]) dm_X12_gathered_48 rfl rfl rfl rfl ?_
        refine me1 (pc' := 51) (L' := [(6, ii 0), (5, ii 1), (4, ii 1), (3, ii ((n : Nat) : Int)), (0, .ref 102), (1, ii ((base : Nat) : Int)), (2, ii place)]) (S' := []) dm_X12_gathered_49 rfl rfl rfl rfl ?_
        have lp51 : ∀ (n51 : Nat) (k : Nat) (c1 : Bool) (c2 : Bool), n - k = n51 → (k ≤ n) → (c1 = allN k (isNb ch)) → (c2 = allN k (isSg ch)) → pgE xt (d - 1) 12 8 false (Option.some Jvm.ClassFile.FieldType.int) (mj_dec prog_14_method_28_code) 51 [(0, .ref 102), (1, ii ((base : Nat) : Int)), (2, ii place), (3, ii ((n : Nat) : Int)), (4, zz c1), (5, zz c2), (6, ii (k : Int))] [] (rI pre post s2.1 s2.2.1 s2.2.2.1 s2.2.2.2) (fun r h' => ∃ x, r = some x ∧ dres pre post (gaB s base) W (7 + 3 * (n : Int)) nd (dGa (cpS s) W n ch place) x h') := by
          intro n51
          induction n51 using Nat.strongRecOn with
          | ind n51 ih51 =>
            intro k c1 c2 hm51 hk h1 h2
            refine me1 (pc' := 53) (L' := [(0, .ref 102), (1, ii ((base : Nat) : Int)), (2, ii place), (3, ii ((n : Nat) : Int)), (4, zz c1), (5, zz c2), (6, ii (k : Int))]) (S' := [ii (k : Int)]) dm_X12_gathered_51 rfl rfl rfl rfl ?_
            refine me1 (pc' := 54) (L' := [(0, .ref 102), (1, ii ((base : Nat) : Int)), (2, ii place), (3, ii ((n : Nat) : Int)), (4, zz c1), (5, zz c2), (6, ii (k : Int))]) (S' := [ii ((n : Nat) : Int), ii (k : Int)]) dm_X12_gathered_53 rfl rfl rfl rfl ?_
            refine y_2ge (a := (k : Int)) (b := ((n : Nat) : Int)) (t := 120) (pc' := 57) dm_X12_gathered_54 rfl rfl (by omega) (fun hb4 => ?_) (fun hb4 => ?_)
            · have hkn : k = n := by omega
              rw [hkn] at h1 h2
              have hc1 : c1 = false := h1.trans hN
              have hc2 : c2 = false := h2.trans hS
              clear h1 h2
              refine me1 (pc' := 121) (L' := [(0, .ref 102), (1, ii ((base : Nat) : Int)), (2, ii place), (3, ii ((n : Nat) : Int)), (4, zz c1), (5, zz c2), (6, ii (k : Int))]) (S' := [ii ((n : Nat) : Int)]) dm_X12_gathered_120 rfl rfl rfl rfl ?_
              refine me1 (pc' := 123) (L' := [(0, .ref 102), (1, ii ((base : Nat) : Int)), (2, ii place), (3, ii ((n : Nat) : Int)), (4, zz c1), (5, zz c2), (6, ii (k : Int))]) (S' := [zz c1, ii ((n : Nat) : Int)]) dm_X12_gathered_121 rfl rfl rfl rfl ?_
              refine y_zne (c := c1) (t := 131) (pc' := 126) dm_X12_gathered_123 rfl rfl (fun hb5 => ?_) (fun hb5 => ?_)
              · exact absurd hb5 (by rw [hc1]; decide)
              · refine me1 (pc' := 128) (L' := [(0, .ref 102), (1, ii ((base : Nat) : Int)), (2, ii place), (3, ii ((n : Nat) : Int)), (4, zz c1), (5, zz c2), (6, ii (k : Int))]) (S' := [zz c2, ii ((n : Nat) : Int)]) dm_X12_gathered_126 rfl rfl rfl rfl ?_
                refine y_zeq (c := c2) (t := 136) (pc' := 131) dm_X12_gathered_128 rfl rfl (fun hb6 => ?_) (fun hb6 => ?_)
                · refine me0 (pc' := 138) (S' := [ii 24, ii ((n : Nat) : Int)]) dm_X12_gathered_136 rfl rfl rfl rfl ?_
                  refine y_2le (a := ((n : Nat) : Int)) (b := 24) (t := 149) (pc' := 141) dm_X12_gathered_138 rfl rfl (by omega) (fun hb7 => ?_) (fun hb7 => ?_)
                  · refine me1 (pc' := 150) (L' := [(0, .ref 102), (1, ii ((base : Nat) : Int)), (2, ii place), (3, ii ((n : Nat) : Int)), (4, zz c1), (5, zz c2), (6, ii (k : Int))]) (S' := [.ref 102]) dm_X12_gathered_149 rfl rfl rfl rfl ?_
                    refine me1 (pc' := 152) (L' := [(0, .ref 102), (1, ii ((base : Nat) : Int)), (2, ii place), (3, ii ((n : Nat) : Int)), (4, zz c1), (5, zz c2), (6, ii (k : Int))]) (S' := [zz c2, .ref 102]) dm_X12_gathered_150 rfl rfl rfl rfl ?_
                    refine y_zeq (c := c2) (t := 159) (pc' := 155) dm_X12_gathered_152 rfl rfl (fun hb8 => ?_) (fun hb8 => ?_)
                    · refine me1 (pc' := 161) (L' := [(0, .ref 102), (1, ii ((base : Nat) : Int)), (2, ii place), (3, ii ((n : Nat) : Int)), (4, zz c1), (5, zz c2), (6, ii (k : Int))]) (S' := [zz c1, .ref 102]) dm_X12_gathered_159 rfl rfl rfl rfl ?_
                      refine y_zeq (c := c1) (t := 168) (pc' := 164) dm_X12_gathered_161 rfl rfl (fun hb9 => ?_) (fun hb9 => ?_)
                      · refine me0 (pc' := 170) (S' := [ii 7, .ref 102]) dm_X12_gathered_168 rfl rfl rfl rfl ?_
                        refine me1 (pc' := 171) (L' := [(0, .ref 102), (1, ii ((base : Nat) : Int)), (2, ii place), (3, ii ((n : Nat) : Int)), (4, zz c1), (5, zz c2), (6, ii (k : Int))]) (S' := [ii ((n : Nat) : Int), ii 7, .ref 102]) dm_X12_gathered_170 rfl rfl rfl rfl ?_
                        refine x_cv (pc' := 174) (rest := []) dm_X12_gathered_171 rfl (q_inv (As := [ii 7, ii ((n : Nat) : Int)]) (S := []) hm rfl rfl rfl) rfl rfl rfl (r_row_ (q := q) (b := b) (s := s2) hm (by omega) hqS hbS (by omega) (by omega) (by omega)) ?_
                        rintro _ _ ⟨rfl, rfl⟩
                        refine me1 (pc' := 176) (L' := [(6, ii (q : Int)), (0, .ref 102), (1, ii ((base : Nat) : Int)), (2, ii place), (3, ii ((n : Nat) : Int)), (4, zz c1), (5, zz c2)]) (S' := []) dm_X12_gathered_174 rfl rfl rfl rfl ?_
                        refine me0 (pc' := 177) (S' := [ii 0]) dm_X12_gathered_176 rfl rfl rfl rfl ?_
                        refine me1 (pc' := 179) (L' := [(7, ii 0), (6, ii (q : Int)), (0, .ref 102), (1, ii ((base : Nat) : Int)), (2, ii place), (3, ii ((n : Nat) : Int)), (4, zz c1), (5, zz c2)]) (S' := []) dm_X12_gathered_177 rfl rfl rfl rfl ?_
                        have lp179 : ∀ (n179 : Nat) (k : Nat), n - k = n179 → (k ≤ n) → pgE xt (d - 1) 12 8 false (Option.some Jvm.ClassFile.FieldType.int) (mj_dec prog_14_method_28_code) 179 [(0, .ref 102), (1, ii ((base : Nat) : Int)), (2, ii place), (3, ii ((n : Nat) : Int)), (4, zz c1), (5, zz c2), (6, ii (q : Int)), (7, ii (k : Int))] [] (rI pre post ((fillS (rowS s2 q b 7 ((n : Nat) : Int)) b k (fun k => Int64.ofInt (s2.2.2.1 12 (base + k)))).1) ((fillS (rowS s2 q b 7 ((n : Nat) : Int)) b k (fun k => Int64.ofInt (s2.2.2.1 12 (base + k)))).2.1) ((fillS (rowS s2 q b 7 ((n : Nat) : Int)) b k (fun k => Int64.ofInt (s2.2.2.1 12 (base + k)))).2.2.1) ((fillS (rowS s2 q b 7 ((n : Nat) : Int)) b k (fun k => Int64.ofInt (s2.2.2.1 12 (base + k)))).2.2.2)) (fun r h' => ∃ x, r = some x ∧ dres pre post (gaB s base) W (7 + 3 * (n : Int)) nd (dGa (cpS s) W n ch place) x h') := by
                          intro n179
                          induction n179 using Nat.strongRecOn with
                          | ind n179 ih179 =>
                            intro k hm179 hk
                            refine me1 (pc' := 181) (L' := [(0, .ref 102), (1, ii ((base : Nat) : Int)), (2, ii place), (3, ii ((n : Nat) : Int)), (4, zz c1), (5, zz c2), (6, ii (q : Int)), (7, ii (k : Int))]) (S' := [ii (k : Int)]) dm_X12_gathered_179 rfl rfl rfl rfl ?_
                            refine me1 (pc' := 182) (L' := [(0, .ref 102), (1, ii ((base : Nat) : Int)), (2, ii place), (3, ii ((n : Nat) : Int)), (4, zz c1), (5, zz c2), (6, ii (q : Int)), (7, ii (k : Int))]) (S' := [ii ((n : Nat) : Int), ii (k : Int)]) dm_X12_gathered_181 rfl rfl rfl rfl ?_
                            refine y_2ge (a := (k : Int)) (b := ((n : Nat) : Int)) (t := 243) (pc' := 185) dm_X12_gathered_182 rfl rfl (by omega) (fun hb10 => ?_) (fun hb10 => ?_)
                            · have hkn2 : k = n := by omega
                              refine pg_cast (h2 := rI pre post ((fillS (rowS s2 q b 7 ((n : Nat) : Int)) b n (fun k => Int64.ofInt (s2.2.2.1 12 (base + k)))).1) ((fillS (rowS s2 q b 7 ((n : Nat) : Int)) b n (fun k => Int64.ofInt (s2.2.2.1 12 (base + k)))).2.1) ((fillS (rowS s2 q b 7 ((n : Nat) : Int)) b n (fun k => Int64.ofInt (s2.2.2.1 12 (base + k)))).2.2.1) ((fillS (rowS s2 q b 7 ((n : Nat) : Int)) b n (fun k => Int64.ofInt (s2.2.2.1 12 (base + k)))).2.2.2)) (by rw [hkn2]) ?_
                              refine me1 (pc' := 244) (L' := [(0, .ref 102), (1, ii ((base : Nat) : Int)), (2, ii place), (3, ii ((n : Nat) : Int)), (4, zz c1), (5, zz c2), (6, ii (q : Int)), (7, ii (k : Int))]) (S' := [.ref 102]) dm_X12_gathered_243 rfl rfl rfl rfl ?_
                              refine me1 (pc' := 246) (L' := [(0, .ref 102), (1, ii ((base : Nat) : Int)), (2, ii place), (3, ii ((n : Nat) : Int)), (4, zz c1), (5, zz c2), (6, ii (q : Int)), (7, ii (k : Int))]) (S' := [zz c1, .ref 102]) dm_X12_gathered_244 rfl rfl rfl rfl ?_
                              refine y_zeq (c := c1) (t := 258) (pc' := 249) dm_X12_gathered_246 rfl rfl (fun hb11 => ?_) (fun hb11 => ?_)
                              · refine me1 (pc' := 260) (L' := [(0, .ref 102), (1, ii ((base : Nat) : Int)), (2, ii place), (3, ii ((n : Nat) : Int)), (4, zz c1), (5, zz c2), (6, ii (q : Int)), (7, ii (k : Int))]) (S' := [ii (q : Int), .ref 102]) dm_X12_gathered_258 rfl rfl rfl rfl ?_
                                refine me1 (pc' := 261) (L' := [(0, .ref 102), (1, ii ((base : Nat) : Int)), (2, ii place), (3, ii ((n : Nat) : Int)), (4, zz c1), (5, zz c2), (6, ii (q : Int)), (7, ii (k : Int))]) (S' := [ii place, ii (q : Int), .ref 102]) dm_X12_gathered_260 rfl rfl rfl rfl ?_
                                have hG : rG pre post s2 8 (.inr (vnest n ch)) place n 1 (ii (q : Int)) (rS pre post (fillS (rowS s2 q b 7 ((n : Nat) : Int)) b n (fun k => Int64.ofInt (s2.2.2.1 12 (base + k))))) := rG_P (rresP_of (rres_nest (e := 7) (n := n) (ch := ch) hqS hq3 hbS heS (by omega) (fun k hk => by obtain ⟨p, p1, p2, p3⟩ := hch2 k hk; exact ⟨p, p1, by rw [p2], p3⟩) (Nat.le_refl _) (Nat.le_refl _)))
                                refine x_cv (pc' := 264) (rest := []) dm_X12_gathered_261 rfl (q_inv (As := [ii (q : Int), ii place]) (S := []) hm rfl rfl rfl) rfl rfl rfl (r_mdo (s := gaB s base) (s2 := s2) (W2 := W) (cost := 0) (p := 3) (C := n) (V := 1) (o := .inr (vnest n ch)) (c := 7 + 3 * (n : Int)) (nd := nd) hm (by omega) hT hBg hG (by rw [gaB_k (by decide)]; exact hca) (by omega) hW hnd (fun z hz => by cases hz) (fun v hv9 => by injection hv9 with hv9; rw [← hv9, ga_nest]; have := sumN_bd (n := n) (b := 1000) (f := fun k => vsz 7 (ch k)) hS1; have := Nat.mul_le_mul_right 1000 (show n ≤ 24 by omega); omega) (by omega) (by omega) (by rw [gaB_k (by decide), gaB_k (by decide)]; omega) (fun v hv9 _ _ => by injection hv9 with hv9; have z : vsz 7 (vnest n ch) = 1 + sumN n (fun k => vsz 6 (ch k)) := ga_nest 6; have y := sumN_ge (n := n) (f := fun k => vsz 6 (ch k)) (fun k _ => vsz_ge1); rw [← hv9]; omega)) ?_
                                rintro x9 g9 hfin
                                obtain ⟨z9, rfl⟩ := dres_ii hfin
                                obtain ⟨t9, rfl⟩ := dres_st hfin
                                refine y_ret (r := some (ii z9)) dm_X12_gathered_264 rfl rfl rfl ?_
                                refine ⟨_, rfl, ?_⟩
                                have e9 : dGa (cpS s) W n ch place = dMo (cpS (gaB s base)) W 3 (.inr (vnest n ch)) place := by unfold dGa; rw [gaV_v (Or.inr (fun z => by have := cnB_all z; rw [show allN n (isNb ch) = false from hN] at this; cases this)) (Or.inr (fun z => by have := cnB_all z; rw [show allN n (isSg ch) = false from hS] at this; cases this)) (by omega), cpS_ga]; rfl
                                rw [e9]
                                exact hfin
                              · exact absurd hb11 (by rw [hc1]; decide)
                            · refine me1 (pc' := 186) (L' := [(0, .ref 102), (1, ii ((base : Nat) : Int)), (2, ii place), (3, ii ((n : Nat) : Int)), (4, zz c1), (5, zz c2), (6, ii (q : Int)), (7, ii (k : Int))]) (S' := [.ref 102]) dm_X12_gathered_185 rfl rfl rfl rfl ?_
                              refine me3 (pc' := 189) (S' := [.ref (102 + 1)]) dm_X12_gathered_186 (q_getr hm rfl (fun m i l => rg_0 m i l)) rfl rfl rfl ?_
                              refine me1 (pc' := 190) (L' := [(0, .ref 102), (1, ii ((base : Nat) : Int)), (2, ii place), (3, ii ((n : Nat) : Int)), (4, zz c1), (5, zz c2), (6, ii (q : Int)), (7, ii (k : Int))]) (S' := [.ref 102, .ref (102 + 1)]) dm_X12_gathered_189 rfl rfl rfl rfl ?_
                              refine me3 (pc' := 193) (S' := [.ref (102 + 2), .ref (102 + 1)]) dm_X12_gathered_190 (q_getr hm rfl (fun m i l => rg_1 m i l)) rfl rfl rfl ?_
                              refine me1 (pc' := 195) (L' := [(0, .ref 102), (1, ii ((base : Nat) : Int)), (2, ii place), (3, ii ((n : Nat) : Int)), (4, zz c1), (5, zz c2), (6, ii (q : Int)), (7, ii (k : Int))]) (S' := [ii (q : Int), .ref (102 + 2), .ref (102 + 1)]) dm_X12_gathered_193 rfl rfl rfl rfl ?_
                              refine me3 (pc' := 196) (S' := [ii ((((fillS (rowS s2 q b 7 ((n : Nat) : Int)) b k (fun k => Int64.ofInt (s2.2.2.1 12 (base + k)))).2.2.1) 1) q), .ref (102 + 1)]) dm_X12_gathered_195 (q_iald (v := (((fillS (rowS s2 q b 7 ((n : Nat) : Int)) b k (fun k => Int64.ofInt (s2.2.2.1 12 (base + k)))).2.2.1) 1) q) (k := 1) (n := 310000) hm (fun m i l I J => rc_1 m i l I J) (by omega) (by omega) (by decide) rfl) rfl rfl rfl ?_
                              refine pg_st (S' := [ii (b : Int), .ref (102 + 1)]) (congrArg (fun z => ii z :: [.ref (102 + 1)]) (up_eq _ _ _)) ?_
                              refine me1 (pc' := 198) (L' := [(0, .ref 102), (1, ii ((base : Nat) : Int)), (2, ii place), (3, ii ((n : Nat) : Int)), (4, zz c1), (5, zz c2), (6, ii (q : Int)), (7, ii (k : Int))]) (S' := [ii (k : Int), ii (b : Int), .ref (102 + 1)]) dm_X12_gathered_196 rfl rfl rfl rfl ?_
                              refine y_iadd (a := (b : Int)) (b := (k : Int)) dm_X12_gathered_198 (pc' := 199) rfl ?_
                              refine me1 (pc' := 201) (L' := [(0, .ref 102), (1, ii ((base : Nat) : Int)), (2, ii place), (3, ii ((n : Nat) : Int)), (4, zz c1), (5, zz c2), (6, ii (q : Int)), (7, ii (k : Int))]) (S' := [zz c1, ii ((b : Int) + (k : Int)), .ref (102 + 1)]) dm_X12_gathered_199 rfl rfl rfl rfl ?_
                              refine y_zne (c := c1) (t := 209) (pc' := 204) dm_X12_gathered_201 rfl rfl (fun hb12 => ?_) (fun hb12 => ?_)
                              · exact absurd hb12 (by rw [hc1]; decide)
                              · refine me1 (pc' := 206) (L' := [(0, .ref 102), (1, ii ((base : Nat) : Int)), (2, ii place), (3, ii ((n : Nat) : Int)), (4, zz c1), (5, zz c2), (6, ii (q : Int)), (7, ii (k : Int))]) (S' := [zz c2, ii ((b : Int) + (k : Int)), .ref (102 + 1)]) dm_X12_gathered_204 rfl rfl rfl rfl ?_
                                refine y_zeq (c := c2) (t := 226) (pc' := 209) dm_X12_gathered_206 rfl rfl (fun hb13 => ?_) (fun hb13 => ?_)
                                · refine me1 (pc' := 227) (L' := [(0, .ref 102), (1, ii ((base : Nat) : Int)), (2, ii place), (3, ii ((n : Nat) : Int)), (4, zz c1), (5, zz c2), (6, ii (q : Int)), (7, ii (k : Int))]) (S' := [.ref 102, ii ((b : Int) + (k : Int)), .ref (102 + 1)]) dm_X12_gathered_226 rfl rfl rfl rfl ?_
                                  refine me3 (pc' := 230) (S' := [.ref (102 + 4), ii ((b : Int) + (k : Int)), .ref (102 + 1)]) dm_X12_gathered_227 (q_getr hm rfl (fun m i l => rg_12 m i l)) rfl rfl rfl ?_
                                  refine me1 (pc' := 231) (L' := [(0, .ref 102), (1, ii ((base : Nat) : Int)), (2, ii place), (3, ii ((n : Nat) : Int)), (4, zz c1), (5, zz c2), (6, ii (q : Int)), (7, ii (k : Int))]) (S' := [ii ((base : Nat) : Int), .ref (102 + 4), ii ((b : Int) + (k : Int)), .ref (102 + 1)]) dm_X12_gathered_230 rfl rfl rfl rfl ?_
                                  refine me1 (pc' := 233) (L' := [(0, .ref 102), (1, ii ((base : Nat) : Int)), (2, ii place), (3, ii ((n : Nat) : Int)), (4, zz c1), (5, zz c2), (6, ii (q : Int)), (7, ii (k : Int))]) (S' := [ii (k : Int), ii ((base : Nat) : Int), .ref (102 + 4), ii ((b : Int) + (k : Int)), .ref (102 + 1)]) dm_X12_gathered_231 rfl rfl rfl rfl ?_
                                  refine y_iadd (a := ((base : Nat) : Int)) (b := (k : Int)) dm_X12_gathered_233 (pc' := 234) rfl ?_
                                  refine pg_st (S' := [ii ((base + k : Nat) : Int), .ref (102 + 4), ii ((b : Int) + (k : Int)), .ref (102 + 1)]) (congrArg (fun z => ii z :: [.ref (102 + 4), ii ((b : Int) + (k : Int)), .ref (102 + 1)]) (by omega)) ?_
                                  refine me3 (pc' := 235) (S' := [ii ((((fillS (rowS s2 q b 7 ((n : Nat) : Int)) b k (fun k => Int64.ofInt (s2.2.2.1 12 (base + k)))).2.2.1) 12) (base + k)), ii ((b : Int) + (k : Int)), .ref (102 + 1)]) dm_X12_gathered_234 (q_iald (v := (((fillS (rowS s2 q b 7 ((n : Nat) : Int)) b k (fun k => Int64.ofInt (s2.2.2.1 12 (base + k)))).2.2.1) 12) (base + k)) (k := 12) (n := 8192) hm (fun m i l I J => rc_12 m i l I J) (by omega) (by omega) (by decide) rfl) rfl rfl rfl ?_
                                  obtain ⟨p235, hp235, hpe235, hpv235⟩ := hch2 k (by omega)
                                  have hlt235 := rv_lt hpv235
                                  have hrg : 0 ≤ s2.2.2.1 12 (base + k) ∧ s2.2.2.1 12 (base + k) ≤ 310000 := by omega
                                  refine pg_st (S' := [ii (s2.2.2.1 12 (base + k)), ii ((b : Int) + (k : Int)), .ref (102 + 1)]) (congrArg (fun z => ii z :: [ii ((b : Int) + (k : Int)), .ref (102 + 1)]) (rfl)) ?_
                                  refine y_i2l (a := s2.2.2.1 12 (base + k)) dm_X12_gathered_235 (pc' := 236) rfl (by omega) (by omega) ?_
                                  refine me3 (pc' := 237) (S' := []) (h1 := rI pre post ((fillS (rowS s2 q b 7 ((n : Nat) : Int)) b k (fun k => Int64.ofInt (s2.2.2.1 12 (base + k)))).1) ((fillS (rowS s2 q b 7 ((n : Nat) : Int)) b k (fun k => Int64.ofInt (s2.2.2.1 12 (base + k)))).2.1) ((fillS (rowS s2 q b 7 ((n : Nat) : Int)) b k (fun k => Int64.ofInt (s2.2.2.1 12 (base + k)))).2.2.1) (va_up ((fillS (rowS s2 q b 7 ((n : Nat) : Int)) b k (fun k => Int64.ofInt (s2.2.2.1 12 (base + k)))).2.2.2) 0 (va_up (((fillS (rowS s2 q b 7 ((n : Nat) : Int)) b k (fun k => Int64.ofInt (s2.2.2.1 12 (base + k)))).2.2.2) 0) (b + k) (Int64.ofInt (s2.2.2.1 12 (base + k)))))) dm_X12_gathered_236 (q_last (j := (b : Int) + (k : Int)) (k := 0) (n := 820000) hm (fun m i l I J => rc_0 m i l I J) (fun m i l I J f => rs_0 m i l I J f) (by omega) (by omega) (by decide)) rfl rfl rfl ?_
                                  refine y_iinc (pc' := 240) (L' := [(7, ii ((k : Int) + 1)), (0, .ref 102), (1, ii ((base : Nat) : Int)), (2, ii place), (3, ii ((n : Nat) : Int)), (4, zz c1), (5, zz c2), (6, ii (q : Int))]) dm_X12_gathered_237 (y_incp (a := (k : Int)) (c := 1) rfl rfl (by decide)) rfl ?_
                                  refine me2 (pc' := 179) (S' := []) dm_X12_gathered_240 rfl rfl rfl ?_
                                  refine pg_cast (h2 := rI pre post ((fillS (rowS s2 q b 7 ((n : Nat) : Int)) b (k + 1) (fun k => Int64.ofInt (s2.2.2.1 12 (base + k)))).1) ((fillS (rowS s2 q b 7 ((n : Nat) : Int)) b (k + 1) (fun k => Int64.ofInt (s2.2.2.1 12 (base + k)))).2.1) ((fillS (rowS s2 q b 7 ((n : Nat) : Int)) b (k + 1) (fun k => Int64.ofInt (s2.2.2.1 12 (base + k)))).2.2.1) ((fillS (rowS s2 q b 7 ((n : Nat) : Int)) b (k + 1) (fun k => Int64.ofInt (s2.2.2.1 12 (base + k)))).2.2.2)) (fill_s (rowS s2 q b 7 ((n : Nat) : Int)) b k (fun k => Int64.ofInt (s2.2.2.1 12 (base + k)))) ?_
                                  exact pg_sub (L := [(0, .ref 102), (1, ii ((base : Nat) : Int)), (2, ii place), (3, ii ((n : Nat) : Int)), (4, zz c1), (5, zz c2), (6, ii (q : Int)), (7, ii ((k + 1) : Int))]) rfl rfl rfl (ih179 (n - (k + 1)) (by omega) (k + 1) rfl (by omega))
                                · exact absurd hb13 (by rw [hc2]; decide)
                        refine pg_cast (h2 := rI pre post ((fillS (rowS s2 q b 7 ((n : Nat) : Int)) b 0 (fun k => Int64.ofInt (s2.2.2.1 12 (base + k)))).1) ((fillS (rowS s2 q b 7 ((n : Nat) : Int)) b 0 (fun k => Int64.ofInt (s2.2.2.1 12 (base + k)))).2.1) ((fillS (rowS s2 q b 7 ((n : Nat) : Int)) b 0 (fun k => Int64.ofInt (s2.2.2.1 12 (base + k)))).2.2.1) ((fillS (rowS s2 q b 7 ((n : Nat) : Int)) b 0 (fun k => Int64.ofInt (s2.2.2.1 12 (base + k)))).2.2.2)) (fill_0 (rowS s2 q b 7 ((n : Nat) : Int)) b (fun k => Int64.ofInt (s2.2.2.1 12 (base + k)))) ?_
                        exact pg_sub (L := [(0, .ref 102), (1, ii ((base : Nat) : Int)), (2, ii place), (3, ii ((n : Nat) : Int)), (4, zz c1), (5, zz c2), (6, ii (q : Int)), (7, ii (0 : Int))]) rfl rfl rfl (lp179 _ 0 rfl (Nat.zero_le _))
                      · exact absurd hb9 (by rw [hc1]; decide)
                    · exact absurd hb8 (by rw [hc2]; decide)
                  · refine me1 (pc' := 142) (L' := [(0, .ref 102), (1, ii ((base : Nat) : Int)), (2, ii place), (3, ii ((n : Nat) : Int)), (4, zz c1), (5, zz c2), (6, ii (k : Int))]) (S' := [.ref 102]) dm_X12_gathered_141 rfl rfl rfl rfl ?_
                    refine me0 (pc' := 144) (S' := [ii 8, .ref 102]) dm_X12_gathered_142 rfl rfl rfl rfl ?_
                    refine me1 (pc' := 145) (L' := [(0, .ref 102), (1, ii ((base : Nat) : Int)), (2, ii place), (3, ii ((n : Nat) : Int)), (4, zz c1), (5, zz c2), (6, ii (k : Int))]) (S' := [ii place, ii 8, .ref 102]) dm_X12_gathered_144 rfl rfl rfl rfl ?_
                    refine x_cv (pc' := 148) (rest := []) dm_X12_gathered_145 rfl (q_inv (As := [ii 8, ii place]) (S := []) hm rfl rfl rfl) rfl rfl rfl (r_fail_ (s := s2) hm (by omega) heS hca2.1 hca2.2) ?_
                    rintro _ _ ⟨rfl, rfl⟩
                    refine y_ret (r := some (ii (-1))) dm_X12_gathered_148 rfl rfl rfl ?_
                    refine ⟨_, rfl, ?_⟩
                    have e9 : dGa (cpS s) W n ch place = dEr (cpS (gaB s base)) W 8 place := by unfold dGa; rw [gaV_v8 (fun z => by have := cnB_all z; rw [show allN n (isNb ch) = false from hN] at this; cases this) (fun z => by have := cnB_all z; rw [show allN n (isSg ch) = false from hS] at this; cases this) (by omega), cpS_ga]
                    rw [e9]
                    exact dres_fl (cost := 0) (e := 8) hT (by omega) hnd
                · exact absurd hb6 (by rw [hc2]; decide)
            · refine me1 (pc' := 59) (L' := [(0, .ref 102), (1, ii ((base : Nat) : Int)), (2, ii place), (3, ii ((n : Nat) : Int)), (4, zz c1), (5, zz c2), (6, ii (k : Int))]) (S' := [zz c1]) dm_X12_gathered_57 rfl rfl rfl rfl ?_
              refine y_zeq (c := c1) (t := 82) (pc' := 62) dm_X12_gathered_59 rfl rfl (fun hb14 => ?_) (fun hb14 => ?_)
              · refine me0 (pc' := 83) (S' := [ii 0]) dm_X12_gathered_82 rfl rfl rfl rfl ?_
                refine me1 (pc' := 85) (L' := [(4, ii 0), (0, .ref 102), (1, ii ((base : Nat) : Int)), (2, ii place), (3, ii ((n : Nat) : Int)), (5, zz c2), (6, ii (k : Int))]) (S' := []) dm_X12_gathered_83 rfl rfl rfl rfl ?_
                refine me1 (pc' := 87) (L' := [(4, ii 0), (0, .ref 102), (1, ii ((base : Nat) : Int)), (2, ii place), (3, ii ((n : Nat) : Int)), (5, zz c2), (6, ii (k : Int))]) (S' := [zz c2]) dm_X12_gathered_85 rfl rfl rfl rfl ?_
                refine y_zeq (c := c2) (t := 111) (pc' := 90) dm_X12_gathered_87 rfl rfl (fun hb15 => ?_) (fun hb15 => ?_)
                · refine me0 (pc' := 112) (S' := [ii 0]) dm_X12_gathered_111 rfl rfl rfl rfl ?_
                  refine me1 (pc' := 114) (L' := [(5, ii 0), (4, ii 0), (0, .ref 102), (1, ii ((base : Nat) : Int)), (2, ii place), (3, ii ((n : Nat) : Int)), (6, ii (k : Int))]) (S' := []) dm_X12_gathered_112 rfl rfl rfl rfl ?_
                  refine y_iinc (pc' := 117) (L' := [(6, ii ((k : Int) + 1)), (5, ii 0), (4, ii 0), (0, .ref 102), (1, ii ((base : Nat) : Int)), (2, ii place), (3, ii ((n : Nat) : Int))]) dm_X12_gathered_114 (y_incp (a := (k : Int)) (c := 1) rfl rfl (by decide)) rfl ?_
                  refine me2 (pc' := 51) (S' := []) dm_X12_gathered_117 rfl rfl rfl ?_
                  exact pg_sub (L := [(0, .ref 102), (1, ii ((base : Nat) : Int)), (2, ii place), (3, ii ((n : Nat) : Int)), (4, zz false), (5, zz false), (6, ii ((k + 1) : Int))]) rfl rfl rfl (ih51 (n - (k + 1)) (by omega) (k + 1) false false rfl (by omega) (allN_sF (p := isNb ch) (Or.inl (by rw [← h1]; exact hb14))).symm (allN_sF (p := isSg ch) (Or.inl (by rw [← h2]; exact hb15))).symm)
                · refine me1 (pc' := 91) (L' := [(4, ii 0), (0, .ref 102), (1, ii ((base : Nat) : Int)), (2, ii place), (3, ii ((n : Nat) : Int)), (5, zz c2), (6, ii (k : Int))]) (S' := [.ref 102]) dm_X12_gathered_90 rfl rfl rfl rfl ?_
                  refine me1 (pc' := 92) (L' := [(4, ii 0), (0, .ref 102), (1, ii ((base : Nat) : Int)), (2, ii place), (3, ii ((n : Nat) : Int)), (5, zz c2), (6, ii (k : Int))]) (S' := [.ref 102, .ref 102]) dm_X12_gathered_91 rfl rfl rfl rfl ?_
                  refine me3 (pc' := 95) (S' := [.ref (102 + 4), .ref 102]) dm_X12_gathered_92 (q_getr hm rfl (fun m i l => rg_12 m i l)) rfl rfl rfl ?_
                  refine me1 (pc' := 96) (L' := [(4, ii 0), (0, .ref 102), (1, ii ((base : Nat) : Int)), (2, ii place), (3, ii ((n : Nat) : Int)), (5, zz c2), (6, ii (k : Int))]) (S' := [ii ((base : Nat) : Int), .ref (102 + 4), .ref 102]) dm_X12_gathered_95 rfl rfl rfl rfl ?_
                  refine me1 (pc' := 98) (L' := [(4, ii 0), (0, .ref 102), (1, ii ((base : Nat) : Int)), (2, ii place), (3, ii ((n : Nat) : Int)), (5, zz c2), (6, ii (k : Int))]) (S' := [ii (k : Int), ii ((base : Nat) : Int), .ref (102 + 4), .ref 102]) dm_X12_gathered_96 rfl rfl rfl rfl ?_
                  refine y_iadd (a := ((base : Nat) : Int)) (b := (k : Int)) dm_X12_gathered_98 (pc' := 99) rfl ?_
                  refine pg_st (S' := [ii ((base + k : Nat) : Int), .ref (102 + 4), .ref 102]) (congrArg (fun z => ii z :: [.ref (102 + 4), .ref 102]) (by omega)) ?_
                  refine me3 (pc' := 100) (S' := [ii ((s2.2.2.1 12) (base + k)), .ref 102]) dm_X12_gathered_99 (q_iald (v := (s2.2.2.1 12) (base + k)) (k := 12) (n := 8192) hm (fun m i l I J => rc_12 m i l I J) (by omega) (by omega) (by decide) rfl) rfl rfl rfl ?_
                  obtain ⟨p100, hp100, hpe100, hpv100⟩ := hch2 k (by omega)
                  have hpk100 := (rv_wf hpv100).1.1
                  refine pg_st (S' := [ii (p100 : Int), .ref 102]) (congrArg (fun z => ii z :: [.ref 102]) (hpe100)) ?_
                  refine x_cp (pc' := 103) (v := ii (vk (ch k) : Int)) (rest := []) dm_X12_gathered_100 rfl (q_inv (As := [ii (p100 : Int)]) (S := []) hm rfl rfl rfl) rfl rfl rfl (r_kindOf_ hm (by omega) hB2 hpv100) ?_
                  refine me0 (pc' := 104) (S' := [ii 1, ii (vk (ch k) : Int)]) dm_X12_gathered_103 rfl rfl rfl rfl ?_
                  refine y_2ne (a := (vk (ch k) : Int)) (b := 1) (t := 111) (pc' := 107) dm_X12_gathered_104 rfl rfl (by omega) (fun hb16 => ?_) (fun hb16 => ?_)
                  · refine me0 (pc' := 112) (S' := [ii 0]) dm_X12_gathered_111 rfl rfl rfl rfl ?_
                    refine me1 (pc' := 114) (L' := [(5, ii 0), (4, ii 0), (0, .ref 102), (1, ii ((base : Nat) : Int)), (2, ii place), (3, ii ((n : Nat) : Int)), (6, ii (k : Int))]) (S' := []) dm_X12_gathered_112 rfl rfl rfl rfl ?_
                    refine y_iinc (pc' := 117) (L' := [(6, ii ((k : Int) + 1)), (5, ii 0), (4, ii 0), (0, .ref 102), (1, ii ((base : Nat) : Int)), (2, ii place), (3, ii ((n : Nat) : Int))]) dm_X12_gathered_114 (y_incp (a := (k : Int)) (c := 1) rfl rfl (by decide)) rfl ?_
                    refine me2 (pc' := 51) (S' := []) dm_X12_gathered_117 rfl rfl rfl ?_
                    exact pg_sub (L := [(0, .ref 102), (1, ii ((base : Nat) : Int)), (2, ii place), (3, ii ((n : Nat) : Int)), (4, zz false), (5, zz false), (6, ii ((k + 1) : Int))]) rfl rfl rfl (ih51 (n - (k + 1)) (by omega) (k + 1) false false rfl (by omega) (allN_sF (p := isNb ch) (Or.inl (by rw [← h1]; exact hb14))).symm (allN_sF (p := isSg ch) (Or.inr (decide_eq_false (by omega)))).symm)
                  · refine me0 (pc' := 108) (S' := [ii 1]) dm_X12_gathered_107 rfl rfl rfl rfl ?_
                    refine me2 (pc' := 112) (S' := [ii 1]) dm_X12_gathered_108 rfl rfl rfl ?_
                    refine me1 (pc' := 114) (L' := [(5, ii 1), (4, ii 0), (0, .ref 102), (1, ii ((base : Nat) : Int)), (2, ii place), (3, ii ((n : Nat) : Int)), (6, ii (k : Int))]) (S' := []) dm_X12_gathered_112 rfl rfl rfl rfl ?_
                    refine y_iinc (pc' := 117) (L' := [(6, ii ((k : Int) + 1)), (5, ii 1), (4, ii 0), (0, .ref 102), (1, ii ((base : Nat) : Int)), (2, ii place), (3, ii ((n : Nat) : Int))]) dm_X12_gathered_114 (y_incp (a := (k : Int)) (c := 1) rfl rfl (by decide)) rfl ?_
                    refine me2 (pc' := 51) (S' := []) dm_X12_gathered_117 rfl rfl rfl ?_
                    exact pg_sub (L := [(0, .ref 102), (1, ii ((base : Nat) : Int)), (2, ii place), (3, ii ((n : Nat) : Int)), (4, zz false), (5, zz true), (6, ii ((k + 1) : Int))]) rfl rfl rfl (ih51 (n - (k + 1)) (by omega) (k + 1) false true rfl (by omega) (allN_sF (p := isNb ch) (Or.inl (by rw [← h1]; exact hb14))).symm (allN_sT (p := isSg ch) (by rw [← h2]; exact hb15) (decide_eq_true (by omega))).symm)
              · refine me1 (pc' := 63) (L' := [(0, .ref 102), (1, ii ((base : Nat) : Int)), (2, ii place), (3, ii ((n : Nat) : Int)), (4, zz c1), (5, zz c2), (6, ii (k : Int))]) (S' := [.ref 102]) dm_X12_gathered_62 rfl rfl rfl rfl ?_
                refine me1 (pc' := 64) (L' := [(0, .ref 102), (1, ii ((base : Nat) : Int)), (2, ii place), (3, ii ((n : Nat) : Int)), (4, zz c1), (5, zz c2), (6, ii (k : Int))]) (S' := [.ref 102, .ref 102]) dm_X12_gathered_63 rfl rfl rfl rfl ?_
                refine me3 (pc' := 67) (S' := [.ref (102 + 4), .ref 102]) dm_X12_gathered_64 (q_getr hm rfl (fun m i l => rg_12 m i l)) rfl rfl rfl ?_
                refine me1 (pc' := 68) (L' := [(0, .ref 102), (1, ii ((base : Nat) : Int)), (2, ii place), (3, ii ((n : Nat) : Int)), (4, zz c1), (5, zz c2), (6, ii (k : Int))]) (S' := [ii ((base : Nat) : Int), .ref (102 + 4), .ref 102]) dm_X12_gathered_67 rfl rfl rfl rfl ?_
                refine me1 (pc' := 70) (L' := [(0, .ref 102), (1, ii ((base : Nat) : Int)), (2, ii place), (3, ii ((n : Nat) : Int)), (4, zz c1), (5, zz c2), (6, ii (k : Int))]) (S' := [ii (k : Int), ii ((base : Nat) : Int), .ref (102 + 4), .ref 102]) dm_X12_gathered_68 rfl rfl rfl rfl ?_
                refine y_iadd (a := ((base : Nat) : Int)) (b := (k : Int)) dm_X12_gathered_70 (pc' := 71) rfl ?_
                refine pg_st (S' := [ii ((base + k : Nat) : Int), .ref (102 + 4), .ref 102]) (congrArg (fun z => ii z :: [.ref (102 + 4), .ref 102]) (by omega)) ?_
                refine me3 (pc' := 72) (S' := [ii ((s2.2.2.1 12) (base + k)), .ref 102]) dm_X12_gathered_71 (q_iald (v := (s2.2.2.1 12) (base + k)) (k := 12) (n := 8192) hm (fun m i l I J => rc_12 m i l I J) (by omega) (by omega) (by decide) rfl) rfl rfl rfl ?_
                obtain ⟨p72, hp72, hpe72, hpv72⟩ := hch2 k (by omega)
                have hpk72 := (rv_wf hpv72).1.1
                refine pg_st (S' := [ii (p72 : Int), .ref 102]) (congrArg (fun z => ii z :: [.ref 102]) (hpe72)) ?_
                refine x_cp (pc' := 75) (v := ii (vk (ch k) : Int)) (rest := []) dm_X12_gathered_72 rfl (q_inv (As := [ii (p72 : Int)]) (S := []) hm rfl rfl rfl) rfl rfl rfl (r_kindOf_ hm (by omega) hB2 hpv72) ?_
                refine y_1ne (a := (vk (ch k) : Int)) (t := 82) (pc' := 78) dm_X12_gathered_75 rfl rfl (by omega) (fun hb17 => ?_) (fun hb17 => ?_)
                · refine me0 (pc' := 83) (S' := [ii 0]) dm_X12_gathered_82 rfl rfl rfl rfl ?_
                  refine me1 (pc' := 85) (L' := [(4, ii 0), (0, .ref 102), (1, ii ((base : Nat) : Int)), (2, ii place), (3, ii ((n : Nat) : Int)), (5, zz c2), (6, ii (k : Int))]) (S' := []) dm_X12_gathered_83 rfl rfl rfl rfl ?_
                  refine me1 (pc' := 87) (L' := [(4, ii 0), (0, .ref 102), (1, ii ((base : Nat) : Int)), (2, ii place), (3, ii ((n : Nat) : Int)), (5, zz c2), (6, ii (k : Int))]) (S' := [zz c2]) dm_X12_gathered_85 rfl rfl rfl rfl ?_
                  refine y_zeq (c := c2) (t := 111) (pc' := 90) dm_X12_gathered_87 rfl rfl (fun hb18 => ?_) (fun hb18 => ?_)
                  · refine me0 (pc' := 112) (S' := [ii 0]) dm_X12_gathered_111 rfl rfl rfl rfl ?_
                    refine me1 (pc' := 114) (L' := [(5, ii 0), (4, ii 0), (0, .ref 102), (1, ii ((base : Nat) : Int)), (2, ii place), (3, ii ((n : Nat) : Int)), (6, ii (k : Int))]) (S' := []) dm_X12_gathered_112 rfl rfl rfl rfl ?_
                    refine y_iinc (pc' := 117) (L' := [(6, ii ((k : Int) + 1)), (5, ii 0), (4, ii 0), (0, .ref 102), (1, ii ((base : Nat) : Int)), (2, ii place), (3, ii ((n : Nat) : Int))]) dm_X12_gathered_114 (y_incp (a := (k : Int)) (c := 1) rfl rfl (by decide)) rfl ?_
                    refine me2 (pc' := 51) (S' := []) dm_X12_gathered_117 rfl rfl rfl ?_
                    exact pg_sub (L := [(0, .ref 102), (1, ii ((base : Nat) : Int)), (2, ii place), (3, ii ((n : Nat) : Int)), (4, zz false), (5, zz false), (6, ii ((k + 1) : Int))]) rfl rfl rfl (ih51 (n - (k + 1)) (by omega) (k + 1) false false rfl (by omega) (allN_sF (p := isNb ch) (Or.inr (decide_eq_false (by omega)))).symm (allN_sF (p := isSg ch) (Or.inl (by rw [← h2]; exact hb18))).symm)
                  · refine me1 (pc' := 91) (L' := [(4, ii 0), (0, .ref 102), (1, ii ((base : Nat) : Int)), (2, ii place), (3, ii ((n : Nat) : Int)), (5, zz c2), (6, ii (k : Int))]) (S' := [.ref 102]) dm_X12_gathered_90 rfl rfl rfl rfl ?_
                    refine me1 (pc' := 92) (L' := [(4, ii 0), (0, .ref 102), (1, ii ((base : Nat) : Int)), (2, ii place), (3, ii ((n : Nat) : Int)), (5, zz c2), (6, ii (k : Int))]) (S' := [.ref 102, .ref 102]) dm_X12_gathered_91 rfl rfl rfl rfl ?_
                    refine me3 (pc' := 95) (S' := [.ref (102 + 4), .ref 102]) dm_X12_gathered_92 (q_getr hm rfl (fun m i l => rg_12 m i l)) rfl rfl rfl ?_
                    refine me1 (pc' := 96) (L' := [(4, ii 0), (0, .ref 102), (1, ii ((base : Nat) : Int)), (2, ii place), (3, ii ((n : Nat) : Int)), (5, zz c2), (6, ii (k : Int))]) (S' := [ii ((base : Nat) : Int), .ref (102 + 4), .ref 102]) dm_X12_gathered_95 rfl rfl rfl rfl ?_
                    refine me1 (pc' := 98) (L' := [(4, ii 0), (0, .ref 102), (1, ii ((base : Nat) : Int)), (2, ii place), (3, ii ((n : Nat) : Int)), (5, zz c2), (6, ii (k : Int))]) (S' := [ii (k : Int), ii ((base : Nat) : Int), .ref (102 + 4), .ref 102]) dm_X12_gathered_96 rfl rfl rfl rfl ?_
                    refine y_iadd (a := ((base : Nat) : Int)) (b := (k : Int)) dm_X12_gathered_98 (pc' := 99) rfl ?_
                    refine pg_st (S' := [ii ((base + k : Nat) : Int), .ref (102 + 4), .ref 102]) (congrArg (fun z => ii z :: [.ref (102 + 4), .ref 102]) (by omega)) ?_
                    refine me3 (pc' := 100) (S' := [ii ((s2.2.2.1 12) (base + k)), .ref 102]) dm_X12_gathered_99 (q_iald (v := (s2.2.2.1 12) (base + k)) (k := 12) (n := 8192) hm (fun m i l I J => rc_12 m i l I J) (by omega) (by omega) (by decide) rfl) rfl rfl rfl ?_
                    obtain ⟨p100, hp100, hpe100, hpv100⟩ := hch2 k (by omega)
                    have hpk100 := (rv_wf hpv100).1.1
                    refine pg_st (S' := [ii (p100 : Int), .ref 102]) (congrArg (fun z => ii z :: [.ref 102]) (hpe100)) ?_
                    refine x_cp (pc' := 103) (v := ii (vk (ch k) : Int)) (rest := []) dm_X12_gathered_100 rfl (q_inv (As := [ii (p100 : Int)]) (S := []) hm rfl rfl rfl) rfl rfl rfl (r_kindOf_ hm (by omega) hB2 hpv100) ?_
                    refine me0 (pc' := 104) (S' := [ii 1, ii (vk (ch k) : Int)]) dm_X12_gathered_103 rfl rfl rfl rfl ?_
                    refine y_2ne (a := (vk (ch k) : Int)) (b := 1) (t := 111) (pc' := 107) dm_X12_gathered_104 rfl rfl (by omega) (fun hb19 => ?_) (fun hb19 => ?_)
                    · refine me0 (pc' := 112) (S' := [ii 0]) dm_X12_gathered_111 rfl rfl rfl rfl ?_
                      refine me1 (pc' := 114) (L' := [(5, ii 0), (4, ii 0), (0, .ref 102), (1, ii ((base : Nat) : Int)), (2, ii place), (3, ii ((n : Nat) : Int)), (6, ii (k : Int))]) (S' := []) dm_X12_gathered_112 rfl rfl rfl rfl ?_
                      refine y_iinc (pc' := 117) (L' := [(6, ii ((k : Int) + 1)), (5, ii 0), (4, ii 0), (0, .ref 102), (1, ii ((base : Nat) : Int)), (2, ii place), (3, ii ((n : Nat) : Int))]) dm_X12_gathered_114 (y_incp (a := (k : Int)) (c := 1) rfl rfl (by decide)) rfl ?_
                      refine me2 (pc' := 51) (S' := []) dm_X12_gathered_117 rfl rfl rfl ?_
                      exact pg_sub (L := [(0, .ref 102), (1, ii ((base : Nat) : Int)), (2, ii place), (3, ii ((n : Nat) : Int)), (4, zz false), (5, zz false), (6, ii ((k + 1) : Int))]) rfl rfl rfl (ih51 (n - (k + 1)) (by omega) (k + 1) false false rfl (by omega) (allN_sF (p := isNb ch) (Or.inr (decide_eq_false (by omega)))).symm (allN_sF (p := isSg ch) (Or.inr (decide_eq_false (by omega)))).symm)
                    · refine me0 (pc' := 108) (S' := [ii 1]) dm_X12_gathered_107 rfl rfl rfl rfl ?_
                      refine me2 (pc' := 112) (S' := [ii 1]) dm_X12_gathered_108 rfl rfl rfl ?_
                      refine me1 (pc' := 114) (L' := [(5, ii 1), (4, ii 0), (0, .ref 102), (1, ii ((base : Nat) : Int)), (2, ii place), (3, ii ((n : Nat) : Int)), (6, ii (k : Int))]) (S' := []) dm_X12_gathered_112 rfl rfl rfl rfl ?_
                      refine y_iinc (pc' := 117) (L' := [(6, ii ((k : Int) + 1)), (5, ii 1), (4, ii 0), (0, .ref 102), (1, ii ((base : Nat) : Int)), (2, ii place), (3, ii ((n : Nat) : Int))]) dm_X12_gathered_114 (y_incp (a := (k : Int)) (c := 1) rfl rfl (by decide)) rfl ?_
                      refine me2 (pc' := 51) (S' := []) dm_X12_gathered_117 rfl rfl rfl ?_
                      exact pg_sub (L := [(0, .ref 102), (1, ii ((base : Nat) : Int)), (2, ii place), (3, ii ((n : Nat) : Int)), (4, zz false), (5, zz true), (6, ii ((k + 1) : Int))]) rfl rfl rfl (ih51 (n - (k + 1)) (by omega) (k + 1) false true rfl (by omega) (allN_sF (p := isNb ch) (Or.inr (decide_eq_false (by omega)))).symm (allN_sT (p := isSg ch) (by rw [← h2]; exact hb18) (decide_eq_true (by omega))).symm)
                · refine me0 (pc' := 79) (S' := [ii 1]) dm_X12_gathered_78 rfl rfl rfl rfl ?_
                  refine me2 (pc' := 83) (S' := [ii 1]) dm_X12_gathered_79 rfl rfl rfl ?_
                  refine me1 (pc' := 85) (L' := [(4, ii 1), (0, .ref 102), (1, ii ((base : Nat) : Int)), (2, ii place), (3, ii ((n : Nat) : Int)), (5, zz c2), (6, ii (k : Int))]) (S' := []) dm_X12_gathered_83 rfl rfl rfl rfl ?_
                  refine me1 (pc' := 87) (L' := [(4, ii 1), (0, .ref 102), (1, ii ((base : Nat) : Int)), (2, ii place), (3, ii ((n : Nat) : Int)), (5, zz c2), (6, ii (k : Int))]) (S' := [zz c2]) dm_X12_gathered_85 rfl rfl rfl rfl ?_
                  refine y_zeq (c := c2) (t := 111) (pc' := 90) dm_X12_gathered_87 rfl rfl (fun hb20 => ?_) (fun hb20 => ?_)
                  · refine me0 (pc' := 112) (S' := [ii 0]) dm_X12_gathered_111 rfl rfl rfl rfl ?_
                    refine me1 (pc' := 114) (L' := [(5, ii 0), (4, ii 1), (0, .ref 102), (1, ii ((base : Nat) : Int)), (2, ii place), (3, ii ((n : Nat) : Int)), (6, ii (k : Int))]) (S' := []) dm_X12_gathered_112 rfl rfl rfl rfl ?_
                    refine y_iinc (pc' := 117) (L' := [(6, ii ((k : Int) + 1)), (5, ii 0), (4, ii 1), (0, .ref 102), (1, ii ((base : Nat) : Int)), (2, ii place), (3, ii ((n : Nat) : Int))]) dm_X12_gathered_114 (y_incp (a := (k : Int)) (c := 1) rfl rfl (by decide)) rfl ?_
                    refine me2 (pc' := 51) (S' := []) dm_X12_gathered_117 rfl rfl rfl ?_
                    exact pg_sub (L := [(0, .ref 102), (1, ii ((base : Nat) : Int)), (2, ii place), (3, ii ((n : Nat) : Int)), (4, zz true), (5, zz false), (6, ii ((k + 1) : Int))]) rfl rfl rfl (ih51 (n - (k + 1)) (by omega) (k + 1) true false rfl (by omega) (allN_sT (p := isNb ch) (by rw [← h1]; exact hb14) (decide_eq_true (by omega))).symm (allN_sF (p := isSg ch) (Or.inl (by rw [← h2]; exact hb20))).symm)
                  · refine me1 (pc' := 91) (L' := [(4, ii 1), (0, .ref 102), (1, ii ((base : Nat) : Int)), (2, ii place), (3, ii ((n : Nat) : Int)), (5, zz c2), (6, ii (k : Int))]) (S' := [.ref 102]) dm_X12_gathered_90 rfl rfl rfl rfl ?_
                    refine me1 (pc' := 92) (L' := [(4, ii 1), (0, .ref 102), (1, ii ((base : Nat) : Int)), (2, ii place), (3, ii ((n : Nat) : Int)), (5, zz c2), (6, ii (k : Int))]) (S' := [.ref 102, .ref 102]) dm_X12_gathered_91 rfl rfl rfl rfl ?_
                    refine me3 (pc' := 95) (S' := [.ref (102 + 4), .ref 102]) dm_X12_gathered_92 (q_getr hm rfl (fun m i l => rg_12 m i l)) rfl rfl rfl ?_
                    refine me1 (pc' := 96) (L' := [(4, ii 1), (0, .ref 102), (1, ii ((base : Nat) : Int)), (2, ii place), (3, ii ((n : Nat) : Int)), (5, zz c2), (6, ii (k : Int))]) (S' := [ii ((base : Nat) : Int), .ref (102 + 4), .ref 102]) dm_X12_gathered_95 rfl rfl rfl rfl ?_
                    refine me1 (pc' := 98) (L' := [(4, ii 1), (0, .ref 102), (1, ii ((base : Nat) : Int)), (2, ii place), (3, ii ((n : Nat) : Int)), (5, zz c2), (6, ii (k : Int))]) (S' := [ii (k : Int), ii ((base : Nat) : Int), .ref (102 + 4), .ref 102]) dm_X12_gathered_96 rfl rfl rfl rfl ?_
                    refine y_iadd (a := ((base : Nat) : Int)) (b := (k : Int)) dm_X12_gathered_98 (pc' := 99) rfl ?_
                    refine pg_st (S' := [ii ((base + k : Nat) : Int), .ref (102 + 4), .ref 102]) (congrArg (fun z => ii z :: [.ref (102 + 4), .ref 102]) (by omega)) ?_
                    refine me3 (pc' := 100) (S' := [ii ((s2.2.2.1 12) (base + k)), .ref 102]) dm_X12_gathered_99 (q_iald (v := (s2.2.2.1 12) (base + k)) (k := 12) (n := 8192) hm (fun m i l I J => rc_12 m i l I J) (by omega) (by omega) (by decide) rfl) rfl rfl rfl ?_
                    obtain ⟨p100, hp100, hpe100, hpv100⟩ := hch2 k (by omega)
                    have hpk100 := (rv_wf hpv100).1.1
                    refine pg_st (S' := [ii (p100 : Int), .ref 102]) (congrArg (fun z => ii z :: [.ref 102]) (hpe100)) ?_
                    refine x_cp (pc' := 103) (v := ii (vk (ch k) : Int)) (rest := []) dm_X12_gathered_100 rfl (q_inv (As := [ii (p100 : Int)]) (S := []) hm rfl rfl rfl) rfl rfl rfl (r_kindOf_ hm (by omega) hB2 hpv100) ?_
                    refine me0 (pc' := 104) (S' := [ii 1, ii (vk (ch k) : Int)]) dm_X12_gathered_103 rfl rfl rfl rfl ?_
                    refine y_2ne (a := (vk (ch k) : Int)) (b := 1) (t := 111) (pc' := 107) dm_X12_gathered_104 rfl rfl (by omega) (fun hb21 => ?_) (fun hb21 => ?_)
                    · refine me0 (pc' := 112) (S' := [ii 0]) dm_X12_gathered_111 rfl rfl rfl rfl ?_
                      refine me1 (pc' := 114) (L' := [(5, ii 0), (4, ii 1), (0, .ref 102), (1, ii ((base : Nat) : Int)), (2, ii place), (3, ii ((n : Nat) : Int)), (6, ii (k : Int))]) (S' := []) dm_X12_gathered_112 rfl rfl rfl rfl ?_
                      refine y_iinc (pc' := 117) (L' := [(6, ii ((k : Int) + 1)), (5, ii 0), (4, ii 1), (0, .ref 102), (1, ii ((base : Nat) : Int)), (2, ii place), (3, ii ((n : Nat) : Int))]) dm_X12_gathered_114 (y_incp (a := (k : Int)) (c := 1) rfl rfl (by decide)) rfl ?_
                      refine me2 (pc' := 51) (S' := []) dm_X12_gathered_117 rfl rfl rfl ?_
                      exact pg_sub (L := [(0, .ref 102), (1, ii ((base : Nat) : Int)), (2, ii place), (3, ii ((n : Nat) : Int)), (4, zz true), (5, zz false), (6, ii ((k + 1) : Int))]) rfl rfl rfl (ih51 (n - (k + 1)) (by omega) (k + 1) true false rfl (by omega) (allN_sT (p := isNb ch) (by rw [← h1]; exact hb14) (decide_eq_true (by omega))).symm (allN_sF (p := isSg ch) (Or.inr (decide_eq_false (by omega)))).symm)
                    · refine me0 (pc' := 108) (S' := [ii 1]) dm_X12_gathered_107 rfl rfl rfl rfl ?_
                      refine me2 (pc' := 112) (S' := [ii 1]) dm_X12_gathered_108 rfl rfl rfl ?_
                      refine me1 (pc' := 114) (L' := [(5, ii 1), (4, ii 1), (0, .ref 102), (1, ii ((base : Nat) : Int)), (2, ii place), (3, ii ((n : Nat) : Int)), (6, ii (k : Int))]) (S' := []) dm_X12_gathered_112 rfl rfl rfl rfl ?_
                      refine y_iinc (pc' := 117) (L' := [(6, ii ((k : Int) + 1)), (5, ii 1), (4, ii 1), (0, .ref 102), (1, ii ((base : Nat) : Int)), (2, ii place), (3, ii ((n : Nat) : Int))]) dm_X12_gathered_114 (y_incp (a := (k : Int)) (c := 1) rfl rfl (by decide)) rfl ?_
                      refine me2 (pc' := 51) (S' := []) dm_X12_gathered_117 rfl rfl rfl ?_
                      exact pg_sub (L := [(0, .ref 102), (1, ii ((base : Nat) : Int)), (2, ii place), (3, ii ((n : Nat) : Int)), (4, zz true), (5, zz true), (6, ii ((k + 1) : Int))]) rfl rfl rfl (ih51 (n - (k + 1)) (by omega) (k + 1) true true rfl (by omega) (allN_sT (p := isNb ch) (by rw [← h1]; exact hb14) (decide_eq_true (by omega))).symm (allN_sT (p := isSg ch) (by rw [← h2]; exact hb20) (decide_eq_true (by omega))).symm)
        exact pg_sub (L := [(0, .ref 102), (1, ii ((base : Nat) : Int)), (2, ii place), (3, ii ((n : Nat) : Int)), (4, zz true), (5, zz true), (6, ii (0 : Int))]) rfl rfl rfl (lp51 _ 0 true true rfl (Nat.zero_le _) rfl rfl)
  · exfalso; omega
theorem dm_X12_gathered_34 : mj_dec prog_14_method_28_code 34 = some (.iconst 0, 1) := by decide +kernel
theorem dm_X12_gathered_45 : mj_dec prog_14_method_28_code 45 = some (.iconst 0, 1) := by decide +kernel
theorem r_gath0 {xt : mj_X} {d q b n base W : Nat} {pre post : mj_H} {s : RS} {place nd : Int} {ch : Nat → VV} (hm : pre.length = 102) (hd1 : 42 ≤ d) (hB : rB s) (hq : s.1 4 = (q : Int)) (hb : s.1 3 = (b : Int)) (hq3 : 3 ≤ q) (hV2 : q + 10 < 310000) (hca : 0 ≤ s.1 10 ∧ s.1 10 ≤ 100) (hC : b + 300 ≤ 820000) (hw13 : s.1 13 = ((base + n : Nat) : Int)) (hbn : base + n ≤ 8192) (he0 : s.1 5 = 0) (h8 : s.1 8 = (W : Int)) (hW : W ≤ 500000) (hnd : 0 ≤ nd) (hch : ∀ k, k < n → ∃ p : Nat, 3 ≤ p ∧ s.2.2.1 12 (base + k) = (p : Int) ∧ rv s 7 p (ch k)) (hS1 : ∀ k, k < n → vsz 7 (ch k) ≤ 1000) (hn : n ≤ 300) (hn0 : n = 0) : pgV xt d 244 [.ref 102, ii ((base : Nat) : Int), ii place] (rS pre post s) (dres pre post (gaB s base) W (7 + 3 * (n : Int)) nd (dGa (cpS s) W n ch place)) := by
  have hB0 := hB
  obtain ⟨hB1, hB2_, hB3, hB4⟩ := hB
  have hBg : rB (gaB s base) := by unfold rB; rw [gaB_k (by decide), gaB_k (by decide)]; exact hB0
  refine x_enter pm_X12_gathered (L0 := [(0, .ref 102), (1, ii ((base : Nat) : Int)), (2, ii place)]) rfl (Nat.le_of_ble_eq_true rfl) (by omega) ?_
  refine me1 (pc' := 1) (L' := [(0, .ref 102), (1, ii ((base : Nat) : Int)), (2, ii place)]) (S' := [.ref 102]) dm_X12_gathered_0 rfl rfl rfl rfl ?_
  refine me3 (pc' := 4) (S' := [ii (s.1 13)]) dm_X12_gathered_1 (q_geti (v := s.1 13) hm rfl (fun m i l => rg_13 m i l) rfl) rfl rfl rfl ?_
  refine me1 (pc' := 5) (L' := [(0, .ref 102), (1, ii ((base : Nat) : Int)), (2, ii place)]) (S' := [ii ((base : Nat) : Int), ii (s.1 13)]) dm_X12_gathered_4 rfl rfl rfl rfl ?_
  refine y_isub (a := s.1 13) (b := ((base : Nat) : Int)) dm_X12_gathered_5 (pc' := 6) rfl ?_
  refine pg_st (S' := [ii ((n : Nat) : Int)]) (congrArg (fun z => ii z :: []) (by rw [hw13]; omega)) ?_
  refine me1 (pc' := 7) (L' := [(3, ii ((n : Nat) : Int)), (0, .ref 102), (1, ii ((base : Nat) : Int)), (2, ii place)]) (S' := []) dm_X12_gathered_6 rfl rfl rfl rfl ?_
  refine me1 (pc' := 8) (L' := [(3, ii ((n : Nat) : Int)), (0, .ref 102), (1, ii ((base : Nat) : Int)), (2, ii place)]) (S' := [.ref 102]) dm_X12_gathered_7 rfl rfl rfl rfl ?_
  refine me1 (pc' := 9) (L' := [(3, ii ((n : Nat) : Int)), (0, .ref 102), (1, ii ((base : Nat) : Int)), (2, ii place)]) (S' := [ii ((base : Nat) : Int), .ref 102]) dm_X12_gathered_8 rfl rfl rfl rfl ?_
  refine me3 (pc' := 12) (S' := []) (h1 := rI pre post (va_up s.1 13 ((base : Nat) : Int)) s.2.1 s.2.2.1 s.2.2.2) dm_X12_gathered_9 (q_puti hm rfl rfl (fun m i l v => rf_13 m i l v)) rfl rfl rfl ?_
  refine me1 (pc' := 13) (L' := [(3, ii ((n : Nat) : Int)), (0, .ref 102), (1, ii ((base : Nat) : Int)), (2, ii place)]) (S' := [.ref 102]) dm_X12_gathered_12 rfl rfl rfl rfl ?_
  refine me0 (pc' := 14) (S' := [ii 3, .ref 102]) dm_X12_gathered_13 rfl rfl rfl rfl ?_
  refine me3 (pc' := 17) (S' := []) (h1 := rI pre post (va_up (va_up s.1 13 ((base : Nat) : Int)) 9 3) s.2.1 s.2.2.1 s.2.2.2) dm_X12_gathered_14 (q_puti hm rfl rfl (fun m i l v => rf_9 m i l v)) rfl rfl rfl ?_
  obtain ⟨s2, hs2⟩ : ∃ s2 : RS, s2 = (va_up (va_up s.1 13 ((base : Nat) : Int)) 9 3, s.2.1, s.2.2.1, s.2.2.2) := ⟨_, rfl⟩
  have hT := ga_tkd (W := W) hs2 he0 h8
  have hk2 : ∀ k, k ≠ 13 → k ≠ 9 → s2.1 k = s.1 k := fun k a c => by rw [hs2]; show va_up (va_up s.1 13 ((base : Nat) : Int)) 9 3 k = _; rw [up_ne _ _ c, up_ne _ _ a]
  have hqS : s2.1 4 = (q : Int) := (hk2 4 (by decide) (by decide)).trans hq
  have hbS : s2.1 3 = (b : Int) := (hk2 3 (by decide) (by decide)).trans hb
  have heS : s2.1 5 = 0 := (hk2 5 (by decide) (by decide)).trans he0
  have hca2 : 0 ≤ s2.1 10 ∧ s2.1 10 ≤ 100 := by rw [hk2 10 (by decide) (by decide)]; exact hca
  have hx2 : rext s s2 := ⟨by omega, by omega, fun _ _ _ => by rw [hs2]; exact ⟨rfl, rfl⟩, fun _ _ => by rw [hs2]⟩
  have hB2 : rB s2 := ⟨by omega, by omega, by omega, by omega⟩
  have hch2 : ∀ k, k < n → ∃ p : Nat, 3 ≤ p ∧ s2.2.2.1 12 (base + k) = (p : Int) ∧ rv s2 7 p (ch k) := fun k hk => by obtain ⟨p, p1, p2, p3⟩ := hch k hk; exact ⟨p, p1, by rw [hs2]; exact p2, rv_ext hx2 p1 p3⟩
  refine pg_cast (h2 := rI pre post s2.1 s2.2.1 s2.2.2.1 s2.2.2.2) (by rw [hs2]) ?_
  refine me1 (pc' := 18) (L' := [(3, ii ((n : Nat) : Int)), (0, .ref 102), (1, ii ((base : Nat) : Int)), (2, ii place)]) (S' := [.ref 102]) dm_X12_gathered_17 rfl rfl rfl rfl ?_
  refine me3 (pc' := 21) (S' := [ii (s2.1 5)]) dm_X12_gathered_18 (q_geti (v := s2.1 5) hm rfl (fun m i l => rg_5 m i l) rfl) rfl rfl rfl ?_
  refine y_1le (a := s2.1 5) (t := 26) (pc' := 24) dm_X12_gathered_21 rfl rfl (by omega) (fun hb1 => ?_) (fun hb1 => ?_)
  · refine me1 (pc' := 27) (L' := [(3, ii ((n : Nat) : Int)), (0, .ref 102), (1, ii ((base : Nat) : Int)), (2, ii place)]) (S' := [ii ((n : Nat) : Int)]) dm_X12_gathered_26 rfl rfl rfl rfl ?_
    refine y_1le (a := ((n : Nat) : Int)) (t := 34) (pc' := 30) dm_X12_gathered_27 rfl rfl (by omega) (fun hb2 => ?_) (fun hb2 => ?_)
    · refine me0 (pc' := 35) (S' := [ii 0]) dm_X12_gathered_34 rfl rfl rfl rfl ?_
      refine me1 (pc' := 37) (L' := [(4, ii 0), (3, ii ((n : Nat) : Int)), (0, .ref 102), (1, ii ((base : Nat) : Int)), (2, ii place)]) (S' := []) dm_X12_gathered_35 rfl rfl rfl rfl ?_
      refine me1 (pc' := 38) (L' := [(4, ii 0), (3, ii ((n : Nat) : Int)), (0, .ref 102), (1, ii ((base : Nat) : Int)), (2, ii place)]) (S' := [ii ((n : Nat) : Int)]) dm_X12_gathered_37 rfl rfl rfl rfl ?_
      refine y_1le (a := ((n : Nat) : Int)) (t := 45) (pc' := 41) dm_X12_gathered_38 rfl rfl (by omega) (fun hb3 => ?_) (fun hb3 => ?_)
      · refine me0 (pc' := 46) (S' := [ii 0]) dm_X12_gathered_45 rfl rfl rfl rfl ?_
        refine me1 (pc' := 48) (L' := [(5, ii 0), (4, ii 0), (3, ii ((n : Nat) : Int)), (0, .ref 102), (1, ii ((base : Nat) : Int)), (2, ii place)]) (S' := []) dm_X12_gathered_46 rfl rfl rfl rfl ?_
        refine me0 (pc' := 49) (S' := [ii 0]) dm_X12_gathered_48 rfl rfl rfl rfl ?_
        refine me1 (pc' := 51) (L' := [(6, ii 0), (5, ii 0), (4, ii 0), (3, ii ((n : Nat) : Int)), (0, .ref 102), (1, ii ((base : Nat) : Int)), (2, ii place)]) (S' := []) dm_X12_gathered_49 rfl rfl rfl rfl ?_
        have lp51 : ∀ (n51 : Nat) (k : Nat) (c1 : Bool) (c2 : Bool), n - k = n51 → (k ≤ n) → (c1 = false) → (c2 = false) → pgE xt (d - 1) 12 8 false (Option.some Jvm.ClassFile.FieldType.int) (mj_dec prog_14_method_28_code) 51 [(0, .ref 102), (1, ii ((base : Nat) : Int)), (2, ii place), (3, ii ((n : Nat) : Int)), (4, zz c1), (5, zz c2), (6, ii (k : Int))] [] (rI pre post s2.1 s2.2.1 s2.2.2.1 s2.2.2.2) (fun r h' => ∃ x, r = some x ∧ dres pre post (gaB s base) W (7 + 3 * (n : Int)) nd (dGa (cpS s) W n ch place) x h') := by
          intro n51
          induction n51 using Nat.strongRecOn with
          | ind n51 ih51 =>
            intro k c1 c2 hm51 hk h1 h2
            refine me1 (pc' := 53) (L' := [(0, .ref 102), (1, ii ((base : Nat) : Int)), (2, ii place), (3, ii ((n : Nat) : Int)), (4, zz c1), (5, zz c2), (6, ii (k : Int))]) (S' := [ii (k : Int)]) dm_X12_gathered_51 rfl rfl rfl rfl ?_
            refine me1 (pc' := 54) (L' := [(0, .ref 102), (1, ii ((base : Nat) : Int)), (2, ii place), (3, ii ((n : Nat) : Int)), (4, zz c1), (5, zz c2), (6, ii (k : Int))]) (S' := [ii ((n : Nat) : Int), ii (k : Int)]) dm_X12_gathered_53 rfl rfl rfl rfl ?_
            refine y_2ge (a := (k : Int)) (b := ((n : Nat) : Int)) (t := 120) (pc' := 57) dm_X12_gathered_54 rfl rfl (by omega) (fun hb4 => ?_) (fun hb4 => ?_)
            · have hkn : k = n := by omega
              have hc1 := h1
              have hc2 := h2
              refine me1 (pc' := 121) (L' := [(0, .ref 102), (1, ii ((base : Nat) : Int)), (2, ii place), (3, ii ((n : Nat) : Int)), (4, zz c1), (5, zz c2), (6, ii (k : Int))]) (S' := [ii ((n : Nat) : Int)]) dm_X12_gathered_120 rfl rfl rfl rfl ?_
              refine me1 (pc' := 123) (L' := [(0, .ref 102), (1, ii ((base : Nat) : Int)), (2, ii place), (3, ii ((n : Nat) : Int)), (4, zz c1), (5, zz c2), (6, ii (k : Int))]) (S' := [zz c1, ii ((n : Nat) : Int)]) dm_X12_gathered_121 rfl rfl rfl rfl ?_
              refine y_zne (c := c1) (t := 131) (pc' := 126) dm_X12_gathered_123 rfl rfl (fun hb5 => ?_) (fun hb5 => ?_)
              · exact absurd hb5 (by rw [hc1]; decide)
              · refine me1 (pc' := 128) (L' := [(0, .ref 102), (1, ii ((base : Nat) : Int)), (2, ii place), (3, ii ((n : Nat) : Int)), (4, zz c1), (5, zz c2), (6, ii (k : Int))]) (S' := [zz c2, ii ((n : Nat) : Int)]) dm_X12_gathered_126 rfl rfl rfl rfl ?_
                refine y_zeq (c := c2) (t := 136) (pc' := 131) dm_X12_gathered_128 rfl rfl (fun hb6 => ?_) (fun hb6 => ?_)
                · refine me0 (pc' := 138) (S' := [ii 24, ii ((n : Nat) : Int)]) dm_X12_gathered_136 rfl rfl rfl rfl ?_
                  refine y_2le (a := ((n : Nat) : Int)) (b := 24) (t := 149) (pc' := 141) dm_X12_gathered_138 rfl rfl (by omega) (fun hb7 => ?_) (fun hb7 => ?_)
                  · refine me1 (pc' := 150) (L' := [(0, .ref 102), (1, ii ((base : Nat) : Int)), (2, ii place), (3, ii ((n : Nat) : Int)), (4, zz c1), (5, zz c2), (6, ii (k : Int))]) (S' := [.ref 102]) dm_X12_gathered_149 rfl rfl rfl rfl ?_
                    refine me1 (pc' := 152) (L' := [(0, .ref 102), (1, ii ((base : Nat) : Int)), (2, ii place), (3, ii ((n : Nat) : Int)), (4, zz c1), (5, zz c2), (6, ii (k : Int))]) (S' := [zz c2, .ref 102]) dm_X12_gathered_150 rfl rfl rfl rfl ?_
                    refine y_zeq (c := c2) (t := 159) (pc' := 155) dm_X12_gathered_152 rfl rfl (fun hb8 => ?_) (fun hb8 => ?_)
                    · refine me1 (pc' := 161) (L' := [(0, .ref 102), (1, ii ((base : Nat) : Int)), (2, ii place), (3, ii ((n : Nat) : Int)), (4, zz c1), (5, zz c2), (6, ii (k : Int))]) (S' := [zz c1, .ref 102]) dm_X12_gathered_159 rfl rfl rfl rfl ?_
                      refine y_zeq (c := c1) (t := 168) (pc' := 164) dm_X12_gathered_161 rfl rfl (fun hb9 => ?_) (fun hb9 => ?_)
                      · refine me0 (pc' := 170) (S' := [ii 7, .ref 102]) dm_X12_gathered_168 rfl rfl rfl rfl ?_
                        refine me1 (pc' := 171) (L' := [(0, .ref 102), (1, ii ((base : Nat) : Int)), (2, ii place), (3, ii ((n : Nat) : Int)), (4, zz c1), (5, zz c2), (6, ii (k : Int))]) (S' := [ii ((n : Nat) : Int), ii 7, .ref 102]) dm_X12_gathered_170 rfl rfl rfl rfl ?_
                        refine x_cv (pc' := 174) (rest := []) dm_X12_gathered_171 rfl (q_inv (As := [ii 7, ii ((n : Nat) : Int)]) (S := []) hm rfl rfl rfl) rfl rfl rfl (r_row_ (q := q) (b := b) (s := s2) hm (by omega) hqS hbS (by omega) (by omega) (by omega)) ?_
                        rintro _ _ ⟨rfl, rfl⟩
                        refine me1 (pc' := 176) (L' := [(6, ii (q : Int)), (0, .ref 102), (1, ii ((base : Nat) : Int)), (2, ii place), (3, ii ((n : Nat) : Int)), (4, zz c1), (5, zz c2)]) (S' := []) dm_X12_gathered_174 rfl rfl rfl rfl ?_
                        refine me0 (pc' := 177) (S' := [ii 0]) dm_X12_gathered_176 rfl rfl rfl rfl ?_
                        refine me1 (pc' := 179) (L' := [(7, ii 0), (6, ii (q : Int)), (0, .ref 102), (1, ii ((base : Nat) : Int)), (2, ii place), (3, ii ((n : Nat) : Int)), (4, zz c1), (5, zz c2)]) (S' := []) dm_X12_gathered_177 rfl rfl rfl rfl ?_
                        have lp179 : ∀ (n179 : Nat) (k : Nat), n - k = n179 → (k ≤ n) → pgE xt (d - 1) 12 8 false (Option.some Jvm.ClassFile.FieldType.int) (mj_dec prog_14_method_28_code) 179 [(0, .ref 102), (1, ii ((base : Nat) : Int)), (2, ii place), (3, ii ((n : Nat) : Int)), (4, zz c1), (5, zz c2), (6, ii (q : Int)), (7, ii (k : Int))] [] (rI pre post ((fillS (rowS s2 q b 7 ((n : Nat) : Int)) b k (fun k => Int64.ofInt (s2.2.2.1 12 (base + k)))).1) ((fillS (rowS s2 q b 7 ((n : Nat) : Int)) b k (fun k => Int64.ofInt (s2.2.2.1 12 (base + k)))).2.1) ((fillS (rowS s2 q b 7 ((n : Nat) : Int)) b k (fun k => Int64.ofInt (s2.2.2.1 12 (base + k)))).2.2.1) ((fillS (rowS s2 q b 7 ((n : Nat) : Int)) b k (fun k => Int64.ofInt (s2.2.2.1 12 (base + k)))).2.2.2)) (fun r h' => ∃ x, r = some x ∧ dres pre post (gaB s base) W (7 + 3 * (n : Int)) nd (dGa (cpS s) W n ch place) x h') := by
                          intro n179
                          induction n179 using Nat.strongRecOn with
                          | ind n179 ih179 =>
                            intro k hm179 hk
                            refine me1 (pc' := 181) (L' := [(0, .ref 102), (1, ii ((base : Nat) : Int)), (2, ii place), (3, ii ((n : Nat) : Int)), (4, zz c1), (5, zz c2), (6, ii (q : Int)), (7, ii (k : Int))]) (S' := [ii (k : Int)]) dm_X12_gathered_179 rfl rfl rfl rfl ?_
                            refine me1 (pc' := 182) (L' := [(0, .ref 102), (1, ii ((base : Nat) : Int)), (2, ii place), (3, ii ((n : Nat) : Int)), (4, zz c1), (5, zz c2), (6, ii (q : Int)), (7, ii (k : Int))]) (S' := [ii ((n : Nat) : Int), ii (k : Int)]) dm_X12_gathered_181 rfl rfl rfl rfl ?_
                            refine y_2ge (a := (k : Int)) (b := ((n : Nat) : Int)) (t := 243) (pc' := 185) dm_X12_gathered_182 rfl rfl (by omega) (fun hb10 => ?_) (fun hb10 => ?_)
                            · have hkn2 : k = n := by omega
                              refine pg_cast (h2 := rI pre post ((fillS (rowS s2 q b 7 ((n : Nat) : Int)) b n (fun k => Int64.ofInt (s2.2.2.1 12 (base + k)))).1) ((fillS (rowS s2 q b 7 ((n : Nat) : Int)) b n (fun k => Int64.ofInt (s2.2.2.1 12 (base + k)))).2.1) ((fillS (rowS s2 q b 7 ((n : Nat) : Int)) b n (fun k => Int64.ofInt (s2.2.2.1 12 (base + k)))).2.2.1) ((fillS (rowS s2 q b 7 ((n : Nat) : Int)) b n (fun k => Int64.ofInt (s2.2.2.1 12 (base + k)))).2.2.2)) (by rw [hkn2]) ?_
                              refine me1 (pc' := 244) (L' := [(0, .ref 102), (1, ii ((base : Nat) : Int)), (2, ii place), (3, ii ((n : Nat) : Int)), (4, zz c1), (5, zz c2), (6, ii (q : Int)), (7, ii (k : Int))]) (S' := [.ref 102]) dm_X12_gathered_243 rfl rfl rfl rfl ?_
                              refine me1 (pc' := 246) (L' := [(0, .ref 102), (1, ii ((base : Nat) : Int)), (2, ii place), (3, ii ((n : Nat) : Int)), (4, zz c1), (5, zz c2), (6, ii (q : Int)), (7, ii (k : Int))]) (S' := [zz c1, .ref 102]) dm_X12_gathered_244 rfl rfl rfl rfl ?_
                              refine y_zeq (c := c1) (t := 258) (pc' := 249) dm_X12_gathered_246 rfl rfl (fun hb11 => ?_) (fun hb11 => ?_)
                              · refine me1 (pc' := 260) (L' := [(0, .ref 102), (1, ii ((base : Nat) : Int)), (2, ii place), (3, ii ((n : Nat) : Int)), (4, zz c1), (5, zz c2), (6, ii (q : Int)), (7, ii (k : Int))]) (S' := [ii (q : Int), .ref 102]) dm_X12_gathered_258 rfl rfl rfl rfl ?_
                                refine me1 (pc' := 261) (L' := [(0, .ref 102), (1, ii ((base : Nat) : Int)), (2, ii place), (3, ii ((n : Nat) : Int)), (4, zz c1), (5, zz c2), (6, ii (q : Int)), (7, ii (k : Int))]) (S' := [ii place, ii (q : Int), .ref 102]) dm_X12_gathered_260 rfl rfl rfl rfl ?_
                                have hG : rG pre post s2 8 (.inr (vnest n ch)) place n 1 (ii (q : Int)) (rS pre post (fillS (rowS s2 q b 7 ((n : Nat) : Int)) b n (fun k => Int64.ofInt (s2.2.2.1 12 (base + k))))) := rG_P (rresP_of (rres_nest (e := 7) (n := n) (ch := ch) hqS hq3 hbS heS (by omega) (fun k hk => by obtain ⟨p, p1, p2, p3⟩ := hch2 k hk; exact ⟨p, p1, by rw [p2], p3⟩) (Nat.le_refl _) (Nat.le_refl _)))
                                refine x_cv (pc' := 264) (rest := []) dm_X12_gathered_261 rfl (q_inv (As := [ii (q : Int), ii place]) (S := []) hm rfl rfl rfl) rfl rfl rfl (r_mdo (s := gaB s base) (s2 := s2) (W2 := W) (cost := 0) (p := 3) (C := n) (V := 1) (o := .inr (vnest n ch)) (c := 7 + 3 * (n : Int)) (nd := nd) hm (by omega) hT hBg hG (by rw [gaB_k (by decide)]; exact hca) (by omega) hW hnd (fun z hz => by cases hz) (fun v hv9 => by injection hv9 with hv9; rw [← hv9, ga_nest]; have := sumN_bd (n := n) (b := 1000) (f := fun k => vsz 7 (ch k)) hS1; have := Nat.mul_le_mul_right 1000 (show n ≤ 24 by omega); omega) (by omega) (by omega) (by rw [gaB_k (by decide), gaB_k (by decide)]; omega) (fun v hv9 _ _ => by injection hv9 with hv9; have z : vsz 7 (vnest n ch) = 1 + sumN n (fun k => vsz 6 (ch k)) := ga_nest 6; have y := sumN_ge (n := n) (f := fun k => vsz 6 (ch k)) (fun k _ => vsz_ge1); rw [← hv9]; omega)) ?_
                                rintro x9 g9 hfin
                                obtain ⟨z9, rfl⟩ := dres_ii hfin
                                obtain ⟨t9, rfl⟩ := dres_st hfin
                                refine y_ret (r := some (ii z9)) dm_X12_gathered_264 rfl rfl rfl ?_
                                refine ⟨_, rfl, ?_⟩
                                have e9 : dGa (cpS s) W n ch place = dMo (cpS (gaB s base)) W 3 (.inr (vnest n ch)) place := by unfold dGa; rw [gaV_v (Or.inl hn0) (Or.inl hn0) (by omega), cpS_ga]; rfl
                                rw [e9]
                                exact hfin
                              · exact absurd hb11 (by rw [hc1]; decide)
                            · refine me1 (pc' := 186) (L' := [(0, .ref 102), (1, ii ((base : Nat) : Int)), (2, ii place), (3, ii ((n : Nat) : Int)), (4, zz c1), (5, zz c2), (6, ii (q : Int)), (7, ii (k : Int))]) (S' := [.ref 102]) dm_X12_gathered_185 rfl rfl rfl rfl ?_
                              refine me3 (pc' := 189) (S' := [.ref (102 + 1)]) dm_X12_gathered_186 (q_getr hm rfl (fun m i l => rg_0 m i l)) rfl rfl rfl ?_
                              refine me1 (pc' := 190) (L' := [(0, .ref 102), (1, ii ((base : Nat) : Int)), (2, ii place), (3, ii ((n : Nat) : Int)), (4, zz c1), (5, zz c2), (6, ii (q : Int)), (7, ii (k : Int))]) (S' := [.ref 102, .ref (102 + 1)]) dm_X12_gathered_189 rfl rfl rfl rfl ?_
                              refine me3 (pc' := 193) (S' := [.ref (102 + 2), .ref (102 + 1)]) dm_X12_gathered_190 (q_getr hm rfl (fun m i l => rg_1 m i l)) rfl rfl rfl ?_
                              refine me1 (pc' := 195) (L' := [(0, .ref 102), (1, ii ((base : Nat) : Int)), (2, ii place), (3, ii ((n : Nat) : Int)), (4, zz c1), (5, zz c2), (6, ii (q : Int)), (7, ii (k : Int))]) (S' := [ii (q : Int), .ref (102 + 2), .ref (102 + 1)]) dm_X12_gathered_193 rfl rfl rfl rfl ?_
                              refine me3 (pc' := 196) (S' := [ii ((((fillS (rowS s2 q b 7 ((n : Nat) : Int)) b k (fun k => Int64.ofInt (s2.2.2.1 12 (base + k)))).2.2.1) 1) q), .ref (102 + 1)]) dm_X12_gathered_195 (q_iald (v := (((fillS (rowS s2 q b 7 ((n : Nat) : Int)) b k (fun k => Int64.ofInt (s2.2.2.1 12 (base + k)))).2.2.1) 1) q) (k := 1) (n := 310000) hm (fun m i l I J => rc_1 m i l I J) (by omega) (by omega) (by decide) rfl) rfl rfl rfl ?_
                              refine pg_st (S' := [ii (b : Int), .ref (102 + 1)]) (congrArg (fun z => ii z :: [.ref (102 + 1)]) (up_eq _ _ _)) ?_
                              refine me1 (pc' := 198) (L' := [(0, .ref 102), (1, ii ((base : Nat) : Int)), (2, ii place), (3, ii ((n : Nat) : Int)), (4, zz c1), (5, zz c2), (6, ii (q : Int)), (7, ii (k : Int))]) (S' := [ii (k : Int), ii (b : Int), .ref (102 + 1)]) dm_X12_gathered_196 rfl rfl rfl rfl ?_
                              refine y_iadd (a := (b : Int)) (b := (k : Int)) dm_X12_gathered_198 (pc' := 199) rfl ?_
                              refine me1 (pc' := 201) (L' := [(0, .ref 102), (1, ii ((base : Nat) : Int)), (2, ii place), (3, ii ((n : Nat) : Int)), (4, zz c1), (5, zz c2), (6, ii (q : Int)), (7, ii (k : Int))]) (S' := [zz c1, ii ((b : Int) + (k : Int)), .ref (102 + 1)]) dm_X12_gathered_199 rfl rfl rfl rfl ?_
                              refine y_zne (c := c1) (t := 209) (pc' := 204) dm_X12_gathered_201 rfl rfl (fun hb12 => ?_) (fun hb12 => ?_)
                              · exact absurd hb12 (by rw [hc1]; decide)
                              · refine me1 (pc' := 206) (L' := [(0, .ref 102), (1, ii ((base : Nat) : Int)), (2, ii place), (3, ii ((n : Nat) : Int)), (4, zz c1), (5, zz c2), (6, ii (q : Int)), (7, ii (k : Int))]) (S' := [zz c2, ii ((b : Int) + (k : Int)), .ref (102 + 1)]) dm_X12_gathered_204 rfl rfl rfl rfl ?_
                                refine y_zeq (c := c2) (t := 226) (pc' := 209) dm_X12_gathered_206 rfl rfl (fun hb13 => ?_) (fun hb13 => ?_)
                                · refine me1 (pc' := 227) (L' := [(0, .ref 102), (1, ii ((base : Nat) : Int)), (2, ii place), (3, ii ((n : Nat) : Int)), (4, zz c1), (5, zz c2), (6, ii (q : Int)), (7, ii (k : Int))]) (S' := [.ref 102, ii ((b : Int) + (k : Int)), .ref (102 + 1)]) dm_X12_gathered_226 rfl rfl rfl rfl ?_
                                  refine me3 (pc' := 230) (S' := [.ref (102 + 4), ii ((b : Int) + (k : Int)), .ref (102 + 1)]) dm_X12_gathered_227 (q_getr hm rfl (fun m i l => rg_12 m i l)) rfl rfl rfl ?_
                                  refine me1 (pc' := 231) (L' := [(0, .ref 102), (1, ii ((base : Nat) : Int)), (2, ii place), (3, ii ((n : Nat) : Int)), (4, zz c1), (5, zz c2), (6, ii (q : Int)), (7, ii (k : Int))]) (S' := [ii ((base : Nat) : Int), .ref (102 + 4), ii ((b : Int) + (k : Int)), .ref (102 + 1)]) dm_X12_gathered_230 rfl rfl rfl rfl ?_
                                  refine me1 (pc' := 233) (L' := [(0, .ref 102), (1, ii ((base : Nat) : Int)), (2, ii place), (3, ii ((n : Nat) : Int)), (4, zz c1), (5, zz c2), (6, ii (q : Int)), (7, ii (k : Int))]) (S' := [ii (k : Int), ii ((base : Nat) : Int), .ref (102 + 4), ii ((b : Int) + (k : Int)), .ref (102 + 1)]) dm_X12_gathered_231 rfl rfl rfl rfl ?_
                                  refine y_iadd (a := ((base : Nat) : Int)) (b := (k : Int)) dm_X12_gathered_233 (pc' := 234) rfl ?_
                                  refine pg_st (S' := [ii ((base + k : Nat) : Int), .ref (102 + 4), ii ((b : Int) + (k : Int)), .ref (102 + 1)]) (congrArg (fun z => ii z :: [.ref (102 + 4), ii ((b : Int) + (k : Int)), .ref (102 + 1)]) (by omega)) ?_
                                  refine me3 (pc' := 235) (S' := [ii ((((fillS (rowS s2 q b 7 ((n : Nat) : Int)) b k (fun k => Int64.ofInt (s2.2.2.1 12 (base + k)))).2.2.1) 12) (base + k)), ii ((b : Int) + (k : Int)), .ref (102 + 1)]) dm_X12_gathered_234 (q_iald (v := (((fillS (rowS s2 q b 7 ((n : Nat) : Int)) b k (fun k => Int64.ofInt (s2.2.2.1 12 (base + k)))).2.2.1) 12) (base + k)) (k := 12) (n := 8192) hm (fun m i l I J => rc_12 m i l I J) (by omega) (by omega) (by decide) rfl) rfl rfl rfl ?_
                                  obtain ⟨p235, hp235, hpe235, hpv235⟩ := hch2 k (by omega)
                                  have hlt235 := rv_lt hpv235
                                  have hrg : 0 ≤ s2.2.2.1 12 (base + k) ∧ s2.2.2.1 12 (base + k) ≤ 310000 := by omega
                                  refine pg_st (S' := [ii (s2.2.2.1 12 (base + k)), ii ((b : Int) + (k : Int)), .ref (102 + 1)]) (congrArg (fun z => ii z :: [ii ((b : Int) + (k : Int)), .ref (102 + 1)]) (rfl)) ?_
                                  refine y_i2l (a := s2.2.2.1 12 (base + k)) dm_X12_gathered_235 (pc' := 236) rfl (by omega) (by omega) ?_
                                  refine me3 (pc' := 237) (S' := []) (h1 := rI pre post ((fillS (rowS s2 q b 7 ((n : Nat) : Int)) b k (fun k => Int64.ofInt (s2.2.2.1 12 (base + k)))).1) ((fillS (rowS s2 q b 7 ((n : Nat) : Int)) b k (fun k => Int64.ofInt (s2.2.2.1 12 (base + k)))).2.1) ((fillS (rowS s2 q b 7 ((n : Nat) : Int)) b k (fun k => Int64.ofInt (s2.2.2.1 12 (base + k)))).2.2.1) (va_up ((fillS (rowS s2 q b 7 ((n : Nat) : Int)) b k (fun k => Int64.ofInt (s2.2.2.1 12 (base + k)))).2.2.2) 0 (va_up (((fillS (rowS s2 q b 7 ((n : Nat) : Int)) b k (fun k => Int64.ofInt (s2.2.2.1 12 (base + k)))).2.2.2) 0) (b + k) (Int64.ofInt (s2.2.2.1 12 (base + k)))))) dm_X12_gathered_236 (q_last (j := (b : Int) + (k : Int)) (k := 0) (n := 820000) hm (fun m i l I J => rc_0 m i l I J) (fun m i l I J f => rs_0 m i l I J f) (by omega) (by omega) (by decide)) rfl rfl rfl ?_
                                  refine y_iinc (pc' := 240) (L' := [(7, ii ((k : Int) + 1)), (0, .ref 102), (1, ii ((base : Nat) : Int)), (2, ii place), (3, ii ((n : Nat) : Int)), (4, zz c1), (5, zz c2), (6, ii (q : Int))]) dm_X12_gathered_237 (y_incp (a := (k : Int)) (c := 1) rfl rfl (by decide)) rfl ?_
                                  refine me2 (pc' := 179) (S' := []) dm_X12_gathered_240 rfl rfl rfl ?_
                                  refine pg_cast (h2 := rI pre post ((fillS (rowS s2 q b 7 ((n : Nat) : Int)) b (k + 1) (fun k => Int64.ofInt (s2.2.2.1 12 (base + k)))).1) ((fillS (rowS s2 q b 7 ((n : Nat) : Int)) b (k + 1) (fun k => Int64.ofInt (s2.2.2.1 12 (base + k)))).2.1) ((fillS (rowS s2 q b 7 ((n : Nat) : Int)) b (k + 1) (fun k => Int64.ofInt (s2.2.2.1 12 (base + k)))).2.2.1) ((fillS (rowS s2 q b 7 ((n : Nat) : Int)) b (k + 1) (fun k => Int64.ofInt (s2.2.2.1 12 (base + k)))).2.2.2)) (fill_s (rowS s2 q b 7 ((n : Nat) : Int)) b k (fun k => Int64.ofInt (s2.2.2.1 12 (base + k)))) ?_
                                  exact pg_sub (L := [(0, .ref 102), (1, ii ((base : Nat) : Int)), (2, ii place), (3, ii ((n : Nat) : Int)), (4, zz c1), (5, zz c2), (6, ii (q : Int)), (7, ii ((k + 1) : Int))]) rfl rfl rfl (ih179 (n - (k + 1)) (by omega) (k + 1) rfl (by omega))
                                · exact absurd hb13 (by rw [hc2]; decide)
                        refine pg_cast (h2 := rI pre post ((fillS (rowS s2 q b 7 ((n : Nat) : Int)) b 0 (fun k => Int64.ofInt (s2.2.2.1 12 (base + k)))).1) ((fillS (rowS s2 q b 7 ((n : Nat) : Int)) b 0 (fun k => Int64.ofInt (s2.2.2.1 12 (base + k)))).2.1) ((fillS (rowS s2 q b 7 ((n : Nat) : Int)) b 0 (fun k => Int64.ofInt (s2.2.2.1 12 (base + k)))).2.2.1) ((fillS (rowS s2 q b 7 ((n : Nat) : Int)) b 0 (fun k => Int64.ofInt (s2.2.2.1 12 (base + k)))).2.2.2)) (fill_0 (rowS s2 q b 7 ((n : Nat) : Int)) b (fun k => Int64.ofInt (s2.2.2.1 12 (base + k)))) ?_
                        exact pg_sub (L := [(0, .ref 102), (1, ii ((base : Nat) : Int)), (2, ii place), (3, ii ((n : Nat) : Int)), (4, zz c1), (5, zz c2), (6, ii (q : Int)), (7, ii (0 : Int))]) rfl rfl rfl (lp179 _ 0 rfl (Nat.zero_le _))
                      · exact absurd hb9 (by rw [hc1]; decide)
                    · exact absurd hb8 (by rw [hc2]; decide)
                  · refine me1 (pc' := 142) (L' := [(0, .ref 102), (1, ii ((base : Nat) : Int)), (2, ii place), (3, ii ((n : Nat) : Int)), (4, zz c1), (5, zz c2), (6, ii (k : Int))]) (S' := [.ref 102]) dm_X12_gathered_141 rfl rfl rfl rfl ?_
                    refine me0 (pc' := 144) (S' := [ii 8, .ref 102]) dm_X12_gathered_142 rfl rfl rfl rfl ?_
                    refine me1 (pc' := 145) (L' := [(0, .ref 102), (1, ii ((base : Nat) : Int)), (2, ii place), (3, ii ((n : Nat) : Int)), (4, zz c1), (5, zz c2), (6, ii (k : Int))]) (S' := [ii place, ii 8, .ref 102]) dm_X12_gathered_144 rfl rfl rfl rfl ?_
                    refine x_cv (pc' := 148) (rest := []) dm_X12_gathered_145 rfl (q_inv (As := [ii 8, ii place]) (S := []) hm rfl rfl rfl) rfl rfl rfl (r_fail_ (s := s2) hm (by omega) heS hca2.1 hca2.2) ?_
                    rintro _ _ ⟨rfl, rfl⟩
                    refine y_ret (r := some (ii (-1))) dm_X12_gathered_148 rfl rfl rfl ?_
                    exfalso; omega
                · exact absurd hb6 (by rw [hc2]; decide)
            · exfalso; omega
        exact pg_sub (L := [(0, .ref 102), (1, ii ((base : Nat) : Int)), (2, ii place), (3, ii ((n : Nat) : Int)), (4, zz false), (5, zz false), (6, ii (0 : Int))]) rfl rfl rfl (lp51 _ 0 false false rfl (Nat.zero_le _) rfl rfl)
      · exfalso; omega
    · exfalso; omega
  · exfalso; omega
