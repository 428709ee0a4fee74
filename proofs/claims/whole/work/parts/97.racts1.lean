/-- what an act does ahead of its making: nothing that is kept has changed -/
def rpre (s t : RS) : Prop := rext s t ∧ rfr s t ∧ t.1 3 = s.1 3 ∧ t.1 4 = s.1 4 ∧ t.1 5 = s.1 5 ∧ t.1 6 = s.1 6 ∧ t.1 10 = s.1 10 ∧ t.1 11 = s.1 11
theorem rres_bk {pre post : mj_H} {s t : RS} {e cb vb : Nat} {o : Nat ⊕ VV} {place : Int} {x : Value} {h' : mj_H} (hp : rpre s t) (hr : rres pre post t e o place cb vb x h') : rres pre post s e o place cb vb x h' := by
  obtain ⟨p1, p2, p3, p4, p5, p6, p7, p8⟩ := hp
  obtain ⟨s1, a1, a2, a3, a4, a5, a6⟩ := hr
  refine ⟨s1, a1, rext_tr p1 a2, rfr_tr p2 a3, by omega, by omega, ?_⟩
  cases o with
  | inl n => obtain ⟨b1, b2, b3⟩ := a6; exact ⟨b1, b2, by rw [b3, p7, p8]⟩
  | inr w => obtain ⟨b1, b2, b3⟩ := a6; exact ⟨b1, b2.trans p6, b3⟩
theorem rpre_rf (s : RS) : rpre s s := ⟨rext_rf s, rfr_rf s, rfl, rfl, rfl, rfl, rfl, rfl⟩
theorem rpre_tr {s t u : RS} (a : rpre s t) (b : rpre t u) : rpre s u := by
  obtain ⟨p1, p2, p3, p4, p5, p6, p7, p8⟩ := a
  obtain ⟨q1, q2, q3, q4, q5, q6, q7, q8⟩ := b
  exact ⟨rext_tr p1 q1, rfr_tr p2 q2, q3.trans p3, q4.trans p4, q5.trans p5, q6.trans p6, q7.trans p7, q8.trans p8⟩
theorem rpre_pr {s t : RS} (h : prR s t) : rpre s t := by
  obtain ⟨a1, a2, a3, a4⟩ := h
  refine ⟨⟨by rw [a1 4 (by decide)]; exact Int.le_refl _, by rw [a1 3 (by decide)]; exact Int.le_refl _, fun hd _ _ => ⟨by rw [a3 1 (by decide)], by rw [a3 2 (by decide)]⟩, fun k _ => by rw [a4]⟩, ⟨fun k _ _ _ _ c => a1 k c, a2, fun k _ _ _ _ c => a3 k c, fun k _ => by rw [a4], fun j _ => by rw [a3 12 (by decide)]⟩, a1 3 (by decide), a1 4 (by decide), a1 5 (by decide), a1 6 (by decide), a1 10 (by decide), a1 11 (by decide)⟩
/-- order has changed alone -/
def ordS (s : RS) (P : Nat → Int) : RS := (s.1, s.2.1, va_up s.2.2.1 14 P, s.2.2.2)
theorem ordS_14 (s : RS) (P : Nat → Int) : (ordS s P).2.2.1 14 = P := by
  show va_up s.2.2.1 14 P 14 = P
  exact up_eq _ _ _
theorem ordS_k (s : RS) (P : Nat → Int) {k : Nat} (h : k ≠ 14) : (ordS s P).2.2.1 k = s.2.2.1 k := by
  show va_up s.2.2.1 14 P k = _
  exact up_ne _ _ h
theorem rpre_ord (s : RS) (P : Nat → Int) : rpre s (ordS s P) :=
  ⟨⟨Int.le_refl _, Int.le_refl _, fun hd _ _ => ⟨by rw [ordS_k s P (by decide)], by rw [ordS_k s P (by decide)]⟩, fun _ _ => rfl⟩, ⟨fun _ _ _ _ _ _ => rfl, rfl, fun k _ _ _ c _ => ordS_k s P c, fun _ _ => rfl, fun j _ => by rw [ordS_k s P (by decide)]⟩, rfl, rfl, rfl, rfl, rfl, rfl⟩
theorem ord_0 {pre post : mj_H} (s : RS) : rS pre post s = rS pre post (ordS s (s.2.2.1 14)) := by
  show rI _ _ _ _ _ _ = rI _ _ _ _ _ _
  congr 1
  funext j
  show s.2.2.1 j = if j = 14 then s.2.2.1 14 else s.2.2.1 j
  by_cases h : j = 14
  · rw [if_pos h, h]
  · rw [if_neg h]
theorem ord_up {pre post : mj_H} (s : RS) (P : Nat → Int) (k : Nat) (x : Int) : rI pre post (ordS s P).1 (ordS s P).2.1 (va_up (ordS s P).2.2.1 14 (va_up ((ordS s P).2.2.1 14) k x)) (ordS s P).2.2.2 = rS pre post (ordS s (va_up P k x)) := by
  show rI pre post s.1 s.2.1 (va_up (va_up s.2.2.1 14 P) 14 (va_up ((ordS s P).2.2.1 14) k x)) s.2.2.2 = rI pre post s.1 s.2.1 (va_up s.2.2.1 14 (va_up P k x)) s.2.2.2
  rw [up_up, ordS_14]
theorem rv_ord {s : RS} {P : Nat → Int} {d hd : Nat} {v : VV} (h3 : 3 ≤ hd) (h : rv s d hd v) : rv (ordS s P) d hd v := rv_ext (rpre_ord s P).1 h3 h
theorem rB_ord {s : RS} {P : Nat → Int} (h : rB s) : rB (ordS s P) := h
/-- an error -/
theorem rres_fail {pre post : mj_H} {s t : RS} {e cb vb n : Nat} {place : Int} (hp : rpre s t) (he : s.1 5 = 0) : rres pre post s e (.inl n) place cb vb (ii (-1)) (rS pre post (failS t (n : Int) place)) := by
  refine rres_bk hp ⟨_, rfl, ⟨Int.le_refl _, Int.le_refl _, fun _ _ _ => ⟨rfl, rfl⟩, fun _ _ => rfl⟩, ⟨fun k _ _ c5 c6 _ => ?_, rfl, fun _ _ _ _ _ _ => rfl, fun _ _ => rfl, fun _ _ => rfl⟩, ?_, ?_, rfl, ?_, ?_⟩
  · show va_up (va_up t.1 5 _) 6 _ k = _
    rw [up_ne _ _ c6, up_ne _ _ c5]
  · show t.1 3 ≤ t.1 3 + ((rcb (.inl n) cb : Nat) : Int); omega
  · show t.1 4 ≤ t.1 4 + ((rvb (.inl n) vb : Nat) : Int); omega
  · rfl
  · rfl
set_option maxRecDepth 20000 in
theorem pm_X12_sort : mj_mmof pg_ms 287 = some ((⟨"ArrayCalculatorModel", "sort", "(IZ)V"⟩, prog_14_method_36_code, 5, (Option.none : Option Jvm.ClassFile.FieldType)), 12, false, mj_dec prog_14_method_36_code) := rfl
theorem dm_X12_sort_0 : mj_dec prog_14_method_36_code 0 = some (.iconst 0, 1) := by decide +kernel
theorem dm_X12_sort_1 : mj_dec prog_14_method_36_code 1 = some (.istore_n 3, 1) := by decide +kernel
theorem dm_X12_sort_2 : mj_dec prog_14_method_36_code 2 = some (.iload_n 3, 1) := by decide +kernel
theorem dm_X12_sort_3 : mj_dec prog_14_method_36_code 3 = some (.aload_n 0, 1) := by decide +kernel
theorem dm_X12_sort_4 : mj_dec prog_14_method_36_code 4 = some (.iload_n 1, 1) := by decide +kernel
theorem dm_X12_sort_5 : mj_dec prog_14_method_36_code 5 = some (.invokevirtual 134, 3) := by decide +kernel
theorem dm_X12_sort_8 : mj_dec prog_14_method_36_code 8 = some (.if_icmp .ge 102, 3) := by decide +kernel
theorem dm_X12_sort_11 : mj_dec prog_14_method_36_code 11 = some (.iload_n 3, 1) := by decide +kernel
theorem dm_X12_sort_12 : mj_dec prog_14_method_36_code 12 = some (.istore 4, 2) := by decide +kernel
theorem dm_X12_sort_14 : mj_dec prog_14_method_36_code 14 = some (.iload 4, 2) := by decide +kernel
theorem dm_X12_sort_16 : mj_dec prog_14_method_36_code 16 = some (.ifCond .le 80, 3) := by decide +kernel
theorem dm_X12_sort_19 : mj_dec prog_14_method_36_code 19 = some (.iload_n 2, 1) := by decide +kernel
theorem dm_X12_sort_20 : mj_dec prog_14_method_36_code 20 = some (.ifCond .eq 30, 3) := by decide +kernel
theorem dm_X12_sort_23 : mj_dec prog_14_method_36_code 23 = some (.aload_n 0, 1) := by decide +kernel
theorem dm_X12_sort_24 : mj_dec prog_14_method_36_code 24 = some (.iload_n 1, 1) := by decide +kernel
theorem dm_X12_sort_25 : mj_dec prog_14_method_36_code 25 = some (.aload_n 0, 1) := by decide +kernel
theorem dm_X12_sort_26 : mj_dec prog_14_method_36_code 26 = some (.getfield 33, 3) := by decide +kernel
theorem dm_X12_sort_29 : mj_dec prog_14_method_36_code 29 = some (.iload 4, 2) := by decide +kernel
theorem dm_X12_sort_31 : mj_dec prog_14_method_36_code 31 = some (.iconst 1, 1) := by decide +kernel
theorem dm_X12_sort_32 : mj_dec prog_14_method_36_code 32 = some (.isub, 1) := by decide +kernel
theorem dm_X12_sort_33 : mj_dec prog_14_method_36_code 33 = some (.iaload, 1) := by decide +kernel
theorem dm_X12_sort_34 : mj_dec prog_14_method_36_code 34 = some (.invokevirtual 138, 3) := by decide +kernel
theorem dm_X12_sort_37 : mj_dec prog_14_method_36_code 37 = some (.aload_n 0, 1) := by decide +kernel
theorem dm_X12_sort_38 : mj_dec prog_14_method_36_code 38 = some (.iload_n 1, 1) := by decide +kernel
theorem dm_X12_sort_39 : mj_dec prog_14_method_36_code 39 = some (.iload_n 3, 1) := by decide +kernel
theorem dm_X12_sort_40 : mj_dec prog_14_method_36_code 40 = some (.invokevirtual 138, 3) := by decide +kernel
theorem dm_X12_sort_43 : mj_dec prog_14_method_36_code 43 = some (.lcmp, 1) := by decide +kernel
theorem dm_X12_sort_44 : mj_dec prog_14_method_36_code 44 = some (.ifCond .ge 52, 3) := by decide +kernel
theorem dm_X12_sort_47 : mj_dec prog_14_method_36_code 47 = some (.goto 27, 3) := by decide +kernel
theorem dm_X12_sort_50 : mj_dec prog_14_method_36_code 50 = some (.aload_n 0, 1) := by decide +kernel
theorem dm_X12_sort_51 : mj_dec prog_14_method_36_code 51 = some (.iload_n 1, 1) := by decide +kernel
theorem dm_X12_sort_52 : mj_dec prog_14_method_36_code 52 = some (.aload_n 0, 1) := by decide +kernel
theorem dm_X12_sort_53 : mj_dec prog_14_method_36_code 53 = some (.getfield 33, 3) := by decide +kernel
theorem dm_X12_sort_56 : mj_dec prog_14_method_36_code 56 = some (.iload 4, 2) := by decide +kernel
theorem dm_X12_sort_58 : mj_dec prog_14_method_36_code 58 = some (.iconst 1, 1) := by decide +kernel
theorem dm_X12_sort_59 : mj_dec prog_14_method_36_code 59 = some (.isub, 1) := by decide +kernel
theorem dm_X12_sort_60 : mj_dec prog_14_method_36_code 60 = some (.iaload, 1) := by decide +kernel
theorem dm_X12_sort_61 : mj_dec prog_14_method_36_code 61 = some (.invokevirtual 138, 3) := by decide +kernel
theorem dm_X12_sort_64 : mj_dec prog_14_method_36_code 64 = some (.aload_n 0, 1) := by decide +kernel
theorem dm_X12_sort_65 : mj_dec prog_14_method_36_code 65 = some (.iload_n 1, 1) := by decide +kernel
theorem dm_X12_sort_66 : mj_dec prog_14_method_36_code 66 = some (.iload_n 3, 1) := by decide +kernel
theorem dm_X12_sort_67 : mj_dec prog_14_method_36_code 67 = some (.invokevirtual 138, 3) := by decide +kernel
theorem dm_X12_sort_70 : mj_dec prog_14_method_36_code 70 = some (.lcmp, 1) := by decide +kernel
theorem dm_X12_sort_71 : mj_dec prog_14_method_36_code 71 = some (.ifCond .le 25, 3) := by decide +kernel
theorem dm_X12_sort_74 : mj_dec prog_14_method_36_code 74 = some (.aload_n 0, 1) := by decide +kernel
theorem dm_X12_sort_75 : mj_dec prog_14_method_36_code 75 = some (.getfield 33, 3) := by decide +kernel
theorem dm_X12_sort_78 : mj_dec prog_14_method_36_code 78 = some (.iload 4, 2) := by decide +kernel
theorem dm_X12_sort_80 : mj_dec prog_14_method_36_code 80 = some (.aload_n 0, 1) := by decide +kernel
theorem dm_X12_sort_81 : mj_dec prog_14_method_36_code 81 = some (.getfield 33, 3) := by decide +kernel
theorem dm_X12_sort_84 : mj_dec prog_14_method_36_code 84 = some (.iload 4, 2) := by decide +kernel
theorem dm_X12_sort_86 : mj_dec prog_14_method_36_code 86 = some (.iconst 1, 1) := by decide +kernel
theorem dm_X12_sort_87 : mj_dec prog_14_method_36_code 87 = some (.isub, 1) := by decide +kernel
theorem dm_X12_sort_88 : mj_dec prog_14_method_36_code 88 = some (.iaload, 1) := by decide +kernel
theorem dm_X12_sort_89 : mj_dec prog_14_method_36_code 89 = some (.iastore, 1) := by decide +kernel
theorem dm_X12_sort_90 : mj_dec prog_14_method_36_code 90 = some (.iinc 4 (-1), 3) := by decide +kernel
theorem dm_X12_sort_93 : mj_dec prog_14_method_36_code 93 = some (.goto (-79), 3) := by decide +kernel
theorem dm_X12_sort_96 : mj_dec prog_14_method_36_code 96 = some (.aload_n 0, 1) := by decide +kernel
theorem dm_X12_sort_97 : mj_dec prog_14_method_36_code 97 = some (.getfield 33, 3) := by decide +kernel
theorem dm_X12_sort_100 : mj_dec prog_14_method_36_code 100 = some (.iload 4, 2) := by decide +kernel
theorem dm_X12_sort_102 : mj_dec prog_14_method_36_code 102 = some (.iload_n 3, 1) := by decide +kernel
theorem dm_X12_sort_103 : mj_dec prog_14_method_36_code 103 = some (.iastore, 1) := by decide +kernel
theorem dm_X12_sort_104 : mj_dec prog_14_method_36_code 104 = some (.iinc 3 1, 3) := by decide +kernel
theorem dm_X12_sort_107 : mj_dec prog_14_method_36_code 107 = some (.goto (-105), 3) := by decide +kernel
theorem dm_X12_sort_110 : mj_dec prog_14_method_36_code 110 = some (.return_, 1) := by decide +kernel
theorem r_sort_ {xt : mj_X} {d e hd q b : Nat} {pre post : mj_H} {s : RS} {v : VV} {place : Int} (hm : pre.length = 102) (hd1 : 3 ≤ d) (hB : rB s) (hv : rv s (e + 1) hd v) (hh3 : 3 ≤ hd) (hq : s.1 4 = (q : Int)) (hb : s.1 3 = (b : Int)) (hq3 : 3 ≤ q) (hV2 : q < 310000) (he0 : s.1 5 = 0) (hca : 0 ≤ s.1 10 ∧ s.1 10 ≤ 100) (hC : b + 300 ≤ 820000) {c : Bool} (hr2 : 2 ≤ vk v) (hr5 : vk v ≤ 5) (hq5 : vq v = vm v) : pgN xt d 287 [.ref 102, ii (hd : Int), zz c] (rS pre post s) (fun h' => ∃ P, h' = rS pre post (ordS s P) ∧ ∀ j, j < vm v → P j = ((srt (vlt (if c = true then 62 else 60) v) (vm v) j : Nat) : Int)) := by
  have hB0 := hB
  obtain ⟨hB1, hB2, hB3, hB4⟩ := hB
  obtain ⟨fr, hfr, hsh, hlt, hcl, hvk, hvm, hvc, hvq, hvcl⟩ := rv_val hv
  refine x_enter pm_X12_sort (L0 := [(0, .ref 102), (1, ii (hd : Int)), (2, zz c)]) rfl (Nat.le_of_ble_eq_true rfl) (by omega) ?_
  refine me0 (pc' := 1) (S' := [ii 0]) dm_X12_sort_0 rfl rfl rfl rfl ?_
  refine me1 (pc' := 2) (L' := [(3, ii 0), (0, .ref 102), (1, ii (hd : Int)), (2, zz c)]) (S' := []) dm_X12_sort_1 rfl rfl rfl rfl ?_
  have lp2 : ∀ (n2 : Nat) (k : Nat) (P : Nat → Int), vm v - k = n2 → (k ≤ vm v) → (∀ j, j < k → P j = ((srt (vlt (if c = true then 62 else 60) v) k j : Nat) : Int)) → pgE xt (d - 1) 12 5 false (Option.none : Option Jvm.ClassFile.FieldType) (mj_dec prog_14_method_36_code) 2 [(0, .ref 102), (1, ii (hd : Int)), (2, zz c), (3, ii ((k : Nat) : Int))] [] (rI pre post ((ordS s P).1) ((ordS s P).2.1) ((ordS s P).2.2.1) ((ordS s P).2.2.2)) (fun r h' => r = none ∧ ∃ P, h' = rS pre post (ordS s P) ∧ ∀ j, j < vm v → P j = ((srt (vlt (if c = true then 62 else 60) v) (vm v) j : Nat) : Int)) := by
    intro n2
    induction n2 using Nat.strongRecOn with
    | ind n2 ih2 =>
      intro k P hm2 hk hP
      refine me1 (pc' := 3) (L' := [(0, .ref 102), (1, ii (hd : Int)), (2, zz c), (3, ii ((k : Nat) : Int))]) (S' := [ii ((k : Nat) : Int)]) dm_X12_sort_2 rfl rfl rfl rfl ?_
      refine me1 (pc' := 4) (L' := [(0, .ref 102), (1, ii (hd : Int)), (2, zz c), (3, ii ((k : Nat) : Int))]) (S' := [.ref 102, ii ((k : Nat) : Int)]) dm_X12_sort_3 rfl rfl rfl rfl ?_
      refine me1 (pc' := 5) (L' := [(0, .ref 102), (1, ii (hd : Int)), (2, zz c), (3, ii ((k : Nat) : Int))]) (S' := [ii (hd : Int), .ref 102, ii ((k : Nat) : Int)]) dm_X12_sort_4 rfl rfl rfl rfl ?_
      refine x_cp (pc' := 8) (v := ii (vm v : Int)) (rest := [ii ((k : Nat) : Int)]) dm_X12_sort_5 rfl (q_inv (As := [ii (hd : Int)]) (S := [ii ((k : Nat) : Int)]) hm rfl rfl rfl) rfl rfl rfl (r_many_ hm (by omega) (rB_ord hB0) (rv_ord hh3 hv)) ?_
      refine y_2ge (a := ((k : Nat) : Int)) (b := (vm v : Int)) (t := 110) (pc' := 11) dm_X12_sort_8 rfl rfl (by omega) (fun hb1 => ?_) (fun hb1 => ?_)
      · refine y_ret (r := none) dm_X12_sort_110 rfl rfl rfl ?_
        have hkn : k = vm v := by omega
        rw [hkn] at hP
        exact ⟨rfl, P, rfl, hP⟩
      · refine me1 (pc' := 12) (L' := [(0, .ref 102), (1, ii (hd : Int)), (2, zz c), (3, ii ((k : Nat) : Int))]) (S' := [ii ((k : Nat) : Int)]) dm_X12_sort_11 rfl rfl rfl rfl ?_
        refine me1 (pc' := 14) (L' := [(4, ii ((k : Nat) : Int)), (0, .ref 102), (1, ii (hd : Int)), (2, zz c), (3, ii ((k : Nat) : Int))]) (S' := []) dm_X12_sort_12 rfl rfl rfl rfl ?_
        have lp14 : ∀ (n14 : Nat) (i : Nat) (Q : Nat → Int) (o : Nat → Nat), i = n14 → (i ≤ k) → (srt (vlt (if c = true then 62 else 60) v) (k + 1) = ins (vlt (if c = true then 62 else 60) v) k i o) → (∀ j, j ≤ k → j ≠ i → Q j = ((o j : Nat) : Int)) → (∀ j, j ≤ k → j ≠ i → o j < vm v) → pgE xt (d - 1) 12 5 false (Option.none : Option Jvm.ClassFile.FieldType) (mj_dec prog_14_method_36_code) 14 [(0, .ref 102), (1, ii (hd : Int)), (2, zz c), (3, ii ((k : Nat) : Int)), (4, ii ((i : Nat) : Int))] [] (rI pre post ((ordS s Q).1) ((ordS s Q).2.1) ((ordS s Q).2.2.1) ((ordS s Q).2.2.2)) (fun r h' => r = none ∧ ∃ P, h' = rS pre post (ordS s P) ∧ ∀ j, j < vm v → P j = ((srt (vlt (if c = true then 62 else 60) v) (vm v) j : Nat) : Int)) := by
          intro n14
          induction n14 using Nat.strongRecOn with
          | ind n14 ih14 =>
            intro i Q o hm14 hi hE hQ ho
            refine me1 (pc' := 16) (L' := [(0, .ref 102), (1, ii (hd : Int)), (2, zz c), (3, ii ((k : Nat) : Int)), (4, ii ((i : Nat) : Int))]) (S' := [ii ((i : Nat) : Int)]) dm_X12_sort_14 rfl rfl rfl rfl ?_
            refine y_1le (a := ((i : Nat) : Int)) (t := 96) (pc' := 19) dm_X12_sort_16 rfl rfl (by omega) (fun hb2 => ?_) (fun hb2 => ?_)
            · have hstop : i = 0 ∨ (vlt (if c = true then 62 else 60) v) k (o (i - 1)) = false := Or.inl (by omega)
              refine me1 (pc' := 97) (L' := [(0, .ref 102), (1, ii (hd : Int)), (2, zz c), (3, ii ((k : Nat) : Int)), (4, ii ((i : Nat) : Int))]) (S' := [.ref 102]) dm_X12_sort_96 rfl rfl rfl rfl ?_
              refine me3 (pc' := 100) (S' := [.ref (102 + 5)]) dm_X12_sort_97 (q_getr hm rfl (fun m i l => rg_14 m i l)) rfl rfl rfl ?_
              refine me1 (pc' := 102) (L' := [(0, .ref 102), (1, ii (hd : Int)), (2, zz c), (3, ii ((k : Nat) : Int)), (4, ii ((i : Nat) : Int))]) (S' := [ii ((i : Nat) : Int), .ref (102 + 5)]) dm_X12_sort_100 rfl rfl rfl rfl ?_
              refine me1 (pc' := 103) (L' := [(0, .ref 102), (1, ii (hd : Int)), (2, zz c), (3, ii ((k : Nat) : Int)), (4, ii ((i : Nat) : Int))]) (S' := [ii ((k : Nat) : Int), ii ((i : Nat) : Int), .ref (102 + 5)]) dm_X12_sort_102 rfl rfl rfl rfl ?_
              refine me3 (pc' := 104) (S' := []) (h1 := rI pre post ((ordS s Q).1) ((ordS s Q).2.1) (va_up ((ordS s Q).2.2.1) 14 (va_up (((ordS s Q).2.2.1) 14) i ((k : Nat) : Int))) ((ordS s Q).2.2.2)) dm_X12_sort_103 (q_iast (j := ((i : Nat) : Int)) (k := 14) (n := 260) hm (fun m i l I J => rc_14 m i l I J) (fun m i l I J f => rs_14 m i l I J f) (by omega) (by omega) (by decide)) rfl rfl rfl ?_
              refine y_iinc (pc' := 107) (L' := [(3, ii (((k : Nat) : Int) + 1)), (0, .ref 102), (1, ii (hd : Int)), (2, zz c), (4, ii ((i : Nat) : Int))]) dm_X12_sort_104 (y_incp (a := ((k : Nat) : Int)) (c := 1) rfl rfl (by decide)) rfl ?_
              refine me2 (pc' := 2) (S' := []) dm_X12_sort_107 rfl rfl rfl ?_
              refine pg_cast (h2 := rI pre post ((ordS s (va_up Q i ((k : Nat) : Int))).1) ((ordS s (va_up Q i ((k : Nat) : Int))).2.1) ((ordS s (va_up Q i ((k : Nat) : Int))).2.2.1) ((ordS s (va_up Q i ((k : Nat) : Int))).2.2.2)) (ord_up s Q i _) ?_
              exact pg_sub (L := [(0, .ref 102), (1, ii (hd : Int)), (2, zz c), (3, ii (((k + 1) : Nat) : Int))]) rfl rfl rfl (ih2 (vm v - (k + 1)) (by omega) (k + 1) (va_up Q i ((k : Nat) : Int)) rfl (by omega) (fun j hj => by rw [hE, ins_stop hstop, up_at, up_at]; by_cases z : j = i; (rw [if_pos z, if_pos z]); (rw [if_neg z, if_neg z]; exact hQ j (by omega) z)))
            · have hoi := ho (i - 1) (by omega) (by omega)
              have hQi : (ordS s Q).2.2.1 14 (((i : Nat) : Int) - 1).toNat = ((o (i - 1) : Nat) : Int) := by rw [ordS_14, show (((i : Nat) : Int) - 1).toNat = i - 1 by omega]; exact hQ _ (by omega) (by omega)
              refine me1 (pc' := 20) (L' := [(0, .ref 102), (1, ii (hd : Int)), (2, zz c), (3, ii ((k : Nat) : Int)), (4, ii ((i : Nat) : Int))]) (S' := [zz c]) dm_X12_sort_19 rfl rfl rfl rfl ?_
              refine y_zeq (c := c) (t := 50) (pc' := 23) dm_X12_sort_20 rfl rfl (fun hb3 => ?_) (fun hb3 => ?_)
              · have hcv := hb3
                refine me1 (pc' := 51) (L' := [(0, .ref 102), (1, ii (hd : Int)), (2, zz c), (3, ii ((k : Nat) : Int)), (4, ii ((i : Nat) : Int))]) (S' := [.ref 102]) dm_X12_sort_50 rfl rfl rfl rfl ?_
                refine me1 (pc' := 52) (L' := [(0, .ref 102), (1, ii (hd : Int)), (2, zz c), (3, ii ((k : Nat) : Int)), (4, ii ((i : Nat) : Int))]) (S' := [ii (hd : Int), .ref 102]) dm_X12_sort_51 rfl rfl rfl rfl ?_
                refine me1 (pc' := 53) (L' := [(0, .ref 102), (1, ii (hd : Int)), (2, zz c), (3, ii ((k : Nat) : Int)), (4, ii ((i : Nat) : Int))]) (S' := [.ref 102, ii (hd : Int), .ref 102]) dm_X12_sort_52 rfl rfl rfl rfl ?_
                refine me3 (pc' := 56) (S' := [.ref (102 + 5), ii (hd : Int), .ref 102]) dm_X12_sort_53 (q_getr hm rfl (fun m i l => rg_14 m i l)) rfl rfl rfl ?_
                refine me1 (pc' := 58) (L' := [(0, .ref 102), (1, ii (hd : Int)), (2, zz c), (3, ii ((k : Nat) : Int)), (4, ii ((i : Nat) : Int))]) (S' := [ii ((i : Nat) : Int), .ref (102 + 5), ii (hd : Int), .ref 102]) dm_X12_sort_56 rfl rfl rfl rfl ?_
                refine me0 (pc' := 59) (S' := [ii 1, ii ((i : Nat) : Int), .ref (102 + 5), ii (hd : Int), .ref 102]) dm_X12_sort_58 rfl rfl rfl rfl ?_
                refine y_isub (a := ((i : Nat) : Int)) (b := 1) dm_X12_sort_59 (pc' := 60) rfl ?_
                refine me3 (pc' := 61) (S' := [ii ((((ordS s Q).2.2.1) 14) ((((i : Nat) : Int) - 1).toNat)), ii (hd : Int), .ref 102]) dm_X12_sort_60 (q_iald (v := (((ordS s Q).2.2.1) 14) ((((i : Nat) : Int) - 1).toNat)) (k := 14) (n := 260) hm (fun m i l I J => rc_14 m i l I J) (by omega) (by omega) (by decide) rfl) rfl rfl rfl ?_
                refine pg_st (S' := [ii ((o (i - 1) : Nat) : Int), ii (hd : Int), .ref 102]) (congrArg (fun z => ii z :: [ii (hd : Int), .ref 102]) (hQi)) ?_
                refine x_cp (pc' := 64) (v := .long (vn v (o (i - 1)))) (rest := []) dm_X12_sort_61 rfl (q_inv (As := [ii (hd : Int), ii ((o (i - 1) : Nat) : Int)]) (S := []) hm rfl rfl rfl) rfl rfl rfl (r_number_ (k := o (i - 1)) hm (by omega) (rB_ord hB0) (rv_ord hh3 hv) (by omega) (by omega)) ?_
                refine me1 (pc' := 65) (L' := [(0, .ref 102), (1, ii (hd : Int)), (2, zz c), (3, ii ((k : Nat) : Int)), (4, ii ((i : Nat) : Int))]) (S' := [.ref 102, .long (vn v (o (i - 1)))]) dm_X12_sort_64 rfl rfl rfl rfl ?_
                refine me1 (pc' := 66) (L' := [(0, .ref 102), (1, ii (hd : Int)), (2, zz c), (3, ii ((k : Nat) : Int)), (4, ii ((i : Nat) : Int))]) (S' := [ii (hd : Int), .ref 102, .long (vn v (o (i - 1)))]) dm_X12_sort_65 rfl rfl rfl rfl ?_
                refine me1 (pc' := 67) (L' := [(0, .ref 102), (1, ii (hd : Int)), (2, zz c), (3, ii ((k : Nat) : Int)), (4, ii ((i : Nat) : Int))]) (S' := [ii ((k : Nat) : Int), ii (hd : Int), .ref 102, .long (vn v (o (i - 1)))]) dm_X12_sort_66 rfl rfl rfl rfl ?_
                refine x_cp (pc' := 70) (v := .long (vn v k)) (rest := [.long (vn v (o (i - 1)))]) dm_X12_sort_67 rfl (q_inv (As := [ii (hd : Int), ii ((k : Nat) : Int)]) (S := [.long (vn v (o (i - 1)))]) hm rfl rfl rfl) rfl rfl rfl (r_number_ (k := k) hm (by omega) (rB_ord hB0) (rv_ord hh3 hv) (by omega) (by omega)) ?_
                refine y_lle (x := vn v (o (i - 1))) (y := vn v k) (t := 96) (pc1 := 71) (pc' := 74) dm_X12_sort_70 rfl dm_X12_sort_71 rfl rfl (fun hb4 => ?_) (fun hb4 => ?_)
                · have hstop : i = 0 ∨ (vlt (if c = true then 62 else 60) v) k (o (i - 1)) = false := Or.inr (by show ahd (if c = true then 62 else 60) (vn v k) (vn v (o (i - 1))) = false; rw [if_neg (by rw [hcv]; decide)]; unfold ahd; rw [if_neg (by decide)]; exact decide_eq_false (by omega))
                  refine me1 (pc' := 97) (L' := [(0, .ref 102), (1, ii (hd : Int)), (2, zz c), (3, ii ((k : Nat) : Int)), (4, ii ((i : Nat) : Int))]) (S' := [.ref 102]) dm_X12_sort_96 rfl rfl rfl rfl ?_
                  refine me3 (pc' := 100) (S' := [.ref (102 + 5)]) dm_X12_sort_97 (q_getr hm rfl (fun m i l => rg_14 m i l)) rfl rfl rfl ?_
                  refine me1 (pc' := 102) (L' := [(0, .ref 102), (1, ii (hd : Int)), (2, zz c), (3, ii ((k : Nat) : Int)), (4, ii ((i : Nat) : Int))]) (S' := [ii ((i : Nat) : Int), .ref (102 + 5)]) dm_X12_sort_100 rfl rfl rfl rfl ?_
                  refine me1 (pc' := 103) (L' := [(0, .ref 102), (1, ii (hd : Int)), (2, zz c), (3, ii ((k : Nat) : Int)), (4, ii ((i : Nat) : Int))]) (S' := [ii ((k : Nat) : Int), ii ((i : Nat) : Int), .ref (102 + 5)]) dm_X12_sort_102 rfl rfl rfl rfl ?_
                  refine me3 (pc' := 104) (S' := []) (h1 := rI pre post ((ordS s Q).1) ((ordS s Q).2.1) (va_up ((ordS s Q).2.2.1) 14 (va_up (((ordS s Q).2.2.1) 14) i ((k : Nat) : Int))) ((ordS s Q).2.2.2)) dm_X12_sort_103 (q_iast (j := ((i : Nat) : Int)) (k := 14) (n := 260) hm (fun m i l I J => rc_14 m i l I J) (fun m i l I J f => rs_14 m i l I J f) (by omega) (by omega) (by decide)) rfl rfl rfl ?_
                  refine y_iinc (pc' := 107) (L' := [(3, ii (((k : Nat) : Int) + 1)), (0, .ref 102), (1, ii (hd : Int)), (2, zz c), (4, ii ((i : Nat) : Int))]) dm_X12_sort_104 (y_incp (a := ((k : Nat) : Int)) (c := 1) rfl rfl (by decide)) rfl ?_
                  refine me2 (pc' := 2) (S' := []) dm_X12_sort_107 rfl rfl rfl ?_
                  refine pg_cast (h2 := rI pre post ((ordS s (va_up Q i ((k : Nat) : Int))).1) ((ordS s (va_up Q i ((k : Nat) : Int))).2.1) ((ordS s (va_up Q i ((k : Nat) : Int))).2.2.1) ((ordS s (va_up Q i ((k : Nat) : Int))).2.2.2)) (ord_up s Q i _) ?_
                  exact pg_sub (L := [(0, .ref 102), (1, ii (hd : Int)), (2, zz c), (3, ii (((k + 1) : Nat) : Int))]) rfl rfl rfl (ih2 (vm v - (k + 1)) (by omega) (k + 1) (va_up Q i ((k : Nat) : Int)) rfl (by omega) (fun j hj => by rw [hE, ins_stop hstop, up_at, up_at]; by_cases z : j = i; (rw [if_pos z, if_pos z]); (rw [if_neg z, if_neg z]; exact hQ j (by omega) z)))
                · have hlt : (vlt (if c = true then 62 else 60) v) k (o (i - 1)) = true := by show ahd (if c = true then 62 else 60) (vn v k) (vn v (o (i - 1))) = true; rw [if_neg (by rw [hcv]; decide)]; unfold ahd; rw [if_neg (by decide)]; exact decide_eq_true (by omega)
                  refine me1 (pc' := 75) (L' := [(0, .ref 102), (1, ii (hd : Int)), (2, zz c), (3, ii ((k : Nat) : Int)), (4, ii ((i : Nat) : Int))]) (S' := [.ref 102]) dm_X12_sort_74 rfl rfl rfl rfl ?_
                  refine me3 (pc' := 78) (S' := [.ref (102 + 5)]) dm_X12_sort_75 (q_getr hm rfl (fun m i l => rg_14 m i l)) rfl rfl rfl ?_
                  refine me1 (pc' := 80) (L' := [(0, .ref 102), (1, ii (hd : Int)), (2, zz c), (3, ii ((k : Nat) : Int)), (4, ii ((i : Nat) : Int))]) (S' := [ii ((i : Nat) : Int), .ref (102 + 5)]) dm_X12_sort_78 rfl rfl rfl rfl ?_
                  refine me1 (pc' := 81) (L' := [(0, .ref 102), (1, ii (hd : Int)), (2, zz c), (3, ii ((k : Nat) : Int)), (4, ii ((i : Nat) : Int))]) (S' := [.ref 102, ii ((i : Nat) : Int), .ref (102 + 5)]) dm_X12_sort_80 rfl rfl rfl rfl ?_
                  refine me3 (pc' := 84) (S' := [.ref (102 + 5), ii ((i : Nat) : Int), .ref (102 + 5)]) dm_X12_sort_81 (q_getr hm rfl (fun m i l => rg_14 m i l)) rfl rfl rfl ?_
                  refine me1 (pc' := 86) (L' := [(0, .ref 102), (1, ii (hd : Int)), (2, zz c), (3, ii ((k : Nat) : Int)), (4, ii ((i : Nat) : Int))]) (S' := [ii ((i : Nat) : Int), .ref (102 + 5), ii ((i : Nat) : Int), .ref (102 + 5)]) dm_X12_sort_84 rfl rfl rfl rfl ?_
                  refine me0 (pc' := 87) (S' := [ii 1, ii ((i : Nat) : Int), .ref (102 + 5), ii ((i : Nat) : Int), .ref (102 + 5)]) dm_X12_sort_86 rfl rfl rfl rfl ?_
                  refine y_isub (a := ((i : Nat) : Int)) (b := 1) dm_X12_sort_87 (pc' := 88) rfl ?_
                  refine me3 (pc' := 89) (S' := [ii ((((ordS s Q).2.2.1) 14) ((((i : Nat) : Int) - 1).toNat)), ii ((i : Nat) : Int), .ref (102 + 5)]) dm_X12_sort_88 (q_iald (v := (((ordS s Q).2.2.1) 14) ((((i : Nat) : Int) - 1).toNat)) (k := 14) (n := 260) hm (fun m i l I J => rc_14 m i l I J) (by omega) (by omega) (by decide) rfl) rfl rfl rfl ?_
                  refine pg_st (S' := [ii ((o (i - 1) : Nat) : Int), ii ((i : Nat) : Int), .ref (102 + 5)]) (congrArg (fun z => ii z :: [ii ((i : Nat) : Int), .ref (102 + 5)]) (hQi)) ?_
                  refine me3 (pc' := 90) (S' := []) (h1 := rI pre post ((ordS s Q).1) ((ordS s Q).2.1) (va_up ((ordS s Q).2.2.1) 14 (va_up (((ordS s Q).2.2.1) 14) i ((o (i - 1) : Nat) : Int))) ((ordS s Q).2.2.2)) dm_X12_sort_89 (q_iast (j := ((i : Nat) : Int)) (k := 14) (n := 260) hm (fun m i l I J => rc_14 m i l I J) (fun m i l I J f => rs_14 m i l I J f) (by omega) (by omega) (by decide)) rfl rfl rfl ?_
                  refine y_iinc (pc' := 93) (L' := [(4, ii (((i : Nat) : Int) + (-1))), (0, .ref 102), (1, ii (hd : Int)), (2, zz c), (3, ii ((k : Nat) : Int))]) dm_X12_sort_90 (y_incp (a := ((i : Nat) : Int)) (c := (-1)) rfl rfl (by decide)) rfl ?_
                  rw [show ((i : Nat) : Int) + (-1) = ((i - 1 : Nat) : Int) by omega]
                  refine me2 (pc' := 14) (S' := []) dm_X12_sort_93 rfl rfl rfl ?_
                  refine pg_cast (h2 := rI pre post ((ordS s (va_up Q i ((o (i - 1) : Nat) : Int))).1) ((ordS s (va_up Q i ((o (i - 1) : Nat) : Int))).2.1) ((ordS s (va_up Q i ((o (i - 1) : Nat) : Int))).2.2.1) ((ordS s (va_up Q i ((o (i - 1) : Nat) : Int))).2.2.2)) (ord_up s Q i _) ?_
                  exact pg_sub (L := [(0, .ref 102), (1, ii (hd : Int)), (2, zz c), (3, ii ((k : Nat) : Int)), (4, ii (((i - 1) : Nat) : Int))]) rfl rfl rfl (ih14 (i - 1) (by omega) (i - 1) (va_up Q i ((o (i - 1) : Nat) : Int)) (va_up o i (o (i - 1))) rfl (by omega) (hE.trans (ins_go (by omega) hlt)) (fun j h1 h2 => by rw [up_at, up_at]; by_cases z : j = i; (rw [if_pos z, if_pos z]); (rw [if_neg z, if_neg z]; exact hQ j h1 z)) (fun j h1 h2 => by rw [up_at]; by_cases z : j = i; (rw [if_pos z]; exact ho (i - 1) (by omega) (by omega)); (rw [if_neg z]; exact ho j h1 z)))
              · have hcv := hb3
                refine me1 (pc' := 24) (L' := [(0, .ref 102), (1, ii (hd : Int)), (2, zz c), (3, ii ((k : Nat) : Int)), (4, ii ((i : Nat) : Int))]) (S' := [.ref 102]) dm_X12_sort_23 rfl rfl rfl rfl ?_
                refine me1 (pc' := 25) (L' := [(0, .ref 102), (1, ii (hd : Int)), (2, zz c), (3, ii ((k : Nat) : Int)), (4, ii ((i : Nat) : Int))]) (S' := [ii (hd : Int), .ref 102]) dm_X12_sort_24 rfl rfl rfl rfl ?_
                refine me1 (pc' := 26) (L' := [(0, .ref 102), (1, ii (hd : Int)), (2, zz c), (3, ii ((k : Nat) : Int)), (4, ii ((i : Nat) : Int))]) (S' := [.ref 102, ii (hd : Int), .ref 102]) dm_X12_sort_25 rfl rfl rfl rfl ?_
                refine me3 (pc' := 29) (S' := [.ref (102 + 5), ii (hd : Int), .ref 102]) dm_X12_sort_26 (q_getr hm rfl (fun m i l => rg_14 m i l)) rfl rfl rfl ?_
                refine me1 (pc' := 31) (L' := [(0, .ref 102), (1, ii (hd : Int)), (2, zz c), (3, ii ((k : Nat) : Int)), (4, ii ((i : Nat) : Int))]) (S' := [ii ((i : Nat) : Int), .ref (102 + 5), ii (hd : Int), .ref 102]) dm_X12_sort_29 rfl rfl rfl rfl ?_
                refine me0 (pc' := 32) (S' := [ii 1, ii ((i : Nat) : Int), .ref (102 + 5), ii (hd : Int), .ref 102]) dm_X12_sort_31 rfl rfl rfl rfl ?_
                refine y_isub (a := ((i : Nat) : Int)) (b := 1) dm_X12_sort_32 (pc' := 33) rfl ?_
                refine me3 (pc' := 34) (S' := [ii ((((ordS s Q).2.2.1) 14) ((((i : Nat) : Int) - 1).toNat)), ii (hd : Int), .ref 102]) dm_X12_sort_33 (q_iald (v := (((ordS s Q).2.2.1) 14) ((((i : Nat) : Int) - 1).toNat)) (k := 14) (n := 260) hm (fun m i l I J => rc_14 m i l I J) (by omega) (by omega) (by decide) rfl) rfl rfl rfl ?_
                refine pg_st (S' := [ii ((o (i - 1) : Nat) : Int), ii (hd : Int), .ref 102]) (congrArg (fun z => ii z :: [ii (hd : Int), .ref 102]) (hQi)) ?_
                refine x_cp (pc' := 37) (v := .long (vn v (o (i - 1)))) (rest := []) dm_X12_sort_34 rfl (q_inv (As := [ii (hd : Int), ii ((o (i - 1) : Nat) : Int)]) (S := []) hm rfl rfl rfl) rfl rfl rfl (r_number_ (k := o (i - 1)) hm (by omega) (rB_ord hB0) (rv_ord hh3 hv) (by omega) (by omega)) ?_
                refine me1 (pc' := 38) (L' := [(0, .ref 102), (1, ii (hd : Int)), (2, zz c), (3, ii ((k : Nat) : Int)), (4, ii ((i : Nat) : Int))]) (S' := [.ref 102, .long (vn v (o (i - 1)))]) dm_X12_sort_37 rfl rfl rfl rfl ?_
                refine me1 (pc' := 39) (L' := [(0, .ref 102), (1, ii (hd : Int)), (2, zz c), (3, ii ((k : Nat) : Int)), (4, ii ((i : Nat) : Int))]) (S' := [ii (hd : Int), .ref 102, .long (vn v (o (i - 1)))]) dm_X12_sort_38 rfl rfl rfl rfl ?_
                refine me1 (pc' := 40) (L' := [(0, .ref 102), (1, ii (hd : Int)), (2, zz c), (3, ii ((k : Nat) : Int)), (4, ii ((i : Nat) : Int))]) (S' := [ii ((k : Nat) : Int), ii (hd : Int), .ref 102, .long (vn v (o (i - 1)))]) dm_X12_sort_39 rfl rfl rfl rfl ?_
                refine x_cp (pc' := 43) (v := .long (vn v k)) (rest := [.long (vn v (o (i - 1)))]) dm_X12_sort_40 rfl (q_inv (As := [ii (hd : Int), ii ((k : Nat) : Int)]) (S := [.long (vn v (o (i - 1)))]) hm rfl rfl rfl) rfl rfl rfl (r_number_ (k := k) hm (by omega) (rB_ord hB0) (rv_ord hh3 hv) (by omega) (by omega)) ?_
                refine y_lge (x := vn v (o (i - 1))) (y := vn v k) (t := 96) (pc1 := 44) (pc' := 47) dm_X12_sort_43 rfl dm_X12_sort_44 rfl rfl (fun hb5 => ?_) (fun hb5 => ?_)
                · have hstop : i = 0 ∨ (vlt (if c = true then 62 else 60) v) k (o (i - 1)) = false := Or.inr (by show ahd (if c = true then 62 else 60) (vn v k) (vn v (o (i - 1))) = false; rw [if_pos hcv]; unfold ahd; rw [if_pos rfl]; exact decide_eq_false (by omega))
                  refine me1 (pc' := 97) (L' := [(0, .ref 102), (1, ii (hd : Int)), (2, zz c), (3, ii ((k : Nat) : Int)), (4, ii ((i : Nat) : Int))]) (S' := [.ref 102]) dm_X12_sort_96 rfl rfl rfl rfl ?_
                  refine me3 (pc' := 100) (S' := [.ref (102 + 5)]) dm_X12_sort_97 (q_getr hm rfl (fun m i l => rg_14 m i l)) rfl rfl rfl ?_
                  refine me1 (pc' := 102) (L' := [(0, .ref 102), (1, ii (hd : Int)), (2, zz c), (3, ii ((k : Nat) : Int)), (4, ii ((i : Nat) : Int))]) (S' := [ii ((i : Nat) : Int), .ref (102 + 5)]) dm_X12_sort_100 rfl rfl rfl rfl ?_
                  refine me1 (pc' := 103) (L' := [(0, .ref 102), (1, ii (hd : Int)), (2, zz c), (3, ii ((k : Nat) : Int)), (4, ii ((i : Nat) : Int))]) (S' := [ii ((k : Nat) : Int), ii ((i : Nat) : Int), .ref (102 + 5)]) dm_X12_sort_102 rfl rfl rfl rfl ?_
                  refine me3 (pc' := 104) (S' := []) (h1 := rI pre post ((ordS s Q).1) ((ordS s Q).2.1) (va_up ((ordS s Q).2.2.1) 14 (va_up (((ordS s Q).2.2.1) 14) i ((k : Nat) : Int))) ((ordS s Q).2.2.2)) dm_X12_sort_103 (q_iast (j := ((i : Nat) : Int)) (k := 14) (n := 260) hm (fun m i l I J => rc_14 m i l I J) (fun m i l I J f => rs_14 m i l I J f) (by omega) (by omega) (by decide)) rfl rfl rfl ?_
                  refine y_iinc (pc' := 107) (L' := [(3, ii (((k : Nat) : Int) + 1)), (0, .ref 102), (1, ii (hd : Int)), (2, zz c), (4, ii ((i : Nat) : Int))]) dm_X12_sort_104 (y_incp (a := ((k : Nat) : Int)) (c := 1) rfl rfl (by decide)) rfl ?_
                  refine me2 (pc' := 2) (S' := []) dm_X12_sort_107 rfl rfl rfl ?_
                  refine pg_cast (h2 := rI pre post ((ordS s (va_up Q i ((k : Nat) : Int))).1) ((ordS s (va_up Q i ((k : Nat) : Int))).2.1) ((ordS s (va_up Q i ((k : Nat) : Int))).2.2.1) ((ordS s (va_up Q i ((k : Nat) : Int))).2.2.2)) (ord_up s Q i _) ?_
                  exact pg_sub (L := [(0, .ref 102), (1, ii (hd : Int)), (2, zz c), (3, ii (((k + 1) : Nat) : Int))]) rfl rfl rfl (ih2 (vm v - (k + 1)) (by omega) (k + 1) (va_up Q i ((k : Nat) : Int)) rfl (by omega) (fun j hj => by rw [hE, ins_stop hstop, up_at, up_at]; by_cases z : j = i; (rw [if_pos z, if_pos z]); (rw [if_neg z, if_neg z]; exact hQ j (by omega) z)))
                · have hlt : (vlt (if c = true then 62 else 60) v) k (o (i - 1)) = true := by show ahd (if c = true then 62 else 60) (vn v k) (vn v (o (i - 1))) = true; rw [if_pos hcv]; unfold ahd; rw [if_pos rfl]; exact decide_eq_true (by omega)
                  refine me2 (pc' := 74) (S' := []) dm_X12_sort_47 rfl rfl rfl ?_
                  refine me1 (pc' := 75) (L' := [(0, .ref 102), (1, ii (hd : Int)), (2, zz c), (3, ii ((k : Nat) : Int)), (4, ii ((i : Nat) : Int))]) (S' := [.ref 102]) dm_X12_sort_74 rfl rfl rfl rfl ?_
                  refine me3 (pc' := 78) (S' := [.ref (102 + 5)]) dm_X12_sort_75 (q_getr hm rfl (fun m i l => rg_14 m i l)) rfl rfl rfl ?_
                  refine me1 (pc' := 80) (L' := [(0, .ref 102), (1, ii (hd : Int)), (2, zz c), (3, ii ((k : Nat) : Int)), (4, ii ((i : Nat) : Int))]) (S' := [ii ((i : Nat) : Int), .ref (102 + 5)]) dm_X12_sort_78 rfl rfl rfl rfl ?_
                  refine me1 (pc' := 81) (L' := [(0, .ref 102), (1, ii (hd : Int)), (2, zz c), (3, ii ((k : Nat) : Int)), (4, ii ((i : Nat) : Int))]) (S' := [.ref 102, ii ((i : Nat) : Int), .ref (102 + 5)]) dm_X12_sort_80 rfl rfl rfl rfl ?_
                  refine me3 (pc' := 84) (S' := [.ref (102 + 5), ii ((i : Nat) : Int), .ref (102 + 5)]) dm_X12_sort_81 (q_getr hm rfl (fun m i l => rg_14 m i l)) rfl rfl rfl ?_
                  refine me1 (pc' := 86) (L' := [(0, .ref 102), (1, ii (hd : Int)), (2, zz c), (3, ii ((k : Nat) : Int)), (4, ii ((i : Nat) : Int))]) (S' := [ii ((i : Nat) : Int), .ref (102 + 5), ii ((i : Nat) : Int), .ref (102 + 5)]) dm_X12_sort_84 rfl rfl rfl rfl ?_
                  refine me0 (pc' := 87) (S' := [ii 1, ii ((i : Nat) : Int), .ref (102 + 5), ii ((i : Nat) : Int), .ref (102 + 5)]) dm_X12_sort_86 rfl rfl rfl rfl ?_
                  refine y_isub (a := ((i : Nat) : Int)) (b := 1) dm_X12_sort_87 (pc' := 88) rfl ?_
                  refine me3 (pc' := 89) (S' := [ii ((((ordS s Q).2.2.1) 14) ((((i : Nat) : Int) - 1).toNat)), ii ((i : Nat) : Int), .ref (102 + 5)]) dm_X12_sort_88 (q_iald (v := (((ordS s Q).2.2.1) 14) ((((i : Nat) : Int) - 1).toNat)) (k := 14) (n := 260) hm (fun m i l I J => rc_14 m i l I J) (by omega) (by omega) (by decide) rfl) rfl rfl rfl ?_
                  refine pg_st (S' := [ii ((o (i - 1) : Nat) : Int), ii ((i : Nat) : Int), .ref (102 + 5)]) (congrArg (fun z => ii z :: [ii ((i : Nat) : Int), .ref (102 + 5)]) (hQi)) ?_
                  refine me3 (pc' := 90) (S' := []) (h1 := rI pre post ((ordS s Q).1) ((ordS s Q).2.1) (va_up ((ordS s Q).2.2.1) 14 (va_up (((ordS s Q).2.2.1) 14) i ((o (i - 1) : Nat) : Int))) ((ordS s Q).2.2.2)) dm_X12_sort_89 (q_iast (j := ((i : Nat) : Int)) (k := 14) (n := 260) hm (fun m i l I J => rc_14 m i l I J) (fun m i l I J f => rs_14 m i l I J f) (by omega) (by omega) (by decide)) rfl rfl rfl ?_
                  refine y_iinc (pc' := 93) (L' := [(4, ii (((i : Nat) : Int) + (-1))), (0, .ref 102), (1, ii (hd : Int)), (2, zz c), (3, ii ((k : Nat) : Int))]) dm_X12_sort_90 (y_incp (a := ((i : Nat) : Int)) (c := (-1)) rfl rfl (by decide)) rfl ?_
                  rw [show ((i : Nat) : Int) + (-1) = ((i - 1 : Nat) : Int) by omega]
                  refine me2 (pc' := 14) (S' := []) dm_X12_sort_93 rfl rfl rfl ?_
                  refine pg_cast (h2 := rI pre post ((ordS s (va_up Q i ((o (i - 1) : Nat) : Int))).1) ((ordS s (va_up Q i ((o (i - 1) : Nat) : Int))).2.1) ((ordS s (va_up Q i ((o (i - 1) : Nat) : Int))).2.2.1) ((ordS s (va_up Q i ((o (i - 1) : Nat) : Int))).2.2.2)) (ord_up s Q i _) ?_
                  exact pg_sub (L := [(0, .ref 102), (1, ii (hd : Int)), (2, zz c), (3, ii ((k : Nat) : Int)), (4, ii (((i - 1) : Nat) : Int))]) rfl rfl rfl (ih14 (i - 1) (by omega) (i - 1) (va_up Q i ((o (i - 1) : Nat) : Int)) (va_up o i (o (i - 1))) rfl (by omega) (hE.trans (ins_go (by omega) hlt)) (fun j h1 h2 => by rw [up_at, up_at]; by_cases z : j = i; (rw [if_pos z, if_pos z]); (rw [if_neg z, if_neg z]; exact hQ j h1 z)) (fun j h1 h2 => by rw [up_at]; by_cases z : j = i; (rw [if_pos z]; exact ho (i - 1) (by omega) (by omega)); (rw [if_neg z]; exact ho j h1 z)))
        exact pg_sub (L := [(0, .ref 102), (1, ii (hd : Int)), (2, zz c), (3, ii ((k : Nat) : Int)), (4, ii ((k : Nat) : Int))]) rfl rfl rfl (lp14 _ k P (srt (vlt (if c = true then 62 else 60) v) k) rfl (Nat.le_refl _) rfl (fun j h1 h2 => hP j (by omega)) (fun j h1 h2 => by have := srt_lt (vlt (if c = true then 62 else 60) v) k j (by omega); omega))
  refine pg_cast (h2 := rI pre post ((ordS s (s.2.2.1 14)).1) ((ordS s (s.2.2.1 14)).2.1) ((ordS s (s.2.2.1 14)).2.2.1) ((ordS s (s.2.2.1 14)).2.2.2)) (ord_0 s) ?_
  exact pg_sub (L := [(0, .ref 102), (1, ii (hd : Int)), (2, zz c), (3, ii ((0 : Nat) : Int))]) rfl rfl rfl (lp2 _ 0 (s.2.2.1 14) rfl (Nat.zero_le _) (fun j hj => absurd hj (Nat.not_lt_zero j)))
