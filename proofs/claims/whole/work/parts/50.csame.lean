theorem dEq {p q : Prop} [Decidable p] [Decidable q] (h : decide p = decide q) : p ↔ q := by
  constructor
  · intro z; exact of_decide_eq_true (h ▸ decide_eq_true z)
  · intro z; exact of_decide_eq_true (h ▸ decide_eq_true z)
theorem dNe {p q : Prop} [Decidable p] [Decidable q] (h : decide p ≠ decide q) : ¬ (p ↔ q) := by
  intro z
  exact h (by by_cases hp : p <;> simp_all)
def allN (n : Nat) (f : Nat → Bool) : Bool := match n with
  | 0 => true
  | n + 1 => allN n f && f n
theorem allN_iff {n : Nat} {f : Nat → Bool} : allN n f = true ↔ ∀ k, k < n → f k = true := by
  induction n with
  | zero => exact ⟨fun _ k hk => absurd hk (Nat.not_lt_zero k), fun _ => rfl⟩
  | succ n ih =>
    show (allN n f && f n) = true ↔ _
    rw [Bool.and_eq_true, ih]
    constructor
    · intro h k hk
      by_cases z : k = n
      · subst z; exact h.2
      · exact h.1 k (by omega)
    · intro h
      exact ⟨fun k hk => h k (by omega), h n (by omega)⟩
theorem allN_f {n k : Nat} {f : Nat → Bool} (hk : k < n) (h : f k = false) : allN n f = false := by
  cases hz : allN n f with
  | false => rfl
  | true => rw [allN_iff.mp hz k hk] at h; cases h
theorem allN_congr {n : Nat} {f g : Nat → Bool} (h : ∀ k, k < n → f k = g k) : allN n f = allN n g := by
  induction n with
  | zero => rfl
  | succ n ih =>
    show (allN n f && f n) = (allN n g && g n)
    rw [ih (fun k hk => h k (by omega)), h n (by omega)]
def isNum (k : Nat) : Bool := decide (k = 2 ∨ k = 4 ∨ k = 5)
/-- SAME, down to a depth -/
def vsame : Nat → VV → VV → Bool
  | 0, _, _ => false
  | d + 1, a, b => if vk a ≤ 1 ∨ vk b ≤ 1 then decide (vk a = vk b) && decide (vn a 0 = vn b 0) else if (if isNum (vk a) = true then isNum (vk b) = false else vk a ≠ vk b) then false else if vm a ≠ vm b ∨ vc a ≠ vc b then false else if vk a = 7 then allN (vm a) (fun k => vsame d (vd a k) (vd b k)) else allN (vq a) (fun k => decide (vn a k = vn b k))
theorem vsame_1 {d : Nat} {a b : VV} (h : vk a ≤ 1 ∨ vk b ≤ 1) : vsame (d + 1) a b = (decide (vk a = vk b) && decide (vn a 0 = vn b 0)) := by unfold vsame; rw [if_pos h]
theorem isNum_f {k : Nat} : isNum k = false ↔ ¬ (k = 2 ∨ k = 4 ∨ k = 5) := by unfold isNum; rw [decide_eq_false_iff_not]
theorem isNum_t {k : Nat} : isNum k = true ↔ (k = 2 ∨ k = 4 ∨ k = 5) := by unfold isNum; rw [decide_eq_true_iff]
theorem vsame_no {d : Nat} {a b : VV} (h : 2 ≤ vk a) (h2 : 2 ≤ vk b) (hn : ((vk a = 2 ∨ vk a = 4 ∨ vk a = 5) ∧ ¬ (vk b = 2 ∨ vk b = 4 ∨ vk b = 5)) ∨ (¬ (vk a = 2 ∨ vk a = 4 ∨ vk a = 5) ∧ vk a ≠ vk b) ∨ vm a ≠ vm b ∨ vc a ≠ vc b) : vsame (d + 1) a b = false := by
  unfold vsame
  rw [if_neg (by omega)]
  by_cases c1 : isNum (vk a) = true
  · by_cases c2 : isNum (vk b) = false
    · rw [if_pos (by rw [if_pos c1]; exact c2)]
    · rw [if_neg (by rw [if_pos c1]; exact c2)]
      rw [isNum_t] at c1
      rw [isNum_f] at c2
      rw [if_pos (by omega)]
  · by_cases c2 : vk a ≠ vk b
    · rw [if_pos (by rw [if_neg c1]; exact c2)]
    · rw [if_neg (by rw [if_neg c1]; exact c2)]
      rw [isNum_t] at c1
      rw [if_pos (by omega)]
theorem vsame_yes {d : Nat} {a b : VV} (h : 2 ≤ vk a) (h2 : 2 ≤ vk b) (hn : ((vk a = 2 ∨ vk a = 4 ∨ vk a = 5) ∧ (vk b = 2 ∨ vk b = 4 ∨ vk b = 5)) ∨ (¬ (vk a = 2 ∨ vk a = 4 ∨ vk a = 5) ∧ vk a = vk b)) (hm : vm a = vm b) (hc : vc a = vc b) : vsame (d + 1) a b = if vk a = 7 then allN (vm a) (fun k => vsame d (vd a k) (vd b k)) else allN (vq a) (fun k => decide (vn a k = vn b k)) := by
  conv => lhs; unfold vsame
  rw [if_neg (by omega)]
  have c3 : ¬ (if isNum (vk a) = true then isNum (vk b) = false else vk a ≠ vk b) := by
    by_cases c1 : isNum (vk a) = true
    · rw [if_pos c1, isNum_f]; rw [isNum_t] at c1; omega
    · rw [if_neg c1]; rw [isNum_t] at c1; omega
  rw [if_neg c3, if_neg (by omega)]
-- [33, 46, 59]
set_option maxRecDepth 20000 in
theorem pm_X10_sameRun : mj_mmof pg_ms 125 = some ((⟨"ArrayCalculator$Value", "sameRun", "(LArrayCalculator$Value;ILArrayCalculator$Value;II)Z"⟩, prog_12_method_28_code, 8, (Option.some Jvm.ClassFile.FieldType.boolean)), 10, false, mj_dec prog_12_method_28_code) := rfl
theorem dm_X10_sameRun_0 : mj_dec prog_12_method_28_code 0 = some (.aload_n 0, 1) := by decide +kernel
theorem dm_X10_sameRun_1 : mj_dec prog_12_method_28_code 1 = some (.getfield 27, 3) := by decide +kernel
theorem dm_X10_sameRun_4 : mj_dec prog_12_method_28_code 4 = some (.iload_n 1, 1) := by decide +kernel
theorem dm_X10_sameRun_5 : mj_dec prog_12_method_28_code 5 = some (.iadd, 1) := by decide +kernel
theorem dm_X10_sameRun_6 : mj_dec prog_12_method_28_code 6 = some (.istore 5, 2) := by decide +kernel
theorem dm_X10_sameRun_8 : mj_dec prog_12_method_28_code 8 = some (.aload_n 2, 1) := by decide +kernel
theorem dm_X10_sameRun_9 : mj_dec prog_12_method_28_code 9 = some (.getfield 27, 3) := by decide +kernel
theorem dm_X10_sameRun_12 : mj_dec prog_12_method_28_code 12 = some (.iload_n 3, 1) := by decide +kernel
theorem dm_X10_sameRun_13 : mj_dec prog_12_method_28_code 13 = some (.iadd, 1) := by decide +kernel
theorem dm_X10_sameRun_14 : mj_dec prog_12_method_28_code 14 = some (.istore 6, 2) := by decide +kernel
theorem dm_X10_sameRun_16 : mj_dec prog_12_method_28_code 16 = some (.iload_n 1, 1) := by decide +kernel
theorem dm_X10_sameRun_17 : mj_dec prog_12_method_28_code 17 = some (.ifCond .lt 7, 3) := by decide +kernel
theorem dm_X10_sameRun_20 : mj_dec prog_12_method_28_code 20 = some (.iload_n 3, 1) := by decide +kernel
theorem dm_X10_sameRun_21 : mj_dec prog_12_method_28_code 21 = some (.ifCond .ge 5, 3) := by decide +kernel
theorem dm_X10_sameRun_26 : mj_dec prog_12_method_28_code 26 = some (.iconst 0, 1) := by decide +kernel
theorem dm_X10_sameRun_27 : mj_dec prog_12_method_28_code 27 = some (.istore 7, 2) := by decide +kernel
theorem dm_X10_sameRun_29 : mj_dec prog_12_method_28_code 29 = some (.iload 7, 2) := by decide +kernel
theorem dm_X10_sameRun_31 : mj_dec prog_12_method_28_code 31 = some (.iload 4, 2) := by decide +kernel
theorem dm_X10_sameRun_33 : mj_dec prog_12_method_28_code 33 = some (.if_icmp .ge 61, 3) := by decide +kernel
theorem dm_X10_sameRun_36 : mj_dec prog_12_method_28_code 36 = some (.iload 5, 2) := by decide +kernel
theorem dm_X10_sameRun_38 : mj_dec prog_12_method_28_code 38 = some (.iload 7, 2) := by decide +kernel
theorem dm_X10_sameRun_40 : mj_dec prog_12_method_28_code 40 = some (.iadd, 1) := by decide +kernel
theorem dm_X10_sameRun_41 : mj_dec prog_12_method_28_code 41 = some (.aload_n 0, 1) := by decide +kernel
theorem dm_X10_sameRun_42 : mj_dec prog_12_method_28_code 42 = some (.getfield 19, 3) := by decide +kernel
theorem dm_X10_sameRun_45 : mj_dec prog_12_method_28_code 45 = some (.arraylength, 1) := by decide +kernel
theorem dm_X10_sameRun_46 : mj_dec prog_12_method_28_code 46 = some (.if_icmp .ge 40, 3) := by decide +kernel
theorem dm_X10_sameRun_49 : mj_dec prog_12_method_28_code 49 = some (.iload 6, 2) := by decide +kernel
theorem dm_X10_sameRun_51 : mj_dec prog_12_method_28_code 51 = some (.iload 7, 2) := by decide +kernel
theorem dm_X10_sameRun_53 : mj_dec prog_12_method_28_code 53 = some (.iadd, 1) := by decide +kernel
theorem dm_X10_sameRun_54 : mj_dec prog_12_method_28_code 54 = some (.aload_n 2, 1) := by decide +kernel
theorem dm_X10_sameRun_55 : mj_dec prog_12_method_28_code 55 = some (.getfield 19, 3) := by decide +kernel
theorem dm_X10_sameRun_58 : mj_dec prog_12_method_28_code 58 = some (.arraylength, 1) := by decide +kernel
theorem dm_X10_sameRun_59 : mj_dec prog_12_method_28_code 59 = some (.if_icmp .ge 27, 3) := by decide +kernel
theorem dm_X10_sameRun_62 : mj_dec prog_12_method_28_code 62 = some (.aload_n 0, 1) := by decide +kernel
theorem dm_X10_sameRun_63 : mj_dec prog_12_method_28_code 63 = some (.getfield 19, 3) := by decide +kernel
theorem dm_X10_sameRun_66 : mj_dec prog_12_method_28_code 66 = some (.iload 5, 2) := by decide +kernel
theorem dm_X10_sameRun_68 : mj_dec prog_12_method_28_code 68 = some (.iload 7, 2) := by decide +kernel
theorem dm_X10_sameRun_70 : mj_dec prog_12_method_28_code 70 = some (.iadd, 1) := by decide +kernel
theorem dm_X10_sameRun_71 : mj_dec prog_12_method_28_code 71 = some (.laload, 1) := by decide +kernel
theorem dm_X10_sameRun_72 : mj_dec prog_12_method_28_code 72 = some (.aload_n 2, 1) := by decide +kernel
theorem dm_X10_sameRun_73 : mj_dec prog_12_method_28_code 73 = some (.getfield 19, 3) := by decide +kernel
theorem dm_X10_sameRun_76 : mj_dec prog_12_method_28_code 76 = some (.iload 6, 2) := by decide +kernel
theorem dm_X10_sameRun_78 : mj_dec prog_12_method_28_code 78 = some (.iload 7, 2) := by decide +kernel
theorem dm_X10_sameRun_80 : mj_dec prog_12_method_28_code 80 = some (.iadd, 1) := by decide +kernel
theorem dm_X10_sameRun_81 : mj_dec prog_12_method_28_code 81 = some (.laload, 1) := by decide +kernel
theorem dm_X10_sameRun_82 : mj_dec prog_12_method_28_code 82 = some (.lcmp, 1) := by decide +kernel
theorem dm_X10_sameRun_83 : mj_dec prog_12_method_28_code 83 = some (.ifCond .eq 5, 3) := by decide +kernel
theorem dm_X10_sameRun_86 : mj_dec prog_12_method_28_code 86 = some (.iconst 0, 1) := by decide +kernel
theorem dm_X10_sameRun_87 : mj_dec prog_12_method_28_code 87 = some (.ireturn, 1) := by decide +kernel
theorem dm_X10_sameRun_88 : mj_dec prog_12_method_28_code 88 = some (.iinc 7 1, 3) := by decide +kernel
theorem dm_X10_sameRun_91 : mj_dec prog_12_method_28_code 91 = some (.goto (-62), 3) := by decide +kernel
theorem dm_X10_sameRun_94 : mj_dec prog_12_method_28_code 94 = some (.iconst 1, 1) := by decide +kernel
theorem dm_X10_sameRun_95 : mj_dec prog_12_method_28_code 95 = some (.ireturn, 1) := by decide +kernel
theorem c_sameRun {xt : mj_X} {d e p : Nat} {A : Nat → Prop} {h : mj_H} {v : VV} {q s1 s2 n : Nat} {w : VV} {f1 : Nat → Value} (hx1 : xt 1 = some (.long, 0, f1)) (hd : 1 ≤ d) (hv : cv A h (e + 1) p v) (hw : cv A h (e + 1) q w) (hk1 : 2 ≤ vk v) (hk16 : vk v ≤ 6) (hk2 : 2 ≤ vk w) (hk26 : vk w ≤ 6) (hs1 : s1 + n ≤ vq v) (hs2 : s2 + n ≤ vq w) : pgP xt d 125 [.ref p, ii (s1 : Int), .ref q, ii (s2 : Int), ii (n : Int)] h (zz (allN n (fun k => decide (vn v (s1 + k) = vn w (s2 + k))))) := by
  have hwv := vq_le hv.1
  have hww := vq_le hw.1
  obtain ⟨row, fr, n1, vals, f, hp, ⟨hp2, hpA⟩, hfr, hn1, hrow, hF, hN⟩ := cv_row hv
  obtain ⟨row2, fr2, n2, vals2, f2, hq, ⟨hq2, hqA⟩, hfr2, hn2, hrow2, hF2, hN2⟩ := cv_row hw
  obtain ⟨hFa, hFb⟩ := hF hk1 hk16
  obtain ⟨hF2a, hF2b⟩ := hF2 hk2 hk26
  clear hF hF2 hN hN2
  have hq1 : n = 0 ∨ fr + vq v ≤ n1 := by by_cases z : 0 < vq v; exact Or.inr (hFa z); exact Or.inl (by omega)
  have hq22 : n = 0 ∨ fr2 + vq w ≤ n2 := by by_cases z : 0 < vq w; exact Or.inr (hF2a z); exact Or.inl (by omega)
  clear hFa hF2a
  refine x_enter pm_X10_sameRun (L0 := [(0, .ref p), (1, ii (s1 : Int)), (2, .ref q), (3, ii (s2 : Int)), (4, ii (n : Int))]) rfl (Nat.le_of_ble_eq_true rfl) (by omega) ?_
  refine me1 (pc' := 1) (L' := [(0, .ref p), (1, ii (s1 : Int)), (2, .ref q), (3, ii (s2 : Int)), (4, ii (n : Int))]) (S' := [.ref p]) dm_X10_sameRun_0 rfl rfl rfl rfl ?_
  refine me3 (pc' := 4) (S' := [ii (fr : Int)]) dm_X10_sameRun_1 (g_get (v := ii (fr : Int)) hp rfl rfl (by omega)) rfl rfl rfl ?_
  refine me1 (pc' := 5) (L' := [(0, .ref p), (1, ii (s1 : Int)), (2, .ref q), (3, ii (s2 : Int)), (4, ii (n : Int))]) (S' := [ii (s1 : Int), ii (fr : Int)]) dm_X10_sameRun_4 rfl rfl rfl rfl ?_
  refine y_iadd (a := (fr : Int)) (b := (s1 : Int)) dm_X10_sameRun_5 (pc' := 6) rfl ?_
  refine me1 (pc' := 8) (L' := [(5, ii ((fr : Int) + (s1 : Int))), (0, .ref p), (1, ii (s1 : Int)), (2, .ref q), (3, ii (s2 : Int)), (4, ii (n : Int))]) (S' := []) dm_X10_sameRun_6 rfl rfl rfl rfl ?_
  refine me1 (pc' := 9) (L' := [(5, ii ((fr : Int) + (s1 : Int))), (0, .ref p), (1, ii (s1 : Int)), (2, .ref q), (3, ii (s2 : Int)), (4, ii (n : Int))]) (S' := [.ref q]) dm_X10_sameRun_8 rfl rfl rfl rfl ?_
  refine me3 (pc' := 12) (S' := [ii (fr2 : Int)]) dm_X10_sameRun_9 (g_get (v := ii (fr2 : Int)) hq rfl rfl (by omega)) rfl rfl rfl ?_
  refine me1 (pc' := 13) (L' := [(5, ii ((fr : Int) + (s1 : Int))), (0, .ref p), (1, ii (s1 : Int)), (2, .ref q), (3, ii (s2 : Int)), (4, ii (n : Int))]) (S' := [ii (s2 : Int), ii (fr2 : Int)]) dm_X10_sameRun_12 rfl rfl rfl rfl ?_
  refine y_iadd (a := (fr2 : Int)) (b := (s2 : Int)) dm_X10_sameRun_13 (pc' := 14) rfl ?_
  refine me1 (pc' := 16) (L' := [(6, ii ((fr2 : Int) + (s2 : Int))), (5, ii ((fr : Int) + (s1 : Int))), (0, .ref p), (1, ii (s1 : Int)), (2, .ref q), (3, ii (s2 : Int)), (4, ii (n : Int))]) (S' := []) dm_X10_sameRun_14 rfl rfl rfl rfl ?_
  refine me1 (pc' := 17) (L' := [(6, ii ((fr2 : Int) + (s2 : Int))), (5, ii ((fr : Int) + (s1 : Int))), (0, .ref p), (1, ii (s1 : Int)), (2, .ref q), (3, ii (s2 : Int)), (4, ii (n : Int))]) (S' := [ii (s1 : Int)]) dm_X10_sameRun_16 rfl rfl rfl rfl ?_
  refine y_1lt (a := (s1 : Int)) (t := 24) (pc' := 20) dm_X10_sameRun_17 rfl rfl (by omega) (fun hb1 => ?_) (fun hb1 => ?_)
  · exfalso; omega
  · refine me1 (pc' := 21) (L' := [(6, ii ((fr2 : Int) + (s2 : Int))), (5, ii ((fr : Int) + (s1 : Int))), (0, .ref p), (1, ii (s1 : Int)), (2, .ref q), (3, ii (s2 : Int)), (4, ii (n : Int))]) (S' := [ii (s2 : Int)]) dm_X10_sameRun_20 rfl rfl rfl rfl ?_
    refine y_1ge (a := (s2 : Int)) (t := 26) (pc' := 24) dm_X10_sameRun_21 rfl rfl (by omega) (fun hb2 => ?_) (fun hb2 => ?_)
    · refine me0 (pc' := 27) (S' := [ii 0]) dm_X10_sameRun_26 rfl rfl rfl rfl ?_
      refine me1 (pc' := 29) (L' := [(7, ii 0), (6, ii ((fr2 : Int) + (s2 : Int))), (5, ii ((fr : Int) + (s1 : Int))), (0, .ref p), (1, ii (s1 : Int)), (2, .ref q), (3, ii (s2 : Int)), (4, ii (n : Int))]) (S' := []) dm_X10_sameRun_27 rfl rfl rfl rfl ?_
      have lp29 : ∀ (n29 : Nat) (k : Nat), n - k = n29 → (k ≤ n) → (∀ j, j < k → vn v (s1 + j) = vn w (s2 + j)) → pgE xt (d - 1) 10 8 false (Option.some Jvm.ClassFile.FieldType.boolean) (mj_dec prog_12_method_28_code) 29 [(0, .ref p), (1, ii (s1 : Int)), (2, .ref q), (3, ii (s2 : Int)), (4, ii (n : Int)), (5, ii ((fr : Int) + (s1 : Int))), (6, ii ((fr2 : Int) + (s2 : Int))), (7, ii (k : Int))] [] h (fun r h' => r = some (zz (allN n (fun k => decide (vn v (s1 + k) = vn w (s2 + k))))) ∧ h' = h) := by
        intro n29
        induction n29 using Nat.strongRecOn with
        | ind n29 ih29 =>
          intro k hm29 hk hall
          refine me1 (pc' := 31) (L' := [(0, .ref p), (1, ii (s1 : Int)), (2, .ref q), (3, ii (s2 : Int)), (4, ii (n : Int)), (5, ii ((fr : Int) + (s1 : Int))), (6, ii ((fr2 : Int) + (s2 : Int))), (7, ii (k : Int))]) (S' := [ii (k : Int)]) dm_X10_sameRun_29 rfl rfl rfl rfl ?_
          refine me1 (pc' := 33) (L' := [(0, .ref p), (1, ii (s1 : Int)), (2, .ref q), (3, ii (s2 : Int)), (4, ii (n : Int)), (5, ii ((fr : Int) + (s1 : Int))), (6, ii ((fr2 : Int) + (s2 : Int))), (7, ii (k : Int))]) (S' := [ii (n : Int), ii (k : Int)]) dm_X10_sameRun_31 rfl rfl rfl rfl ?_
          refine y_2ge (a := (k : Int)) (b := (n : Int)) (t := 94) (pc' := 36) dm_X10_sameRun_33 rfl rfl (by omega) (fun hb3 => ?_) (fun hb3 => ?_)
          · refine me0 (pc' := 95) (S' := [ii 1]) dm_X10_sameRun_94 rfl rfl rfl rfl ?_
            refine y_ret (r := some (ii 1)) dm_X10_sameRun_95 rfl rfl rfl ?_
            refine ⟨congrArg some ?_, rfl⟩
            have hkn : k = n := by omega
            subst hkn
            rw [show allN k _ = true from allN_iff.mpr (fun j hj => decide_eq_true (hall j hj))]; rfl
          · have hf1 : f ((fr : Int) + (s1 : Int) + (k : Int)).toNat = vn v (s1 + k) := by rw [← hFb (s1 + k) (by omega)]; congr 1; omega
            have hf2 : f2 ((fr2 : Int) + (s2 : Int) + (k : Int)).toNat = vn w (s2 + k) := by rw [← hF2b (s2 + k) (by omega)]; congr 1; omega
            refine me1 (pc' := 38) (L' := [(0, .ref p), (1, ii (s1 : Int)), (2, .ref q), (3, ii (s2 : Int)), (4, ii (n : Int)), (5, ii ((fr : Int) + (s1 : Int))), (6, ii ((fr2 : Int) + (s2 : Int))), (7, ii (k : Int))]) (S' := [ii ((fr : Int) + (s1 : Int))]) dm_X10_sameRun_36 rfl rfl rfl rfl ?_
            refine me1 (pc' := 40) (L' := [(0, .ref p), (1, ii (s1 : Int)), (2, .ref q), (3, ii (s2 : Int)), (4, ii (n : Int)), (5, ii ((fr : Int) + (s1 : Int))), (6, ii ((fr2 : Int) + (s2 : Int))), (7, ii (k : Int))]) (S' := [ii (k : Int), ii ((fr : Int) + (s1 : Int))]) dm_X10_sameRun_38 rfl rfl rfl rfl ?_
            refine y_iadd (a := (fr : Int) + (s1 : Int)) (b := (k : Int)) dm_X10_sameRun_40 (pc' := 41) rfl ?_
            refine me1 (pc' := 42) (L' := [(0, .ref p), (1, ii (s1 : Int)), (2, .ref q), (3, ii (s2 : Int)), (4, ii (n : Int)), (5, ii ((fr : Int) + (s1 : Int))), (6, ii ((fr2 : Int) + (s2 : Int))), (7, ii (k : Int))]) (S' := [.ref p, ii (((fr : Int) + (s1 : Int)) + (k : Int))]) dm_X10_sameRun_41 rfl rfl rfl rfl ?_
            refine me3 (pc' := 45) (S' := [.ref row, ii (((fr : Int) + (s1 : Int)) + (k : Int))]) dm_X10_sameRun_42 (g_get (v := .ref row) hp rfl rfl (by omega)) rfl rfl rfl ?_
            refine me3 (pc' := 46) (S' := [ii (n1 : Int), ii (((fr : Int) + (s1 : Int)) + (k : Int))]) dm_X10_sameRun_45 (yh_rlen hx1 hrow) rfl rfl rfl ?_
            refine y_2ge (a := ((fr : Int) + (s1 : Int)) + (k : Int)) (b := (n1 : Int)) (t := 86) (pc' := 49) dm_X10_sameRun_46 rfl rfl (by omega) (fun hb4 => ?_) (fun hb4 => ?_)
            · exfalso; omega
            · refine me1 (pc' := 51) (L' := [(0, .ref p), (1, ii (s1 : Int)), (2, .ref q), (3, ii (s2 : Int)), (4, ii (n : Int)), (5, ii ((fr : Int) + (s1 : Int))), (6, ii ((fr2 : Int) + (s2 : Int))), (7, ii (k : Int))]) (S' := [ii ((fr2 : Int) + (s2 : Int))]) dm_X10_sameRun_49 rfl rfl rfl rfl ?_
              refine me1 (pc' := 53) (L' := [(0, .ref p), (1, ii (s1 : Int)), (2, .ref q), (3, ii (s2 : Int)), (4, ii (n : Int)), (5, ii ((fr : Int) + (s1 : Int))), (6, ii ((fr2 : Int) + (s2 : Int))), (7, ii (k : Int))]) (S' := [ii (k : Int), ii ((fr2 : Int) + (s2 : Int))]) dm_X10_sameRun_51 rfl rfl rfl rfl ?_
              refine y_iadd (a := (fr2 : Int) + (s2 : Int)) (b := (k : Int)) dm_X10_sameRun_53 (pc' := 54) rfl ?_
              refine me1 (pc' := 55) (L' := [(0, .ref p), (1, ii (s1 : Int)), (2, .ref q), (3, ii (s2 : Int)), (4, ii (n : Int)), (5, ii ((fr : Int) + (s1 : Int))), (6, ii ((fr2 : Int) + (s2 : Int))), (7, ii (k : Int))]) (S' := [.ref q, ii (((fr2 : Int) + (s2 : Int)) + (k : Int))]) dm_X10_sameRun_54 rfl rfl rfl rfl ?_
              refine me3 (pc' := 58) (S' := [.ref row2, ii (((fr2 : Int) + (s2 : Int)) + (k : Int))]) dm_X10_sameRun_55 (g_get (v := .ref row2) hq rfl rfl (by omega)) rfl rfl rfl ?_
              refine me3 (pc' := 59) (S' := [ii (n2 : Int), ii (((fr2 : Int) + (s2 : Int)) + (k : Int))]) dm_X10_sameRun_58 (yh_rlen hx1 hrow2) rfl rfl rfl ?_
              refine y_2ge (a := ((fr2 : Int) + (s2 : Int)) + (k : Int)) (b := (n2 : Int)) (t := 86) (pc' := 62) dm_X10_sameRun_59 rfl rfl (by omega) (fun hb5 => ?_) (fun hb5 => ?_)
              · exfalso; omega
              · refine me1 (pc' := 63) (L' := [(0, .ref p), (1, ii (s1 : Int)), (2, .ref q), (3, ii (s2 : Int)), (4, ii (n : Int)), (5, ii ((fr : Int) + (s1 : Int))), (6, ii ((fr2 : Int) + (s2 : Int))), (7, ii (k : Int))]) (S' := [.ref p]) dm_X10_sameRun_62 rfl rfl rfl rfl ?_
                refine me3 (pc' := 66) (S' := [.ref row]) dm_X10_sameRun_63 (g_get (v := .ref row) hp rfl rfl (by omega)) rfl rfl rfl ?_
                refine me1 (pc' := 68) (L' := [(0, .ref p), (1, ii (s1 : Int)), (2, .ref q), (3, ii (s2 : Int)), (4, ii (n : Int)), (5, ii ((fr : Int) + (s1 : Int))), (6, ii ((fr2 : Int) + (s2 : Int))), (7, ii (k : Int))]) (S' := [ii ((fr : Int) + (s1 : Int)), .ref row]) dm_X10_sameRun_66 rfl rfl rfl rfl ?_
                refine me1 (pc' := 70) (L' := [(0, .ref p), (1, ii (s1 : Int)), (2, .ref q), (3, ii (s2 : Int)), (4, ii (n : Int)), (5, ii ((fr : Int) + (s1 : Int))), (6, ii ((fr2 : Int) + (s2 : Int))), (7, ii (k : Int))]) (S' := [ii (k : Int), ii ((fr : Int) + (s1 : Int)), .ref row]) dm_X10_sameRun_68 rfl rfl rfl rfl ?_
                refine y_iadd (a := (fr : Int) + (s1 : Int)) (b := (k : Int)) dm_X10_sameRun_70 (pc' := 71) rfl ?_
                refine me3 (pc' := 72) (S' := [.long (f ((((fr : Int) + (s1 : Int)) + (k : Int)).toNat))]) dm_X10_sameRun_71 (yh_rald (w := f ((((fr : Int) + (s1 : Int)) + (k : Int)).toNat)) hrow (by omega) (by omega) rfl) rfl rfl rfl ?_
                refine me1 (pc' := 73) (L' := [(0, .ref p), (1, ii (s1 : Int)), (2, .ref q), (3, ii (s2 : Int)), (4, ii (n : Int)), (5, ii ((fr : Int) + (s1 : Int))), (6, ii ((fr2 : Int) + (s2 : Int))), (7, ii (k : Int))]) (S' := [.ref q, .long (f ((((fr : Int) + (s1 : Int)) + (k : Int)).toNat))]) dm_X10_sameRun_72 rfl rfl rfl rfl ?_
                refine me3 (pc' := 76) (S' := [.ref row2, .long (f ((((fr : Int) + (s1 : Int)) + (k : Int)).toNat))]) dm_X10_sameRun_73 (g_get (v := .ref row2) hq rfl rfl (by omega)) rfl rfl rfl ?_
                refine me1 (pc' := 78) (L' := [(0, .ref p), (1, ii (s1 : Int)), (2, .ref q), (3, ii (s2 : Int)), (4, ii (n : Int)), (5, ii ((fr : Int) + (s1 : Int))), (6, ii ((fr2 : Int) + (s2 : Int))), (7, ii (k : Int))]) (S' := [ii ((fr2 : Int) + (s2 : Int)), .ref row2, .long (f ((((fr : Int) + (s1 : Int)) + (k : Int)).toNat))]) dm_X10_sameRun_76 rfl rfl rfl rfl ?_
                refine me1 (pc' := 80) (L' := [(0, .ref p), (1, ii (s1 : Int)), (2, .ref q), (3, ii (s2 : Int)), (4, ii (n : Int)), (5, ii ((fr : Int) + (s1 : Int))), (6, ii ((fr2 : Int) + (s2 : Int))), (7, ii (k : Int))]) (S' := [ii (k : Int), ii ((fr2 : Int) + (s2 : Int)), .ref row2, .long (f ((((fr : Int) + (s1 : Int)) + (k : Int)).toNat))]) dm_X10_sameRun_78 rfl rfl rfl rfl ?_
                refine y_iadd (a := (fr2 : Int) + (s2 : Int)) (b := (k : Int)) dm_X10_sameRun_80 (pc' := 81) rfl ?_
                refine me3 (pc' := 82) (S' := [.long (f2 ((((fr2 : Int) + (s2 : Int)) + (k : Int)).toNat)), .long (f ((((fr : Int) + (s1 : Int)) + (k : Int)).toNat))]) dm_X10_sameRun_81 (yh_rald (w := f2 ((((fr2 : Int) + (s2 : Int)) + (k : Int)).toNat)) hrow2 (by omega) (by omega) rfl) rfl rfl rfl ?_
                refine y_leq (x := f ((((fr : Int) + (s1 : Int)) + (k : Int)).toNat)) (y := f2 ((((fr2 : Int) + (s2 : Int)) + (k : Int)).toNat)) (t := 88) (pc1 := 83) (pc' := 86) dm_X10_sameRun_82 rfl dm_X10_sameRun_83 rfl rfl (fun hb6 => ?_) (fun hb6 => ?_)
                · refine y_iinc (pc' := 91) (L' := [(7, ii ((k : Int) + 1)), (0, .ref p), (1, ii (s1 : Int)), (2, .ref q), (3, ii (s2 : Int)), (4, ii (n : Int)), (5, ii ((fr : Int) + (s1 : Int))), (6, ii ((fr2 : Int) + (s2 : Int)))]) dm_X10_sameRun_88 (y_incp (a := (k : Int)) (c := 1) rfl rfl (by decide)) rfl ?_
                  refine me2 (pc' := 29) (S' := []) dm_X10_sameRun_91 rfl rfl rfl ?_
                  exact pg_sub (L := [(0, .ref p), (1, ii (s1 : Int)), (2, .ref q), (3, ii (s2 : Int)), (4, ii (n : Int)), (5, ii ((fr : Int) + (s1 : Int))), (6, ii ((fr2 : Int) + (s2 : Int))), (7, ii ((k + 1) : Int))]) rfl rfl rfl (ih29 (n - (k + 1)) (by omega) (k + 1) rfl (by omega) (fun j hj => by by_cases z : j = k; (subst z; rw [← hf1, ← hf2]; assumption); exact hall j (by omega)))
                · refine me0 (pc' := 87) (S' := [ii 0]) dm_X10_sameRun_86 rfl rfl rfl rfl ?_
                  refine y_ret (r := some (ii 0)) dm_X10_sameRun_87 rfl rfl rfl ?_
                  refine ⟨congrArg some ?_, rfl⟩
                  rw [allN_f (k := k) (by omega) (decide_eq_false (by rw [← hf1, ← hf2]; assumption))]; rfl
      exact pg_sub (L := [(0, .ref p), (1, ii (s1 : Int)), (2, .ref q), (3, ii (s2 : Int)), (4, ii (n : Int)), (5, ii ((fr : Int) + (s1 : Int))), (6, ii ((fr2 : Int) + (s2 : Int))), (7, ii (0 : Int))]) rfl rfl rfl (lp29 _ 0 rfl (by omega) (fun j hj => absurd hj (Nat.not_lt_zero j)))
    · exfalso; omega
