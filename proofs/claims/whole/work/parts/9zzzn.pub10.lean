/-! Names: a copy of another -/
def cpF {α : Type} (f g : Nat → α) (k : Nat) : Nat → α := fun j => if j < k then g j else f j
theorem cpF_0 {α : Type} (f g : Nat → α) : cpF f g 0 = f := by funext j; unfold cpF; rw [if_neg (by omega)]
theorem cpF_v {α : Type} (f g : Nat → α) (k : Nat) {w : α} (e : g k = w) : va_up (cpF f g k) k w = cpF f g (k + 1) := by
  funext j
  rw [up_at]
  unfold cpF
  by_cases z : j = k
  · rw [if_pos z, if_pos (by omega), z, e]
  · rw [if_neg z]
    by_cases y : j < k
    · rw [if_pos y, if_pos (by omega)]
    · rw [if_neg y, if_neg (by omega)]
theorem cpF_at {α : Type} (f g : Nat → α) {k j : Nat} (h : j < k) : cpF f g k j = g j := if_pos h
theorem set8 {h : mj_H} {a b c d : Nat} (h1 : b ≠ a) (h2 : c ≠ a) (h3 : d ≠ a) (h4 : c ≠ b) (h5 : d ≠ b) (h6 : d ≠ c) (x y z w x' y' z' w' : mj_E) : ((((((((h.set a x).set b y).set c z).set d w).set a x').set b y').set c z').set d w') = (((h.set a x').set b y').set c z').set d w' := by
  rw [List.set_comm w x' h3, List.set_comm z x' h2, List.set_comm y x' h1, List.set_set, List.set_comm w y' h5, List.set_comm z y' h4, List.set_set, List.set_comm w z' h6, List.set_set, List.set_set]
theorem set44 {h : mj_H} {a b c d : Nat} {x y z w : mj_E} (h1 : h[a]? = some x) (h2 : h[b]? = some y) (h3 : h[c]? = some z) (h4 : h[d]? = some w) : h = (((h.set a x).set b y).set c z).set d w := by
  rw [hl_self h1, hl_self h2, hl_self h3, hl_self h4]
/-- the cells of two Names lie apart -/
def CDis (o a1 a2 a3 a4 p b1 b2 b3 b4 : Nat) : Prop := (o ≠ p ∧ o ≠ b1 ∧ o ≠ b2 ∧ o ≠ b3 ∧ o ≠ b4) ∧ (a1 ≠ p ∧ a1 ≠ b1 ∧ a1 ≠ b2 ∧ a1 ≠ b3 ∧ a1 ≠ b4) ∧ (a2 ≠ p ∧ a2 ≠ b1 ∧ a2 ≠ b2 ∧ a2 ≠ b3 ∧ a2 ≠ b4) ∧ (a3 ≠ p ∧ a3 ≠ b1 ∧ a3 ≠ b2 ∧ a3 ≠ b3 ∧ a3 ≠ b4) ∧ (a4 ≠ p ∧ a4 ≠ b1 ∧ a4 ≠ b2 ∧ a4 ≠ b3 ∧ a4 ≠ b4)
/-- each entry is null or of its class -/
def ENT (h : mj_H) (c : Nat) (vf : Nat → Option Nat) : Prop := ∀ k, k < 40 → vf k = none ∨ ∃ q fs, vf k = some q ∧ 2 ≤ q ∧ h[q]? = some (cO c fs)
/-- what copyOf leaves -/
def cpH (h : mj_H) (o a1 a2 a3 a4 n m : Nat) (kf : Nat → Int64) (vf : Nat → Option Nat) (jf : Nat → Int64) (of : Nat → Option Nat) : mj_H := ((((h.set o (cO 2 [.ref a1, .ref a2, ii (n : Int), .ref a3, .ref a4, ii (m : Int)])).set a1 (cJ 40 kf)).set a2 (cA 4 40 vf)).set a3 (cJ 40 jf)).set a4 (cA 5 40 of)
theorem ne_cell {h : mj_H} {q a : Nat} {e e' : mj_E} (h1 : h[q]? = some e) (h2 : h[a]? = some e') (hn : e ≠ e') : q ≠ a := fun z => by
  rw [z, h2] at h1
  injection h1 with h1
  exact hn h1.symm
set_option maxRecDepth 20000 in
theorem pm_X2_copyOf : mj_mmof pg_ms 189 = some ((⟨"ArrayCalculator$Names", "copyOf", "(LArrayCalculator$Names;)V"⟩, prog_4_method_11_code, 3, (Option.none : Option Jvm.ClassFile.FieldType)), 2, false, mj_dec prog_4_method_11_code) := rfl
theorem dm_X2_copyOf_0 : mj_dec prog_4_method_11_code 0 = some (.aload_n 0, 1) := by decide +kernel
theorem dm_X2_copyOf_1 : mj_dec prog_4_method_11_code 1 = some (.aload_n 1, 1) := by decide +kernel
theorem dm_X2_copyOf_2 : mj_dec prog_4_method_11_code 2 = some (.getfield 30, 3) := by decide +kernel
theorem dm_X2_copyOf_5 : mj_dec prog_4_method_11_code 5 = some (.putfield 30, 3) := by decide +kernel
theorem dm_X2_copyOf_8 : mj_dec prog_4_method_11_code 8 = some (.aload_n 0, 1) := by decide +kernel
theorem dm_X2_copyOf_9 : mj_dec prog_4_method_11_code 9 = some (.aload_n 1, 1) := by decide +kernel
theorem dm_X2_copyOf_10 : mj_dec prog_4_method_11_code 10 = some (.getfield 34, 3) := by decide +kernel
theorem dm_X2_copyOf_13 : mj_dec prog_4_method_11_code 13 = some (.putfield 34, 3) := by decide +kernel
theorem dm_X2_copyOf_16 : mj_dec prog_4_method_11_code 16 = some (.iconst 0, 1) := by decide +kernel
theorem dm_X2_copyOf_17 : mj_dec prog_4_method_11_code 17 = some (.istore_n 2, 1) := by decide +kernel
theorem dm_X2_copyOf_18 : mj_dec prog_4_method_11_code 18 = some (.iload_n 2, 1) := by decide +kernel
theorem dm_X2_copyOf_19 : mj_dec prog_4_method_11_code 19 = some (.bipush 40, 2) := by decide +kernel
theorem dm_X2_copyOf_21 : mj_dec prog_4_method_11_code 21 = some (.if_icmp .ge 57, 3) := by decide +kernel
theorem dm_X2_copyOf_24 : mj_dec prog_4_method_11_code 24 = some (.aload_n 0, 1) := by decide +kernel
theorem dm_X2_copyOf_25 : mj_dec prog_4_method_11_code 25 = some (.getfield 9, 3) := by decide +kernel
theorem dm_X2_copyOf_28 : mj_dec prog_4_method_11_code 28 = some (.iload_n 2, 1) := by decide +kernel
theorem dm_X2_copyOf_29 : mj_dec prog_4_method_11_code 29 = some (.aload_n 1, 1) := by decide +kernel
theorem dm_X2_copyOf_30 : mj_dec prog_4_method_11_code 30 = some (.getfield 9, 3) := by decide +kernel
theorem dm_X2_copyOf_33 : mj_dec prog_4_method_11_code 33 = some (.iload_n 2, 1) := by decide +kernel
theorem dm_X2_copyOf_34 : mj_dec prog_4_method_11_code 34 = some (.laload, 1) := by decide +kernel
theorem dm_X2_copyOf_35 : mj_dec prog_4_method_11_code 35 = some (.lastore, 1) := by decide +kernel
theorem dm_X2_copyOf_36 : mj_dec prog_4_method_11_code 36 = some (.aload_n 0, 1) := by decide +kernel
theorem dm_X2_copyOf_37 : mj_dec prog_4_method_11_code 37 = some (.getfield 17, 3) := by decide +kernel
theorem dm_X2_copyOf_40 : mj_dec prog_4_method_11_code 40 = some (.iload_n 2, 1) := by decide +kernel
theorem dm_X2_copyOf_41 : mj_dec prog_4_method_11_code 41 = some (.aload_n 1, 1) := by decide +kernel
theorem dm_X2_copyOf_42 : mj_dec prog_4_method_11_code 42 = some (.getfield 17, 3) := by decide +kernel
theorem dm_X2_copyOf_45 : mj_dec prog_4_method_11_code 45 = some (.iload_n 2, 1) := by decide +kernel
theorem dm_X2_copyOf_46 : mj_dec prog_4_method_11_code 46 = some (.aaload, 1) := by decide +kernel
theorem dm_X2_copyOf_47 : mj_dec prog_4_method_11_code 47 = some (.aastore, 1) := by decide +kernel
theorem dm_X2_copyOf_48 : mj_dec prog_4_method_11_code 48 = some (.aload_n 0, 1) := by decide +kernel
theorem dm_X2_copyOf_49 : mj_dec prog_4_method_11_code 49 = some (.getfield 21, 3) := by decide +kernel
theorem dm_X2_copyOf_52 : mj_dec prog_4_method_11_code 52 = some (.iload_n 2, 1) := by decide +kernel
theorem dm_X2_copyOf_53 : mj_dec prog_4_method_11_code 53 = some (.aload_n 1, 1) := by decide +kernel
theorem dm_X2_copyOf_54 : mj_dec prog_4_method_11_code 54 = some (.getfield 21, 3) := by decide +kernel
theorem dm_X2_copyOf_57 : mj_dec prog_4_method_11_code 57 = some (.iload_n 2, 1) := by decide +kernel
theorem dm_X2_copyOf_58 : mj_dec prog_4_method_11_code 58 = some (.laload, 1) := by decide +kernel
theorem dm_X2_copyOf_59 : mj_dec prog_4_method_11_code 59 = some (.lastore, 1) := by decide +kernel
theorem dm_X2_copyOf_60 : mj_dec prog_4_method_11_code 60 = some (.aload_n 0, 1) := by decide +kernel
theorem dm_X2_copyOf_61 : mj_dec prog_4_method_11_code 61 = some (.getfield 26, 3) := by decide +kernel
theorem dm_X2_copyOf_64 : mj_dec prog_4_method_11_code 64 = some (.iload_n 2, 1) := by decide +kernel
theorem dm_X2_copyOf_65 : mj_dec prog_4_method_11_code 65 = some (.aload_n 1, 1) := by decide +kernel
theorem dm_X2_copyOf_66 : mj_dec prog_4_method_11_code 66 = some (.getfield 26, 3) := by decide +kernel
theorem dm_X2_copyOf_69 : mj_dec prog_4_method_11_code 69 = some (.iload_n 2, 1) := by decide +kernel
theorem dm_X2_copyOf_70 : mj_dec prog_4_method_11_code 70 = some (.aaload, 1) := by decide +kernel
theorem dm_X2_copyOf_71 : mj_dec prog_4_method_11_code 71 = some (.aastore, 1) := by decide +kernel
theorem dm_X2_copyOf_72 : mj_dec prog_4_method_11_code 72 = some (.iinc 2 1, 3) := by decide +kernel
theorem dm_X2_copyOf_75 : mj_dec prog_4_method_11_code 75 = some (.goto (-57), 3) := by decide +kernel
theorem dm_X2_copyOf_78 : mj_dec prog_4_method_11_code 78 = some (.return_, 1) := by decide +kernel
theorem n_copyOf {xt : mj_X} {d o a1 a2 a3 a4 n m p b1 b2 b3 b4 n2 m2 : Nat} {h : mj_H} {kf jf kf2 jf2 : Nat → Int64} {vf of vf2 of2 : Nat → Option Nat} (hd : 1 ≤ d) (hS : NS h o a1 a2 a3 a4 n kf vf m jf of) (hS2 : NS h p b1 b2 b3 b4 n2 kf2 vf2 m2 jf2 of2) (hD : NDis o a1 a2 a3 a4) (hC : CDis o a1 a2 a3 a4 p b1 b2 b3 b4) (ho2 : 2 ≤ o ∧ 2 ≤ a1 ∧ 2 ≤ a2 ∧ 2 ≤ a3 ∧ 2 ≤ a4) (hp2 : 2 ≤ p ∧ 2 ≤ b1 ∧ 2 ≤ b2 ∧ 2 ≤ b3 ∧ 2 ≤ b4) (hV : ENT h 10 vf2) (hO : ENT h 4 of2) : pgN xt d 189 [.ref o, .ref p] h (fun h' => h' = cpH h o a1 a2 a3 a4 n2 m2 (cpF kf kf2 40) (cpF vf vf2 40) (cpF jf jf2 40) (cpF of of2 40)) := by
  obtain ⟨ho, h1, h2, h3, h4⟩ := hS
  obtain ⟨hp, g1, g2, g3, g4⟩ := hS2
  refine x_enter pm_X2_copyOf (L0 := [(0, .ref o), (1, .ref p)]) rfl (Nat.le_of_ble_eq_true rfl) (by omega) ?_
  refine me1 (pc' := 1) (L' := [(0, .ref o), (1, .ref p)]) (S' := [.ref o]) dm_X2_copyOf_0 rfl rfl rfl rfl ?_
  refine me1 (pc' := 2) (L' := [(0, .ref o), (1, .ref p)]) (S' := [.ref p, .ref o]) dm_X2_copyOf_1 rfl rfl rfl rfl ?_
  refine me3 (pc' := 5) (S' := [ii (n2 : Int), .ref o]) dm_X2_copyOf_2 (g_get (v := ii (n2 : Int)) hp rfl rfl (by omega)) rfl rfl rfl ?_
  refine me3 (pc' := 8) (S' := []) (h1 := (h).set o (cO 2 [.ref a1, .ref a2, ii (n2 : Int), .ref a3, .ref a4, ii (m : Int)])) dm_X2_copyOf_5 (g_put (fs' := [.ref a1, .ref a2, ii (n2 : Int), .ref a3, .ref a4, ii (m : Int)]) ho rfl rfl rfl (by simp) rfl (by decide) (fun z => by cases z) (by omega)) rfl rfl rfl ?_
  refine me1 (pc' := 9) (L' := [(0, .ref o), (1, .ref p)]) (S' := [.ref o]) dm_X2_copyOf_8 rfl rfl rfl rfl ?_
  refine me1 (pc' := 10) (L' := [(0, .ref o), (1, .ref p)]) (S' := [.ref p, .ref o]) dm_X2_copyOf_9 rfl rfl rfl rfl ?_
  refine me3 (pc' := 13) (S' := [ii (m2 : Int), .ref o]) dm_X2_copyOf_10 (g_get (v := ii (m2 : Int)) (hl_ne (Ne.symm ((hC.1).1)) hp) rfl rfl (by omega)) rfl rfl rfl ?_
  refine me3 (pc' := 16) (S' := []) (h1 := (h).set o (cO 2 [.ref a1, .ref a2, ii (n2 : Int), .ref a3, .ref a4, ii (m2 : Int)])) dm_X2_copyOf_13 (g_put (fs' := [.ref a1, .ref a2, ii (n2 : Int), .ref a3, .ref a4, ii (m2 : Int)]) (hl_set (hl_lt ho)) rfl (by rw [List.set_set]) rfl (by simp) rfl (by decide) (fun z => by cases z) (by omega)) rfl rfl rfl ?_
  refine me0 (pc' := 17) (S' := [ii 0]) dm_X2_copyOf_16 rfl rfl rfl rfl ?_
  refine me1 (pc' := 18) (L' := [(2, ii 0), (0, .ref o), (1, .ref p)]) (S' := []) dm_X2_copyOf_17 rfl rfl rfl rfl ?_
  have lp18 : ∀ (n18 : Nat) (k : Nat), 40 - k = n18 → (k ≤ 40) → pgE xt (d - 1) 2 3 false (Option.none : Option Jvm.ClassFile.FieldType) (mj_dec prog_4_method_11_code) 18 [(0, .ref o), (1, .ref p), (2, ii (k : Int))] [] ((((((h).set o (cO 2 [.ref a1, .ref a2, ii (n2 : Int), .ref a3, .ref a4, ii (m2 : Int)])).set a1 (cJ 40 (cpF kf kf2 k))).set a2 (cA 4 40 (cpF vf vf2 k))).set a3 (cJ 40 (cpF jf jf2 k))).set a4 (cA 5 40 (cpF of of2 k))) (fun r h' => r = none ∧ h' = cpH h o a1 a2 a3 a4 n2 m2 (cpF kf kf2 40) (cpF vf vf2 40) (cpF jf jf2 40) (cpF of of2 40)) := by
    intro n18
    induction n18 using Nat.strongRecOn with
    | ind n18 ih18 =>
      intro k hm18 hk
      refine me1 (pc' := 19) (L' := [(0, .ref o), (1, .ref p), (2, ii (k : Int))]) (S' := [ii (k : Int)]) dm_X2_copyOf_18 rfl rfl rfl rfl ?_
      refine me0 (pc' := 21) (S' := [ii 40, ii (k : Int)]) dm_X2_copyOf_19 rfl rfl rfl rfl ?_
      refine y_2ge (a := (k : Int)) (b := 40) (t := 78) (pc' := 24) dm_X2_copyOf_21 rfl rfl (by omega) (fun hb1 => ?_) (fun hb1 => ?_)
      · refine y_ret (r := none) dm_X2_copyOf_78 rfl rfl rfl ?_
        have hk4 : k = 40 := by omega
        subst hk4
        exact ⟨rfl, rfl⟩
      · refine me1 (pc' := 25) (L' := [(0, .ref o), (1, .ref p), (2, ii (k : Int))]) (S' := [.ref o]) dm_X2_copyOf_24 rfl rfl rfl rfl ?_
        refine me3 (pc' := 28) (S' := [.ref a1]) dm_X2_copyOf_25 (g_get (v := .ref a1) (hl_ne (hD.2.2.2.1) (hl_ne (hD.2.2.1) (hl_ne (hD.2.1) (hl_ne (hD.1) (hl_set (hl_lt ho)))))) rfl rfl (by omega)) rfl rfl rfl ?_
        refine me1 (pc' := 29) (L' := [(0, .ref o), (1, .ref p), (2, ii (k : Int))]) (S' := [ii (k : Int), .ref a1]) dm_X2_copyOf_28 rfl rfl rfl rfl ?_
        refine me1 (pc' := 30) (L' := [(0, .ref o), (1, .ref p), (2, ii (k : Int))]) (S' := [.ref p, ii (k : Int), .ref a1]) dm_X2_copyOf_29 rfl rfl rfl rfl ?_
        refine me3 (pc' := 33) (S' := [.ref b1, ii (k : Int), .ref a1]) dm_X2_copyOf_30 (g_get (v := .ref b1) (hl_ne (Ne.symm ((hC.2.2.2.2).1)) (hl_ne (Ne.symm ((hC.2.2.2.1).1)) (hl_ne (Ne.symm ((hC.2.2.1).1)) (hl_ne (Ne.symm ((hC.2.1).1)) (hl_ne (Ne.symm ((hC.1).1)) hp))))) rfl rfl (by omega)) rfl rfl rfl ?_
        refine me1 (pc' := 34) (L' := [(0, .ref o), (1, .ref p), (2, ii (k : Int))]) (S' := [ii (k : Int), .ref b1, ii (k : Int), .ref a1]) dm_X2_copyOf_33 rfl rfl rfl rfl ?_
        refine me3 (pc' := 35) (S' := [.long (kf2 k), ii (k : Int), .ref a1]) dm_X2_copyOf_34 (yh_lald (w := kf2 k) (hl_ne (Ne.symm ((hC.2.2.2.2).2.1)) (hl_ne (Ne.symm ((hC.2.2.2.1).2.1)) (hl_ne (Ne.symm ((hC.2.2.1).2.1)) (hl_ne (Ne.symm ((hC.2.1).2.1)) (hl_ne (Ne.symm ((hC.1).2.1)) g1))))) (by omega) (by omega) (by omega) (by omega) rfl) rfl rfl rfl ?_
        refine me3 (pc' := 36) (S' := []) (h1 := ((((((h).set o (cO 2 [.ref a1, .ref a2, ii (n2 : Int), .ref a3, .ref a4, ii (m2 : Int)])).set a1 (cJ 40 (cpF kf kf2 k))).set a2 (cA 4 40 (cpF vf vf2 k))).set a3 (cJ 40 (cpF jf jf2 k))).set a4 (cA 5 40 (cpF of of2 k))).set a1 (cJ 40 (va_up (cpF kf kf2 k) k (kf2 k)))) dm_X2_copyOf_35 (yh_last (j := (k : Int)) (hl_ne (hD.2.2.2.2.2.2.1) (hl_ne (hD.2.2.2.2.2.1) (hl_ne (hD.2.2.2.2.1) (hl_set (hl_lt (hl_ne (Ne.symm (hD.1)) h1)))))) (by omega) (by omega) (by omega) (by omega)) rfl rfl rfl ?_
        refine me1 (pc' := 37) (L' := [(0, .ref o), (1, .ref p), (2, ii (k : Int))]) (S' := [.ref o]) dm_X2_copyOf_36 rfl rfl rfl rfl ?_
        refine me3 (pc' := 40) (S' := [.ref a2]) dm_X2_copyOf_37 (g_get (v := .ref a2) (hl_ne (hD.1) (hl_ne (hD.2.2.2.1) (hl_ne (hD.2.2.1) (hl_ne (hD.2.1) (hl_ne (hD.1) (hl_set (hl_lt ho))))))) rfl rfl (by omega)) rfl rfl rfl ?_
        refine me1 (pc' := 41) (L' := [(0, .ref o), (1, .ref p), (2, ii (k : Int))]) (S' := [ii (k : Int), .ref a2]) dm_X2_copyOf_40 rfl rfl rfl rfl ?_
        refine me1 (pc' := 42) (L' := [(0, .ref o), (1, .ref p), (2, ii (k : Int))]) (S' := [.ref p, ii (k : Int), .ref a2]) dm_X2_copyOf_41 rfl rfl rfl rfl ?_
        refine me3 (pc' := 45) (S' := [.ref b2, ii (k : Int), .ref a2]) dm_X2_copyOf_42 (g_get (v := .ref b2) (hl_ne (Ne.symm ((hC.2.1).1)) (hl_ne (Ne.symm ((hC.2.2.2.2).1)) (hl_ne (Ne.symm ((hC.2.2.2.1).1)) (hl_ne (Ne.symm ((hC.2.2.1).1)) (hl_ne (Ne.symm ((hC.2.1).1)) (hl_ne (Ne.symm ((hC.1).1)) hp)))))) rfl rfl (by omega)) rfl rfl rfl ?_
        refine me1 (pc' := 46) (L' := [(0, .ref o), (1, .ref p), (2, ii (k : Int))]) (S' := [ii (k : Int), .ref b2, ii (k : Int), .ref a2]) dm_X2_copyOf_45 rfl rfl rfl rfl ?_
        rcases hV k (by omega) with qn | ⟨q, qf, q1, q2, q3⟩
        · skip
          refine me3 (pc' := 47) (S' := [.null, ii (k : Int), .ref a2]) dm_X2_copyOf_46 (yh_aald (w := none) rfl (hl_ne (Ne.symm ((hC.2.1).2.2.1)) (hl_ne (Ne.symm ((hC.2.2.2.2).2.2.1)) (hl_ne (Ne.symm ((hC.2.2.2.1).2.2.1)) (hl_ne (Ne.symm ((hC.2.2.1).2.2.1)) (hl_ne (Ne.symm ((hC.2.1).2.2.1)) (hl_ne (Ne.symm ((hC.1).2.2.1)) g2)))))) (by omega) (by omega) (by omega) (by omega) qn) rfl rfl rfl ?_
          refine me3 (pc' := 48) (S' := []) (h1 := (((((((h).set o (cO 2 [.ref a1, .ref a2, ii (n2 : Int), .ref a3, .ref a4, ii (m2 : Int)])).set a1 (cJ 40 (cpF kf kf2 k))).set a2 (cA 4 40 (cpF vf vf2 k))).set a3 (cJ 40 (cpF jf jf2 k))).set a4 (cA 5 40 (cpF of of2 k))).set a1 (cJ 40 (va_up (cpF kf kf2 k) k (kf2 k)))).set a2 (cA 4 40 (va_up (cpF vf vf2 k) k none))) dm_X2_copyOf_47 (yh_aasn (j := (k : Int)) rfl (hl_ne (Ne.symm (hD.2.2.2.2.1)) (hl_ne (hD.2.2.2.2.2.2.2.2.1) (hl_ne (hD.2.2.2.2.2.2.2.1) (hl_set (hl_lt (hl_ne (Ne.symm (hD.2.2.2.2.1)) (hl_ne (Ne.symm (hD.2.1)) h2))))))) (by omega) (by omega) (by omega) (by omega)) rfl rfl rfl ?_
          refine me1 (pc' := 49) (L' := [(0, .ref o), (1, .ref p), (2, ii (k : Int))]) (S' := [.ref o]) dm_X2_copyOf_48 rfl rfl rfl rfl ?_
          refine me3 (pc' := 52) (S' := [.ref a3]) dm_X2_copyOf_49 (g_get (v := .ref a3) (hl_ne (hD.2.1) (hl_ne (hD.1) (hl_ne (hD.2.2.2.1) (hl_ne (hD.2.2.1) (hl_ne (hD.2.1) (hl_ne (hD.1) (hl_set (hl_lt ho)))))))) rfl rfl (by omega)) rfl rfl rfl ?_
          refine me1 (pc' := 53) (L' := [(0, .ref o), (1, .ref p), (2, ii (k : Int))]) (S' := [ii (k : Int), .ref a3]) dm_X2_copyOf_52 rfl rfl rfl rfl ?_
          refine me1 (pc' := 54) (L' := [(0, .ref o), (1, .ref p), (2, ii (k : Int))]) (S' := [.ref p, ii (k : Int), .ref a3]) dm_X2_copyOf_53 rfl rfl rfl rfl ?_
          refine me3 (pc' := 57) (S' := [.ref b3, ii (k : Int), .ref a3]) dm_X2_copyOf_54 (g_get (v := .ref b3) (hl_ne (Ne.symm ((hC.2.2.1).1)) (hl_ne (Ne.symm ((hC.2.1).1)) (hl_ne (Ne.symm ((hC.2.2.2.2).1)) (hl_ne (Ne.symm ((hC.2.2.2.1).1)) (hl_ne (Ne.symm ((hC.2.2.1).1)) (hl_ne (Ne.symm ((hC.2.1).1)) (hl_ne (Ne.symm ((hC.1).1)) hp))))))) rfl rfl (by omega)) rfl rfl rfl ?_
          refine me1 (pc' := 58) (L' := [(0, .ref o), (1, .ref p), (2, ii (k : Int))]) (S' := [ii (k : Int), .ref b3, ii (k : Int), .ref a3]) dm_X2_copyOf_57 rfl rfl rfl rfl ?_
          refine me3 (pc' := 59) (S' := [.long (jf2 k), ii (k : Int), .ref a3]) dm_X2_copyOf_58 (yh_lald (w := jf2 k) (hl_ne (Ne.symm ((hC.2.2.1).2.2.2.1)) (hl_ne (Ne.symm ((hC.2.1).2.2.2.1)) (hl_ne (Ne.symm ((hC.2.2.2.2).2.2.2.1)) (hl_ne (Ne.symm ((hC.2.2.2.1).2.2.2.1)) (hl_ne (Ne.symm ((hC.2.2.1).2.2.2.1)) (hl_ne (Ne.symm ((hC.2.1).2.2.2.1)) (hl_ne (Ne.symm ((hC.1).2.2.2.1)) g3))))))) (by omega) (by omega) (by omega) (by omega) rfl) rfl rfl rfl ?_
          refine me3 (pc' := 60) (S' := []) (h1 := ((((((((h).set o (cO 2 [.ref a1, .ref a2, ii (n2 : Int), .ref a3, .ref a4, ii (m2 : Int)])).set a1 (cJ 40 (cpF kf kf2 k))).set a2 (cA 4 40 (cpF vf vf2 k))).set a3 (cJ 40 (cpF jf jf2 k))).set a4 (cA 5 40 (cpF of of2 k))).set a1 (cJ 40 (va_up (cpF kf kf2 k) k (kf2 k)))).set a2 (cA 4 40 (va_up (cpF vf vf2 k) k none))).set a3 (cJ 40 (va_up (cpF jf jf2 k) k (jf2 k)))) dm_X2_copyOf_59 (yh_last (j := (k : Int)) (hl_ne (Ne.symm (hD.2.2.2.2.2.2.2.1)) (hl_ne (Ne.symm (hD.2.2.2.2.2.1)) (hl_ne (hD.2.2.2.2.2.2.2.2.2) (hl_set (hl_lt (hl_ne (Ne.symm (hD.2.2.2.2.2.2.2.1)) (hl_ne (Ne.symm (hD.2.2.2.2.2.1)) (hl_ne (Ne.symm (hD.2.2.1)) h3)))))))) (by omega) (by omega) (by omega) (by omega)) rfl rfl rfl ?_
          refine me1 (pc' := 61) (L' := [(0, .ref o), (1, .ref p), (2, ii (k : Int))]) (S' := [.ref o]) dm_X2_copyOf_60 rfl rfl rfl rfl ?_
          refine me3 (pc' := 64) (S' := [.ref a4]) dm_X2_copyOf_61 (g_get (v := .ref a4) (hl_ne (hD.2.2.1) (hl_ne (hD.2.1) (hl_ne (hD.1) (hl_ne (hD.2.2.2.1) (hl_ne (hD.2.2.1) (hl_ne (hD.2.1) (hl_ne (hD.1) (hl_set (hl_lt ho))))))))) rfl rfl (by omega)) rfl rfl rfl ?_
          refine me1 (pc' := 65) (L' := [(0, .ref o), (1, .ref p), (2, ii (k : Int))]) (S' := [ii (k : Int), .ref a4]) dm_X2_copyOf_64 rfl rfl rfl rfl ?_
          refine me1 (pc' := 66) (L' := [(0, .ref o), (1, .ref p), (2, ii (k : Int))]) (S' := [.ref p, ii (k : Int), .ref a4]) dm_X2_copyOf_65 rfl rfl rfl rfl ?_
          refine me3 (pc' := 69) (S' := [.ref b4, ii (k : Int), .ref a4]) dm_X2_copyOf_66 (g_get (v := .ref b4) (hl_ne (Ne.symm ((hC.2.2.2.1).1)) (hl_ne (Ne.symm ((hC.2.2.1).1)) (hl_ne (Ne.symm ((hC.2.1).1)) (hl_ne (Ne.symm ((hC.2.2.2.2).1)) (hl_ne (Ne.symm ((hC.2.2.2.1).1)) (hl_ne (Ne.symm ((hC.2.2.1).1)) (hl_ne (Ne.symm ((hC.2.1).1)) (hl_ne (Ne.symm ((hC.1).1)) hp)))))))) rfl rfl (by omega)) rfl rfl rfl ?_
          refine me1 (pc' := 70) (L' := [(0, .ref o), (1, .ref p), (2, ii (k : Int))]) (S' := [ii (k : Int), .ref b4, ii (k : Int), .ref a4]) dm_X2_copyOf_69 rfl rfl rfl rfl ?_
          rcases hO k (by omega) with rn | ⟨r, rf, r1, r2, r3⟩
          · skip
            refine me3 (pc' := 71) (S' := [.null, ii (k : Int), .ref a4]) dm_X2_copyOf_70 (yh_aald (w := none) rfl (hl_ne (Ne.symm ((hC.2.2.2.1).2.2.2.2)) (hl_ne (Ne.symm ((hC.2.2.1).2.2.2.2)) (hl_ne (Ne.symm ((hC.2.1).2.2.2.2)) (hl_ne (Ne.symm ((hC.2.2.2.2).2.2.2.2)) (hl_ne (Ne.symm ((hC.2.2.2.1).2.2.2.2)) (hl_ne (Ne.symm ((hC.2.2.1).2.2.2.2)) (hl_ne (Ne.symm ((hC.2.1).2.2.2.2)) (hl_ne (Ne.symm ((hC.1).2.2.2.2)) g4)))))))) (by omega) (by omega) (by omega) (by omega) rn) rfl rfl rfl ?_
            refine me3 (pc' := 72) (S' := []) (h1 := (((((((((h).set o (cO 2 [.ref a1, .ref a2, ii (n2 : Int), .ref a3, .ref a4, ii (m2 : Int)])).set a1 (cJ 40 (cpF kf kf2 k))).set a2 (cA 4 40 (cpF vf vf2 k))).set a3 (cJ 40 (cpF jf jf2 k))).set a4 (cA 5 40 (cpF of of2 k))).set a1 (cJ 40 (va_up (cpF kf kf2 k) k (kf2 k)))).set a2 (cA 4 40 (va_up (cpF vf vf2 k) k none))).set a3 (cJ 40 (va_up (cpF jf jf2 k) k (jf2 k)))).set a4 (cA 5 40 (va_up (cpF of of2 k) k none))) dm_X2_copyOf_71 (yh_aasn (j := (k : Int)) rfl (hl_ne (Ne.symm (hD.2.2.2.2.2.2.2.2.2)) (hl_ne (Ne.symm (hD.2.2.2.2.2.2.2.2.1)) (hl_ne (Ne.symm (hD.2.2.2.2.2.2.1)) (hl_set (hl_lt (hl_ne (Ne.symm (hD.2.2.2.2.2.2.2.2.2)) (hl_ne (Ne.symm (hD.2.2.2.2.2.2.2.2.1)) (hl_ne (Ne.symm (hD.2.2.2.2.2.2.1)) (hl_ne (Ne.symm (hD.2.2.2.1)) h4))))))))) (by omega) (by omega) (by omega) (by omega)) rfl rfl rfl ?_
            refine y_iinc (pc' := 75) (L' := [(2, ii ((k : Int) + 1)), (0, .ref o), (1, .ref p)]) dm_X2_copyOf_72 (y_incp (a := (k : Int)) (c := 1) rfl rfl (by decide)) rfl ?_
            refine me2 (pc' := 18) (S' := []) dm_X2_copyOf_75 rfl rfl rfl ?_
            refine pg_cast (h2 := (((((h).set o (cO 2 [.ref a1, .ref a2, ii (n2 : Int), .ref a3, .ref a4, ii (m2 : Int)])).set a1 (cJ 40 (cpF kf kf2 (k + 1)))).set a2 (cA 4 40 (cpF vf vf2 (k + 1)))).set a3 (cJ 40 (cpF jf jf2 (k + 1)))).set a4 (cA 5 40 (cpF of of2 (k + 1)))) (by rw [set8 (Ne.symm hD.2.2.2.2.1) (Ne.symm hD.2.2.2.2.2.1) (Ne.symm hD.2.2.2.2.2.2.1) (Ne.symm hD.2.2.2.2.2.2.2.1) (Ne.symm hD.2.2.2.2.2.2.2.2.1) (Ne.symm hD.2.2.2.2.2.2.2.2.2), cpF_v kf kf2 k rfl, cpF_v vf vf2 k qn, cpF_v jf jf2 k rfl, cpF_v of of2 k rn]) ?_
            exact pg_sub (L := [(0, .ref o), (1, .ref p), (2, ii ((k + 1) : Int))]) rfl rfl rfl (ih18 (40 - (k + 1)) (by omega) (k + 1) rfl (by omega))
          · skip
            refine me3 (pc' := 71) (S' := [.ref r, ii (k : Int), .ref a4]) dm_X2_copyOf_70 (yh_aald (w := some r) rfl (hl_ne (Ne.symm ((hC.2.2.2.1).2.2.2.2)) (hl_ne (Ne.symm ((hC.2.2.1).2.2.2.2)) (hl_ne (Ne.symm ((hC.2.1).2.2.2.2)) (hl_ne (Ne.symm ((hC.2.2.2.2).2.2.2.2)) (hl_ne (Ne.symm ((hC.2.2.2.1).2.2.2.2)) (hl_ne (Ne.symm ((hC.2.2.1).2.2.2.2)) (hl_ne (Ne.symm ((hC.2.1).2.2.2.2)) (hl_ne (Ne.symm ((hC.1).2.2.2.2)) g4)))))))) (by omega) (by omega) (by omega) (by omega) r1) rfl rfl rfl ?_
            refine me3 (pc' := 72) (S' := []) (h1 := (((((((((h).set o (cO 2 [.ref a1, .ref a2, ii (n2 : Int), .ref a3, .ref a4, ii (m2 : Int)])).set a1 (cJ 40 (cpF kf kf2 k))).set a2 (cA 4 40 (cpF vf vf2 k))).set a3 (cJ 40 (cpF jf jf2 k))).set a4 (cA 5 40 (cpF of of2 k))).set a1 (cJ 40 (va_up (cpF kf kf2 k) k (kf2 k)))).set a2 (cA 4 40 (va_up (cpF vf vf2 k) k none))).set a3 (cJ 40 (va_up (cpF jf jf2 k) k (jf2 k)))).set a4 (cA 5 40 (va_up (cpF of of2 k) k (some r)))) dm_X2_copyOf_71 (yh_aasr (j := (k : Int)) rfl (hl_ne (Ne.symm (hD.2.2.2.2.2.2.2.2.2)) (hl_ne (Ne.symm (hD.2.2.2.2.2.2.2.2.1)) (hl_ne (Ne.symm (hD.2.2.2.2.2.2.1)) (hl_set (hl_lt (hl_ne (Ne.symm (hD.2.2.2.2.2.2.2.2.2)) (hl_ne (Ne.symm (hD.2.2.2.2.2.2.2.2.1)) (hl_ne (Ne.symm (hD.2.2.2.2.2.2.1)) (hl_ne (Ne.symm (hD.2.2.2.1)) h4))))))))) (hl_ne (ne_cell r3 h3 (fun z => by cases z)) (hl_ne (ne_cell r3 h2 (fun z => by cases z)) (hl_ne (ne_cell r3 h1 (fun z => by cases z)) (hl_ne (ne_cell r3 h4 (fun z => by cases z)) (hl_ne (ne_cell r3 h3 (fun z => by cases z)) (hl_ne (ne_cell r3 h2 (fun z => by cases z)) (hl_ne (ne_cell r3 h1 (fun z => by cases z)) (hl_ne (ne_cell r3 ho (fun z => by cases z)) r3)))))))) (by omega) (by omega) (by omega) (by omega) (by omega)) rfl rfl rfl ?_
            refine y_iinc (pc' := 75) (L' := [(2, ii ((k : Int) + 1)), (0, .ref o), (1, .ref p)]) dm_X2_copyOf_72 (y_incp (a := (k : Int)) (c := 1) rfl rfl (by decide)) rfl ?_
            refine me2 (pc' := 18) (S' := []) dm_X2_copyOf_75 rfl rfl rfl ?_
            refine pg_cast (h2 := (((((h).set o (cO 2 [.ref a1, .ref a2, ii (n2 : Int), .ref a3, .ref a4, ii (m2 : Int)])).set a1 (cJ 40 (cpF kf kf2 (k + 1)))).set a2 (cA 4 40 (cpF vf vf2 (k + 1)))).set a3 (cJ 40 (cpF jf jf2 (k + 1)))).set a4 (cA 5 40 (cpF of of2 (k + 1)))) (by rw [set8 (Ne.symm hD.2.2.2.2.1) (Ne.symm hD.2.2.2.2.2.1) (Ne.symm hD.2.2.2.2.2.2.1) (Ne.symm hD.2.2.2.2.2.2.2.1) (Ne.symm hD.2.2.2.2.2.2.2.2.1) (Ne.symm hD.2.2.2.2.2.2.2.2.2), cpF_v kf kf2 k rfl, cpF_v vf vf2 k qn, cpF_v jf jf2 k rfl, cpF_v of of2 k r1]) ?_
            exact pg_sub (L := [(0, .ref o), (1, .ref p), (2, ii ((k + 1) : Int))]) rfl rfl rfl (ih18 (40 - (k + 1)) (by omega) (k + 1) rfl (by omega))
        · skip
          refine me3 (pc' := 47) (S' := [.ref q, ii (k : Int), .ref a2]) dm_X2_copyOf_46 (yh_aald (w := some q) rfl (hl_ne (Ne.symm ((hC.2.1).2.2.1)) (hl_ne (Ne.symm ((hC.2.2.2.2).2.2.1)) (hl_ne (Ne.symm ((hC.2.2.2.1).2.2.1)) (hl_ne (Ne.symm ((hC.2.2.1).2.2.1)) (hl_ne (Ne.symm ((hC.2.1).2.2.1)) (hl_ne (Ne.symm ((hC.1).2.2.1)) g2)))))) (by omega) (by omega) (by omega) (by omega) q1) rfl rfl rfl ?_
          refine me3 (pc' := 48) (S' := []) (h1 := (((((((h).set o (cO 2 [.ref a1, .ref a2, ii (n2 : Int), .ref a3, .ref a4, ii (m2 : Int)])).set a1 (cJ 40 (cpF kf kf2 k))).set a2 (cA 4 40 (cpF vf vf2 k))).set a3 (cJ 40 (cpF jf jf2 k))).set a4 (cA 5 40 (cpF of of2 k))).set a1 (cJ 40 (va_up (cpF kf kf2 k) k (kf2 k)))).set a2 (cA 4 40 (va_up (cpF vf vf2 k) k (some q)))) dm_X2_copyOf_47 (yh_aasr (j := (k : Int)) rfl (hl_ne (Ne.symm (hD.2.2.2.2.1)) (hl_ne (hD.2.2.2.2.2.2.2.2.1) (hl_ne (hD.2.2.2.2.2.2.2.1) (hl_set (hl_lt (hl_ne (Ne.symm (hD.2.2.2.2.1)) (hl_ne (Ne.symm (hD.2.1)) h2))))))) (hl_ne (ne_cell q3 h1 (fun z => by cases z)) (hl_ne (ne_cell q3 h4 (fun z => by cases z)) (hl_ne (ne_cell q3 h3 (fun z => by cases z)) (hl_ne (ne_cell q3 h2 (fun z => by cases z)) (hl_ne (ne_cell q3 h1 (fun z => by cases z)) (hl_ne (ne_cell q3 ho (fun z => by cases z)) q3)))))) (by omega) (by omega) (by omega) (by omega) (by omega)) rfl rfl rfl ?_
          refine me1 (pc' := 49) (L' := [(0, .ref o), (1, .ref p), (2, ii (k : Int))]) (S' := [.ref o]) dm_X2_copyOf_48 rfl rfl rfl rfl ?_
          refine me3 (pc' := 52) (S' := [.ref a3]) dm_X2_copyOf_49 (g_get (v := .ref a3) (hl_ne (hD.2.1) (hl_ne (hD.1) (hl_ne (hD.2.2.2.1) (hl_ne (hD.2.2.1) (hl_ne (hD.2.1) (hl_ne (hD.1) (hl_set (hl_lt ho)))))))) rfl rfl (by omega)) rfl rfl rfl ?_
          refine me1 (pc' := 53) (L' := [(0, .ref o), (1, .ref p), (2, ii (k : Int))]) (S' := [ii (k : Int), .ref a3]) dm_X2_copyOf_52 rfl rfl rfl rfl ?_
          refine me1 (pc' := 54) (L' := [(0, .ref o), (1, .ref p), (2, ii (k : Int))]) (S' := [.ref p, ii (k : Int), .ref a3]) dm_X2_copyOf_53 rfl rfl rfl rfl ?_
          refine me3 (pc' := 57) (S' := [.ref b3, ii (k : Int), .ref a3]) dm_X2_copyOf_54 (g_get (v := .ref b3) (hl_ne (Ne.symm ((hC.2.2.1).1)) (hl_ne (Ne.symm ((hC.2.1).1)) (hl_ne (Ne.symm ((hC.2.2.2.2).1)) (hl_ne (Ne.symm ((hC.2.2.2.1).1)) (hl_ne (Ne.symm ((hC.2.2.1).1)) (hl_ne (Ne.symm ((hC.2.1).1)) (hl_ne (Ne.symm ((hC.1).1)) hp))))))) rfl rfl (by omega)) rfl rfl rfl ?_
          refine me1 (pc' := 58) (L' := [(0, .ref o), (1, .ref p), (2, ii (k : Int))]) (S' := [ii (k : Int), .ref b3, ii (k : Int), .ref a3]) dm_X2_copyOf_57 rfl rfl rfl rfl ?_
          refine me3 (pc' := 59) (S' := [.long (jf2 k), ii (k : Int), .ref a3]) dm_X2_copyOf_58 (yh_lald (w := jf2 k) (hl_ne (Ne.symm ((hC.2.2.1).2.2.2.1)) (hl_ne (Ne.symm ((hC.2.1).2.2.2.1)) (hl_ne (Ne.symm ((hC.2.2.2.2).2.2.2.1)) (hl_ne (Ne.symm ((hC.2.2.2.1).2.2.2.1)) (hl_ne (Ne.symm ((hC.2.2.1).2.2.2.1)) (hl_ne (Ne.symm ((hC.2.1).2.2.2.1)) (hl_ne (Ne.symm ((hC.1).2.2.2.1)) g3))))))) (by omega) (by omega) (by omega) (by omega) rfl) rfl rfl rfl ?_
          refine me3 (pc' := 60) (S' := []) (h1 := ((((((((h).set o (cO 2 [.ref a1, .ref a2, ii (n2 : Int), .ref a3, .ref a4, ii (m2 : Int)])).set a1 (cJ 40 (cpF kf kf2 k))).set a2 (cA 4 40 (cpF vf vf2 k))).set a3 (cJ 40 (cpF jf jf2 k))).set a4 (cA 5 40 (cpF of of2 k))).set a1 (cJ 40 (va_up (cpF kf kf2 k) k (kf2 k)))).set a2 (cA 4 40 (va_up (cpF vf vf2 k) k (some q)))).set a3 (cJ 40 (va_up (cpF jf jf2 k) k (jf2 k)))) dm_X2_copyOf_59 (yh_last (j := (k : Int)) (hl_ne (Ne.symm (hD.2.2.2.2.2.2.2.1)) (hl_ne (Ne.symm (hD.2.2.2.2.2.1)) (hl_ne (hD.2.2.2.2.2.2.2.2.2) (hl_set (hl_lt (hl_ne (Ne.symm (hD.2.2.2.2.2.2.2.1)) (hl_ne (Ne.symm (hD.2.2.2.2.2.1)) (hl_ne (Ne.symm (hD.2.2.1)) h3)))))))) (by omega) (by omega) (by omega) (by omega)) rfl rfl rfl ?_
          refine me1 (pc' := 61) (L' := [(0, .ref o), (1, .ref p), (2, ii (k : Int))]) (S' := [.ref o]) dm_X2_copyOf_60 rfl rfl rfl rfl ?_
          refine me3 (pc' := 64) (S' := [.ref a4]) dm_X2_copyOf_61 (g_get (v := .ref a4) (hl_ne (hD.2.2.1) (hl_ne (hD.2.1) (hl_ne (hD.1) (hl_ne (hD.2.2.2.1) (hl_ne (hD.2.2.1) (hl_ne (hD.2.1) (hl_ne (hD.1) (hl_set (hl_lt ho))))))))) rfl rfl (by omega)) rfl rfl rfl ?_
          refine me1 (pc' := 65) (L' := [(0, .ref o), (1, .ref p), (2, ii (k : Int))]) (S' := [ii (k : Int), .ref a4]) dm_X2_copyOf_64 rfl rfl rfl rfl ?_
          refine me1 (pc' := 66) (L' := [(0, .ref o), (1, .ref p), (2, ii (k : Int))]) (S' := [.ref p, ii (k : Int), .ref a4]) dm_X2_copyOf_65 rfl rfl rfl rfl ?_
          refine me3 (pc' := 69) (S' := [.ref b4, ii (k : Int), .ref a4]) dm_X2_copyOf_66 (g_get (v := .ref b4) (hl_ne (Ne.symm ((hC.2.2.2.1).1)) (hl_ne (Ne.symm ((hC.2.2.1).1)) (hl_ne (Ne.symm ((hC.2.1).1)) (hl_ne (Ne.symm ((hC.2.2.2.2).1)) (hl_ne (Ne.symm ((hC.2.2.2.1).1)) (hl_ne (Ne.symm ((hC.2.2.1).1)) (hl_ne (Ne.symm ((hC.2.1).1)) (hl_ne (Ne.symm ((hC.1).1)) hp)))))))) rfl rfl (by omega)) rfl rfl rfl ?_
          refine me1 (pc' := 70) (L' := [(0, .ref o), (1, .ref p), (2, ii (k : Int))]) (S' := [ii (k : Int), .ref b4, ii (k : Int), .ref a4]) dm_X2_copyOf_69 rfl rfl rfl rfl ?_
          rcases hO k (by omega) with rn | ⟨r, rf, r1, r2, r3⟩
          · skip
            refine me3 (pc' := 71) (S' := [.null, ii (k : Int), .ref a4]) dm_X2_copyOf_70 (yh_aald (w := none) rfl (hl_ne (Ne.symm ((hC.2.2.2.1).2.2.2.2)) (hl_ne (Ne.symm ((hC.2.2.1).2.2.2.2)) (hl_ne (Ne.symm ((hC.2.1).2.2.2.2)) (hl_ne (Ne.symm ((hC.2.2.2.2).2.2.2.2)) (hl_ne (Ne.symm ((hC.2.2.2.1).2.2.2.2)) (hl_ne (Ne.symm ((hC.2.2.1).2.2.2.2)) (hl_ne (Ne.symm ((hC.2.1).2.2.2.2)) (hl_ne (Ne.symm ((hC.1).2.2.2.2)) g4)))))))) (by omega) (by omega) (by omega) (by omega) rn) rfl rfl rfl ?_
            refine me3 (pc' := 72) (S' := []) (h1 := (((((((((h).set o (cO 2 [.ref a1, .ref a2, ii (n2 : Int), .ref a3, .ref a4, ii (m2 : Int)])).set a1 (cJ 40 (cpF kf kf2 k))).set a2 (cA 4 40 (cpF vf vf2 k))).set a3 (cJ 40 (cpF jf jf2 k))).set a4 (cA 5 40 (cpF of of2 k))).set a1 (cJ 40 (va_up (cpF kf kf2 k) k (kf2 k)))).set a2 (cA 4 40 (va_up (cpF vf vf2 k) k (some q)))).set a3 (cJ 40 (va_up (cpF jf jf2 k) k (jf2 k)))).set a4 (cA 5 40 (va_up (cpF of of2 k) k none))) dm_X2_copyOf_71 (yh_aasn (j := (k : Int)) rfl (hl_ne (Ne.symm (hD.2.2.2.2.2.2.2.2.2)) (hl_ne (Ne.symm (hD.2.2.2.2.2.2.2.2.1)) (hl_ne (Ne.symm (hD.2.2.2.2.2.2.1)) (hl_set (hl_lt (hl_ne (Ne.symm (hD.2.2.2.2.2.2.2.2.2)) (hl_ne (Ne.symm (hD.2.2.2.2.2.2.2.2.1)) (hl_ne (Ne.symm (hD.2.2.2.2.2.2.1)) (hl_ne (Ne.symm (hD.2.2.2.1)) h4))))))))) (by omega) (by omega) (by omega) (by omega)) rfl rfl rfl ?_
            refine y_iinc (pc' := 75) (L' := [(2, ii ((k : Int) + 1)), (0, .ref o), (1, .ref p)]) dm_X2_copyOf_72 (y_incp (a := (k : Int)) (c := 1) rfl rfl (by decide)) rfl ?_
            refine me2 (pc' := 18) (S' := []) dm_X2_copyOf_75 rfl rfl rfl ?_
            refine pg_cast (h2 := (((((h).set o (cO 2 [.ref a1, .ref a2, ii (n2 : Int), .ref a3, .ref a4, ii (m2 : Int)])).set a1 (cJ 40 (cpF kf kf2 (k + 1)))).set a2 (cA 4 40 (cpF vf vf2 (k + 1)))).set a3 (cJ 40 (cpF jf jf2 (k + 1)))).set a4 (cA 5 40 (cpF of of2 (k + 1)))) (by rw [set8 (Ne.symm hD.2.2.2.2.1) (Ne.symm hD.2.2.2.2.2.1) (Ne.symm hD.2.2.2.2.2.2.1) (Ne.symm hD.2.2.2.2.2.2.2.1) (Ne.symm hD.2.2.2.2.2.2.2.2.1) (Ne.symm hD.2.2.2.2.2.2.2.2.2), cpF_v kf kf2 k rfl, cpF_v vf vf2 k q1, cpF_v jf jf2 k rfl, cpF_v of of2 k rn]) ?_
            exact pg_sub (L := [(0, .ref o), (1, .ref p), (2, ii ((k + 1) : Int))]) rfl rfl rfl (ih18 (40 - (k + 1)) (by omega) (k + 1) rfl (by omega))
          · skip
            refine me3 (pc' := 71) (S' := [.ref r, ii (k : Int), .ref a4]) dm_X2_copyOf_70 (yh_aald (w := some r) rfl (hl_ne (Ne.symm ((hC.2.2.2.1).2.2.2.2)) (hl_ne (Ne.symm ((hC.2.2.1).2.2.2.2)) (hl_ne (Ne.symm ((hC.2.1).2.2.2.2)) (hl_ne (Ne.symm ((hC.2.2.2.2).2.2.2.2)) (hl_ne (Ne.symm ((hC.2.2.2.1).2.2.2.2)) (hl_ne (Ne.symm ((hC.2.2.1).2.2.2.2)) (hl_ne (Ne.symm ((hC.2.1).2.2.2.2)) (hl_ne (Ne.symm ((hC.1).2.2.2.2)) g4)))))))) (by omega) (by omega) (by omega) (by omega) r1) rfl rfl rfl ?_
            refine me3 (pc' := 72) (S' := []) (h1 := (((((((((h).set o (cO 2 [.ref a1, .ref a2, ii (n2 : Int), .ref a3, .ref a4, ii (m2 : Int)])).set a1 (cJ 40 (cpF kf kf2 k))).set a2 (cA 4 40 (cpF vf vf2 k))).set a3 (cJ 40 (cpF jf jf2 k))).set a4 (cA 5 40 (cpF of of2 k))).set a1 (cJ 40 (va_up (cpF kf kf2 k) k (kf2 k)))).set a2 (cA 4 40 (va_up (cpF vf vf2 k) k (some q)))).set a3 (cJ 40 (va_up (cpF jf jf2 k) k (jf2 k)))).set a4 (cA 5 40 (va_up (cpF of of2 k) k (some r)))) dm_X2_copyOf_71 (yh_aasr (j := (k : Int)) rfl (hl_ne (Ne.symm (hD.2.2.2.2.2.2.2.2.2)) (hl_ne (Ne.symm (hD.2.2.2.2.2.2.2.2.1)) (hl_ne (Ne.symm (hD.2.2.2.2.2.2.1)) (hl_set (hl_lt (hl_ne (Ne.symm (hD.2.2.2.2.2.2.2.2.2)) (hl_ne (Ne.symm (hD.2.2.2.2.2.2.2.2.1)) (hl_ne (Ne.symm (hD.2.2.2.2.2.2.1)) (hl_ne (Ne.symm (hD.2.2.2.1)) h4))))))))) (hl_ne (ne_cell r3 h3 (fun z => by cases z)) (hl_ne (ne_cell r3 h2 (fun z => by cases z)) (hl_ne (ne_cell r3 h1 (fun z => by cases z)) (hl_ne (ne_cell r3 h4 (fun z => by cases z)) (hl_ne (ne_cell r3 h3 (fun z => by cases z)) (hl_ne (ne_cell r3 h2 (fun z => by cases z)) (hl_ne (ne_cell r3 h1 (fun z => by cases z)) (hl_ne (ne_cell r3 ho (fun z => by cases z)) r3)))))))) (by omega) (by omega) (by omega) (by omega) (by omega)) rfl rfl rfl ?_
            refine y_iinc (pc' := 75) (L' := [(2, ii ((k : Int) + 1)), (0, .ref o), (1, .ref p)]) dm_X2_copyOf_72 (y_incp (a := (k : Int)) (c := 1) rfl rfl (by decide)) rfl ?_
            refine me2 (pc' := 18) (S' := []) dm_X2_copyOf_75 rfl rfl rfl ?_
            refine pg_cast (h2 := (((((h).set o (cO 2 [.ref a1, .ref a2, ii (n2 : Int), .ref a3, .ref a4, ii (m2 : Int)])).set a1 (cJ 40 (cpF kf kf2 (k + 1)))).set a2 (cA 4 40 (cpF vf vf2 (k + 1)))).set a3 (cJ 40 (cpF jf jf2 (k + 1)))).set a4 (cA 5 40 (cpF of of2 (k + 1)))) (by rw [set8 (Ne.symm hD.2.2.2.2.1) (Ne.symm hD.2.2.2.2.2.1) (Ne.symm hD.2.2.2.2.2.2.1) (Ne.symm hD.2.2.2.2.2.2.2.1) (Ne.symm hD.2.2.2.2.2.2.2.2.1) (Ne.symm hD.2.2.2.2.2.2.2.2.2), cpF_v kf kf2 k rfl, cpF_v vf vf2 k q1, cpF_v jf jf2 k rfl, cpF_v of of2 k r1]) ?_
            exact pg_sub (L := [(0, .ref o), (1, .ref p), (2, ii ((k + 1) : Int))]) rfl rfl rfl (ih18 (40 - (k + 1)) (by omega) (k + 1) rfl (by omega))
  refine pg_cast (h2 := (((((h).set o (cO 2 [.ref a1, .ref a2, ii (n2 : Int), .ref a3, .ref a4, ii (m2 : Int)])).set a1 (cJ 40 (cpF kf kf2 0))).set a2 (cA 4 40 (cpF vf vf2 0))).set a3 (cJ 40 (cpF jf jf2 0))).set a4 (cA 5 40 (cpF of of2 0))) (by rw [cpF_0 kf, cpF_0 vf, cpF_0 jf, cpF_0 of]; exact set44 (hl_ne (Ne.symm hD.1) h1) (hl_ne (Ne.symm hD.2.1) h2) (hl_ne (Ne.symm hD.2.2.1) h3) (hl_ne (Ne.symm hD.2.2.2.1) h4)) ?_
  exact pg_sub (L := [(0, .ref o), (1, .ref p), (2, ii (0 : Int))]) rfl rfl rfl (lp18 _ 0 rfl (by omega))
theorem nmI {h : mj_H} {o : Nat} (ho : o < h.length) (c1 c2 c3 c4 C1 C2 C3 C4 : mj_E) : (((((((h ++ [c1]).set o C1) ++ [c2]).set o C2) ++ [c3]).set o C3) ++ [c4]).set o C4 = (h.set o C4) ++ [c1, c2, c3, c4] := by
  have l1 : ∀ (X Y : mj_H) (c : mj_E), o < X.length → (X ++ Y).set o c = X.set o c ++ Y := fun X Y c hx => List.set_append_left _ _ hx
  have l2 : ∀ c : mj_E, o < (h.set o c).length := fun c => by rw [List.length_set]; exact ho
  rw [l1 h [c1] C1 ho, List.append_assoc, l1 _ _ C2 (l2 _), List.set_set, List.append_assoc, l1 _ _ C3 (l2 _), List.set_set, List.append_assoc, l1 _ _ C4 (l2 _), List.set_set]
  rfl
set_option maxRecDepth 20000 in
theorem pm_X2_init : mj_mmof pg_ms 1 = some ((⟨"ArrayCalculator$Names", "<init>", "()V"⟩, prog_4_method_1_code, 1, (Option.none : Option Jvm.ClassFile.FieldType)), 2, true, mj_dec prog_4_method_1_code) := rfl
theorem dm_X2_init_0 : mj_dec prog_4_method_1_code 0 = some (.aload_n 0, 1) := by decide +kernel
theorem dm_X2_init_1 : mj_dec prog_4_method_1_code 1 = some (.invokespecial 3, 3) := by decide +kernel
theorem dm_X2_init_4 : mj_dec prog_4_method_1_code 4 = some (.aload_n 0, 1) := by decide +kernel
theorem dm_X2_init_5 : mj_dec prog_4_method_1_code 5 = some (.bipush 40, 2) := by decide +kernel
theorem dm_X2_init_7 : mj_dec prog_4_method_1_code 7 = some (.newarray .long, 2) := by decide +kernel
theorem dm_X2_init_9 : mj_dec prog_4_method_1_code 9 = some (.putfield 9, 3) := by decide +kernel
theorem dm_X2_init_12 : mj_dec prog_4_method_1_code 12 = some (.aload_n 0, 1) := by decide +kernel
theorem dm_X2_init_13 : mj_dec prog_4_method_1_code 13 = some (.bipush 40, 2) := by decide +kernel
theorem dm_X2_init_15 : mj_dec prog_4_method_1_code 15 = some (.anewarray 15, 3) := by decide +kernel
theorem dm_X2_init_18 : mj_dec prog_4_method_1_code 18 = some (.putfield 17, 3) := by decide +kernel
theorem dm_X2_init_21 : mj_dec prog_4_method_1_code 21 = some (.aload_n 0, 1) := by decide +kernel
theorem dm_X2_init_22 : mj_dec prog_4_method_1_code 22 = some (.bipush 40, 2) := by decide +kernel
theorem dm_X2_init_24 : mj_dec prog_4_method_1_code 24 = some (.newarray .long, 2) := by decide +kernel
theorem dm_X2_init_26 : mj_dec prog_4_method_1_code 26 = some (.putfield 21, 3) := by decide +kernel
theorem dm_X2_init_29 : mj_dec prog_4_method_1_code 29 = some (.aload_n 0, 1) := by decide +kernel
theorem dm_X2_init_30 : mj_dec prog_4_method_1_code 30 = some (.bipush 40, 2) := by decide +kernel
theorem dm_X2_init_32 : mj_dec prog_4_method_1_code 32 = some (.anewarray 24, 3) := by decide +kernel
theorem dm_X2_init_35 : mj_dec prog_4_method_1_code 35 = some (.putfield 26, 3) := by decide +kernel
theorem dm_X2_init_38 : mj_dec prog_4_method_1_code 38 = some (.return_, 1) := by decide +kernel
theorem n_init {xt : mj_X} {d o : Nat} {h : mj_H} (hd : 3 ≤ d) (ho : h[o]? = some (cO 2 [.null, .null, ii 0, .null, .null, ii 0])) (ho2 : 2 ≤ o) : pgN xt d 1 [.ref o] h (fun h' => h' = (h.set o (cO 2 [.ref h.length, .ref (h.length + 1), ii 0, .ref (h.length + 2), .ref (h.length + 3), ii 0])) ++ [cJ 40 (fun _ => 0), cA 4 40 (fun _ => none), cJ 40 (fun _ => 0), cA 5 40 (fun _ => none)]) := by
  refine x_enter pm_X2_init (L0 := [(0, .ref o)]) rfl (Nat.le_of_ble_eq_true rfl) (by omega) ?_
  refine me1 (pc' := 1) (L' := [(0, .ref o)]) (S' := [.ref o]) dm_X2_init_0 rfl rfl rfl rfl ?_
  refine me4o (pc' := 4) (rest := []) dm_X2_init_1 rfl rfl (by omega) rfl rfl rfl ?_
  refine me1 (pc' := 5) (L' := [(0, .ref o)]) (S' := [.ref o]) dm_X2_init_4 rfl rfl rfl rfl ?_
  refine me0 (pc' := 7) (S' := [ii 40, .ref o]) dm_X2_init_5 rfl rfl rfl rfl ?_
  refine me3 (pc' := 9) (S' := [.ref h.length, .ref o]) (h1 := h ++ [cJ 40 (fun _ => 0)]) dm_X2_init_7 (yh_newJ (by omega) (by omega) (by omega) rfl) rfl rfl rfl ?_
  refine me3 (pc' := 12) (S' := []) (h1 := (h ++ [cJ 40 (fun _ => 0)]).set o (cO 2 [.ref h.length, .null, ii 0, .null, .null, ii 0])) dm_X2_init_9 (g_put (fs' := [.ref h.length, .null, ii 0, .null, .null, ii 0]) (hl_app ho) rfl rfl rfl (by simp) rfl (by decide) (fun _ => rfl) (by omega)) rfl rfl rfl ?_
  refine me1 (pc' := 13) (L' := [(0, .ref o)]) (S' := [.ref o]) dm_X2_init_12 rfl rfl rfl rfl ?_
  refine me0 (pc' := 15) (S' := [ii 40, .ref o]) dm_X2_init_13 rfl rfl rfl rfl ?_
  refine me3 (pc' := 18) (S' := [.ref (h.length + 1), .ref o]) (h1 := ((h ++ [cJ 40 (fun _ => 0)]).set o (cO 2 [.ref h.length, .null, ii 0, .null, .null, ii 0])) ++ [cA 4 40 (fun _ => none)]) dm_X2_init_15 (yh_newA rfl (by omega) (by omega) (by omega) (by simp)) rfl rfl rfl ?_
  refine me3 (pc' := 21) (S' := []) (h1 := (((h ++ [cJ 40 (fun _ => 0)]).set o (cO 2 [.ref h.length, .null, ii 0, .null, .null, ii 0])) ++ [cA 4 40 (fun _ => none)]).set o (cO 2 [.ref h.length, .ref (h.length + 1), ii 0, .null, .null, ii 0])) dm_X2_init_18 (g_put (fs' := [.ref h.length, .ref (h.length + 1), ii 0, .null, .null, ii 0]) (hl_app (hl_set (hl_lt (hl_app ho)))) rfl rfl rfl (by simp) rfl (by decide) (fun _ => rfl) (by omega)) rfl rfl rfl ?_
  refine me1 (pc' := 22) (L' := [(0, .ref o)]) (S' := [.ref o]) dm_X2_init_21 rfl rfl rfl rfl ?_
  refine me0 (pc' := 24) (S' := [ii 40, .ref o]) dm_X2_init_22 rfl rfl rfl rfl ?_
  refine me3 (pc' := 26) (S' := [.ref (h.length + 2), .ref o]) (h1 := ((((h ++ [cJ 40 (fun _ => 0)]).set o (cO 2 [.ref h.length, .null, ii 0, .null, .null, ii 0])) ++ [cA 4 40 (fun _ => none)]).set o (cO 2 [.ref h.length, .ref (h.length + 1), ii 0, .null, .null, ii 0])) ++ [cJ 40 (fun _ => 0)]) dm_X2_init_24 (yh_newJ (by omega) (by omega) (by omega) (by simp)) rfl rfl rfl ?_
  refine me3 (pc' := 29) (S' := []) (h1 := (((((h ++ [cJ 40 (fun _ => 0)]).set o (cO 2 [.ref h.length, .null, ii 0, .null, .null, ii 0])) ++ [cA 4 40 (fun _ => none)]).set o (cO 2 [.ref h.length, .ref (h.length + 1), ii 0, .null, .null, ii 0])) ++ [cJ 40 (fun _ => 0)]).set o (cO 2 [.ref h.length, .ref (h.length + 1), ii 0, .ref (h.length + 2), .null, ii 0])) dm_X2_init_26 (g_put (fs' := [.ref h.length, .ref (h.length + 1), ii 0, .ref (h.length + 2), .null, ii 0]) (hl_app (hl_set (hl_lt (hl_app (hl_set (hl_lt (hl_app ho))))))) rfl rfl rfl (by simp) rfl (by decide) (fun _ => rfl) (by omega)) rfl rfl rfl ?_
  refine me1 (pc' := 30) (L' := [(0, .ref o)]) (S' := [.ref o]) dm_X2_init_29 rfl rfl rfl rfl ?_
  refine me0 (pc' := 32) (S' := [ii 40, .ref o]) dm_X2_init_30 rfl rfl rfl rfl ?_
  refine me3 (pc' := 35) (S' := [.ref (h.length + 3), .ref o]) (h1 := ((((((h ++ [cJ 40 (fun _ => 0)]).set o (cO 2 [.ref h.length, .null, ii 0, .null, .null, ii 0])) ++ [cA 4 40 (fun _ => none)]).set o (cO 2 [.ref h.length, .ref (h.length + 1), ii 0, .null, .null, ii 0])) ++ [cJ 40 (fun _ => 0)]).set o (cO 2 [.ref h.length, .ref (h.length + 1), ii 0, .ref (h.length + 2), .null, ii 0])) ++ [cA 5 40 (fun _ => none)]) dm_X2_init_32 (yh_newA rfl (by omega) (by omega) (by omega) (by simp)) rfl rfl rfl ?_
  refine me3 (pc' := 38) (S' := []) (h1 := (((((((h ++ [cJ 40 (fun _ => 0)]).set o (cO 2 [.ref h.length, .null, ii 0, .null, .null, ii 0])) ++ [cA 4 40 (fun _ => none)]).set o (cO 2 [.ref h.length, .ref (h.length + 1), ii 0, .null, .null, ii 0])) ++ [cJ 40 (fun _ => 0)]).set o (cO 2 [.ref h.length, .ref (h.length + 1), ii 0, .ref (h.length + 2), .null, ii 0])) ++ [cA 5 40 (fun _ => none)]).set o (cO 2 [.ref h.length, .ref (h.length + 1), ii 0, .ref (h.length + 2), .ref (h.length + 3), ii 0])) dm_X2_init_35 (g_put (fs' := [.ref h.length, .ref (h.length + 1), ii 0, .ref (h.length + 2), .ref (h.length + 3), ii 0]) (hl_app (hl_set (hl_lt (hl_app (hl_set (hl_lt (hl_app (hl_set (hl_lt (hl_app ho)))))))))) rfl rfl rfl (by simp) rfl (by decide) (fun _ => rfl) (by omega)) rfl rfl rfl ?_
  refine y_ret (r := none) dm_X2_init_38 rfl rfl rfl ?_
  exact ⟨rfl, nmI (hl_lt ho) _ _ _ _ _ _ _ _⟩
