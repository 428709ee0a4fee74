/-- moved down by one from i on, up to k -/
def sh {α : Type} (f : Nat → α) (i k : Nat) : Nat → α := fun j => if i ≤ j ∧ j < k then f (j + 1) else f j
theorem sh_0 {α : Type} (f : Nat → α) (i : Nat) : sh f i i = f := by
  funext j
  unfold sh
  rw [if_neg (by omega)]
theorem sh_s {α : Type} (f : Nat → α) {i k : Nat} (h : i ≤ k) : va_up (sh f i k) k (f (k + 1)) = sh f i (k + 1) := by
  funext j
  rw [up_at]
  unfold sh
  by_cases z : j = k
  · rw [if_pos z, if_pos (by omega), z]
  · rw [if_neg z]
    by_cases y : i ≤ j ∧ j < k
    · rw [if_pos y, if_pos (by omega)]
    · rw [if_neg y, if_neg (by omega)]
theorem sh_up {α : Type} (f : Nat → α) (i k : Nat) : sh f i k (k + 1) = f (k + 1) := by
  unfold sh
  rw [if_neg (by omega)]
theorem set4 {h : mj_H} {a b : Nat} (hn : a ≠ b) (x y x' y' : mj_E) : ((((h.set a x).set b y).set a x').set b y') = (h.set a x').set b y' := by
  rw [List.set_comm y x' (fun z => hn z.symm), List.set_set, List.set_set]
theorem set22 {h : mj_H} {a b : Nat} {x y : mj_E} (h1 : h[a]? = some x) (h2 : h[b]? = some y) : h = (h.set a x).set b y := by
  rw [hl_self h1, hl_self h2]
/-- what a Names holds -/
def NS (h : mj_H) (o a1 a2 a3 a4 n : Nat) (kf : Nat → Int64) (vf : Nat → Option Nat) (m : Nat) (jf : Nat → Int64) (of : Nat → Option Nat) : Prop := h[o]? = some (cO 2 [.ref a1, .ref a2, ii (n : Int), .ref a3, .ref a4, ii (m : Int)]) ∧ h[a1]? = some (cJ 40 kf) ∧ h[a2]? = some (cA 4 40 vf) ∧ h[a3]? = some (cJ 40 jf) ∧ h[a4]? = some (cA 5 40 of)
/-- its five cells lie apart -/
def NDis (o a1 a2 a3 a4 : Nat) : Prop := o ≠ a1 ∧ o ≠ a2 ∧ o ≠ a3 ∧ o ≠ a4 ∧ a1 ≠ a2 ∧ a1 ≠ a3 ∧ a1 ≠ a4 ∧ a2 ≠ a3 ∧ a2 ≠ a4 ∧ a3 ≠ a4
/-- nothing else has changed -/
def nch (o a1 a2 a3 a4 : Nat) (h h' : mj_H) : Prop := h'.length = h.length ∧ mj_sl h' = mj_sl h ∧ ∀ x, x ≠ o → x ≠ a1 → x ≠ a2 → x ≠ a3 → x ≠ a4 → h'[x]? = h[x]?
theorem nch_rf {o a1 a2 a3 a4 : Nat} (h : mj_H) : nch o a1 a2 a3 a4 h h := ⟨rfl, rfl, fun _ _ _ _ _ _ => rfl⟩
theorem nch_tr {o a1 a2 a3 a4 : Nat} {h h1 h2 : mj_H} (p : nch o a1 a2 a3 a4 h h1) (q : nch o a1 a2 a3 a4 h1 h2) : nch o a1 a2 a3 a4 h h2 := ⟨q.1.trans p.1, q.2.1.trans p.2.1, fun x c1 c2 c3 c4 c5 => (q.2.2 x c1 c2 c3 c4 c5).trans (p.2.2 x c1 c2 c3 c4 c5)⟩
theorem nch_set {o a1 a2 a3 a4 : Nat} {h : mj_H} {a : Nat} {e e' : mj_E} (ha : a = o ∨ a = a1 ∨ a = a2 ∨ a = a3 ∨ a = a4) (hg : h[a]? = some e) (hs : mj_sl1 e' = mj_sl1 e) : nch o a1 a2 a3 a4 h (h.set a e') := ⟨by rw [List.length_set], sl_set hg hs, fun x c1 c2 c3 c4 c5 => by rw [List.getElem?_set_ne (show a ≠ x by omega)]⟩
theorem shset {h : mj_H} {a b t i k q : Nat} {K : Nat → Int64} {V : Nat → Option Nat} (hi : i ≤ k) (hq : V (k + 1) = some q) : (h.set a (cJ 40 (va_up (sh K i k) k (sh K i k (k + 1))))).set b (cA t 40 (va_up (sh V i k) k (some q))) = (h.set a (cJ 40 (sh K i (k + 1)))).set b (cA t 40 (sh V i (k + 1))) := by
  rw [sh_up, sh_s K hi, ← hq, sh_s V hi]
set_option maxRecDepth 20000 in
theorem pm_X2_dropValue : mj_mmof pg_ms 69 = some ((⟨"ArrayCalculator$Names", "dropValue", "(J)V"⟩, prog_4_method_13_code, 5, (Option.none : Option Jvm.ClassFile.FieldType)), 2, false, mj_dec prog_4_method_13_code) := rfl
theorem dm_X2_dropValue_0 : mj_dec prog_4_method_13_code 0 = some (.aload_n 0, 1) := by decide +kernel
theorem dm_X2_dropValue_1 : mj_dec prog_4_method_13_code 1 = some (.getfield 9, 3) := by decide +kernel
theorem dm_X2_dropValue_4 : mj_dec prog_4_method_13_code 4 = some (.aload_n 0, 1) := by decide +kernel
theorem dm_X2_dropValue_5 : mj_dec prog_4_method_13_code 5 = some (.getfield 30, 3) := by decide +kernel
theorem dm_X2_dropValue_8 : mj_dec prog_4_method_13_code 8 = some (.lload_n 1, 1) := by decide +kernel
theorem dm_X2_dropValue_9 : mj_dec prog_4_method_13_code 9 = some (.invokestatic 41, 3) := by decide +kernel
theorem dm_X2_dropValue_12 : mj_dec prog_4_method_13_code 12 = some (.istore_n 3, 1) := by decide +kernel
theorem dm_X2_dropValue_13 : mj_dec prog_4_method_13_code 13 = some (.iload_n 3, 1) := by decide +kernel
theorem dm_X2_dropValue_14 : mj_dec prog_4_method_13_code 14 = some (.aload_n 0, 1) := by decide +kernel
theorem dm_X2_dropValue_15 : mj_dec prog_4_method_13_code 15 = some (.getfield 30, 3) := by decide +kernel
theorem dm_X2_dropValue_18 : mj_dec prog_4_method_13_code 18 = some (.if_icmp .ne 4, 3) := by decide +kernel
theorem dm_X2_dropValue_21 : mj_dec prog_4_method_13_code 21 = some (.return_, 1) := by decide +kernel
theorem dm_X2_dropValue_22 : mj_dec prog_4_method_13_code 22 = some (.iload_n 3, 1) := by decide +kernel
theorem dm_X2_dropValue_23 : mj_dec prog_4_method_13_code 23 = some (.istore 4, 2) := by decide +kernel
theorem dm_X2_dropValue_25 : mj_dec prog_4_method_13_code 25 = some (.iload 4, 2) := by decide +kernel
theorem dm_X2_dropValue_27 : mj_dec prog_4_method_13_code 27 = some (.iconst 1, 1) := by decide +kernel
theorem dm_X2_dropValue_28 : mj_dec prog_4_method_13_code 28 = some (.iadd, 1) := by decide +kernel
theorem dm_X2_dropValue_29 : mj_dec prog_4_method_13_code 29 = some (.aload_n 0, 1) := by decide +kernel
theorem dm_X2_dropValue_30 : mj_dec prog_4_method_13_code 30 = some (.getfield 30, 3) := by decide +kernel
theorem dm_X2_dropValue_33 : mj_dec prog_4_method_13_code 33 = some (.if_icmp .ge 41, 3) := by decide +kernel
theorem dm_X2_dropValue_36 : mj_dec prog_4_method_13_code 36 = some (.aload_n 0, 1) := by decide +kernel
theorem dm_X2_dropValue_37 : mj_dec prog_4_method_13_code 37 = some (.getfield 9, 3) := by decide +kernel
theorem dm_X2_dropValue_40 : mj_dec prog_4_method_13_code 40 = some (.iload 4, 2) := by decide +kernel
theorem dm_X2_dropValue_42 : mj_dec prog_4_method_13_code 42 = some (.aload_n 0, 1) := by decide +kernel
theorem dm_X2_dropValue_43 : mj_dec prog_4_method_13_code 43 = some (.getfield 9, 3) := by decide +kernel
theorem dm_X2_dropValue_46 : mj_dec prog_4_method_13_code 46 = some (.iload 4, 2) := by decide +kernel
theorem dm_X2_dropValue_48 : mj_dec prog_4_method_13_code 48 = some (.iconst 1, 1) := by decide +kernel
theorem dm_X2_dropValue_49 : mj_dec prog_4_method_13_code 49 = some (.iadd, 1) := by decide +kernel
theorem dm_X2_dropValue_50 : mj_dec prog_4_method_13_code 50 = some (.laload, 1) := by decide +kernel
theorem dm_X2_dropValue_51 : mj_dec prog_4_method_13_code 51 = some (.lastore, 1) := by decide +kernel
theorem dm_X2_dropValue_52 : mj_dec prog_4_method_13_code 52 = some (.aload_n 0, 1) := by decide +kernel
theorem dm_X2_dropValue_53 : mj_dec prog_4_method_13_code 53 = some (.getfield 17, 3) := by decide +kernel
theorem dm_X2_dropValue_56 : mj_dec prog_4_method_13_code 56 = some (.iload 4, 2) := by decide +kernel
theorem dm_X2_dropValue_58 : mj_dec prog_4_method_13_code 58 = some (.aload_n 0, 1) := by decide +kernel
theorem dm_X2_dropValue_59 : mj_dec prog_4_method_13_code 59 = some (.getfield 17, 3) := by decide +kernel
theorem dm_X2_dropValue_62 : mj_dec prog_4_method_13_code 62 = some (.iload 4, 2) := by decide +kernel
theorem dm_X2_dropValue_64 : mj_dec prog_4_method_13_code 64 = some (.iconst 1, 1) := by decide +kernel
theorem dm_X2_dropValue_65 : mj_dec prog_4_method_13_code 65 = some (.iadd, 1) := by decide +kernel
theorem dm_X2_dropValue_66 : mj_dec prog_4_method_13_code 66 = some (.aaload, 1) := by decide +kernel
theorem dm_X2_dropValue_67 : mj_dec prog_4_method_13_code 67 = some (.aastore, 1) := by decide +kernel
theorem dm_X2_dropValue_68 : mj_dec prog_4_method_13_code 68 = some (.iinc 4 1, 3) := by decide +kernel
theorem dm_X2_dropValue_71 : mj_dec prog_4_method_13_code 71 = some (.goto (-46), 3) := by decide +kernel
theorem dm_X2_dropValue_74 : mj_dec prog_4_method_13_code 74 = some (.aload_n 0, 1) := by decide +kernel
theorem dm_X2_dropValue_75 : mj_dec prog_4_method_13_code 75 = some (.dup, 1) := by decide +kernel
theorem dm_X2_dropValue_76 : mj_dec prog_4_method_13_code 76 = some (.getfield 30, 3) := by decide +kernel
theorem dm_X2_dropValue_79 : mj_dec prog_4_method_13_code 79 = some (.iconst 1, 1) := by decide +kernel
theorem dm_X2_dropValue_80 : mj_dec prog_4_method_13_code 80 = some (.isub, 1) := by decide +kernel
theorem dm_X2_dropValue_81 : mj_dec prog_4_method_13_code 81 = some (.putfield 30, 3) := by decide +kernel
theorem dm_X2_dropValue_84 : mj_dec prog_4_method_13_code 84 = some (.return_, 1) := by decide +kernel
theorem n_dropValueY {xt : mj_X} {d o a1 a2 a3 a4 n m : Nat} {h : mj_H} {kf jf : Nat → Int64} {vf of : Nat → Option Nat} {key : Int64} (hd : 2 ≤ d) (hS : NS h o a1 a2 a3 a4 n kf vf m jf of) (hD : NDis o a1 a2 a3 a4) (ho2 : 2 ≤ o ∧ 2 ≤ a1 ∧ 2 ≤ a2 ∧ 2 ≤ a3 ∧ 2 ≤ a4) (hn : n ≤ 40) (hm : m ≤ 40) (hvals : ∀ k, k < n → ∃ q fs, vf k = some q ∧ 2 ≤ q ∧ h[q]? = some (cO 10 fs)) (hf : fndK kf n key < n) : pgN xt d 69 [.ref o, .long key] h (fun h' => ∃ i, i = fndK kf n key ∧ nch o a1 a2 a3 a4 h h' ∧ NS h' o a1 a2 a3 a4 (n - 1) (sh kf i (n - 1)) (sh vf i (n - 1)) m jf of) := by
  obtain ⟨ho, h1, h2, h3, h4⟩ := id hS
  obtain ⟨d1, d2, d3, d4, d5, d6, d7, d8, d9, d10⟩ := id hD
  obtain ⟨i, hi⟩ : ∃ i, i = fndK kf n key := ⟨_, rfl⟩
  have hfi : i < n := by omega
  refine x_enter pm_X2_dropValue (L0 := [(0, .ref o), (1, .long key)]) rfl (Nat.le_of_ble_eq_true rfl) (by omega) ?_
  refine me1 (pc' := 1) (L' := [(0, .ref o), (1, .long key)]) (S' := [.ref o]) dm_X2_dropValue_0 rfl rfl rfl rfl ?_
  refine me3 (pc' := 4) (S' := [.ref a1]) dm_X2_dropValue_1 (g_get (v := .ref a1) ho rfl rfl (by omega)) rfl rfl rfl ?_
  refine me1 (pc' := 5) (L' := [(0, .ref o), (1, .long key)]) (S' := [.ref o, .ref a1]) dm_X2_dropValue_4 rfl rfl rfl rfl ?_
  refine me3 (pc' := 8) (S' := [ii (n : Int), .ref a1]) dm_X2_dropValue_5 (g_get (v := ii (n : Int)) ho rfl rfl (by omega)) rfl rfl rfl ?_
  refine me1 (pc' := 9) (L' := [(0, .ref o), (1, .long key)]) (S' := [.long key, ii (n : Int), .ref a1]) dm_X2_dropValue_8 rfl rfl rfl rfl ?_
  have hfl0 := fstN_le (fun k => decide (kf k = key)) n
  refine x_cp (pc' := 12) (v := ii ((fndK kf n key : Nat) : Int)) (rest := []) dm_X2_dropValue_9 rfl (g_invs (As := [.ref a1, ii (n : Int), .long key]) (S := []) rfl rfl rfl) rfl rfl rfl (n_find (n := n) (by omega) h1 (by omega) (by omega)) ?_
  refine pg_st0 (S' := [ii (i : Int)]) (by rw [hi]) ?_
  refine me1 (pc' := 13) (L' := [(3, ii (i : Int)), (0, .ref o), (1, .long key)]) (S' := []) dm_X2_dropValue_12 rfl rfl rfl rfl ?_
  refine me1 (pc' := 14) (L' := [(3, ii (i : Int)), (0, .ref o), (1, .long key)]) (S' := [ii (i : Int)]) dm_X2_dropValue_13 rfl rfl rfl rfl ?_
  refine me1 (pc' := 15) (L' := [(3, ii (i : Int)), (0, .ref o), (1, .long key)]) (S' := [.ref o, ii (i : Int)]) dm_X2_dropValue_14 rfl rfl rfl rfl ?_
  refine me3 (pc' := 18) (S' := [ii (n : Int), ii (i : Int)]) dm_X2_dropValue_15 (g_get (v := ii (n : Int)) ho rfl rfl (by omega)) rfl rfl rfl ?_
  refine y_2ne (a := (i : Int)) (b := (n : Int)) (t := 22) (pc' := 21) dm_X2_dropValue_18 rfl rfl (by omega) (fun hb1 => ?_) (fun hb1 => ?_)
  · refine me1 (pc' := 23) (L' := [(3, ii (i : Int)), (0, .ref o), (1, .long key)]) (S' := [ii (i : Int)]) dm_X2_dropValue_22 rfl rfl rfl rfl ?_
    refine me1 (pc' := 25) (L' := [(4, ii (i : Int)), (3, ii (i : Int)), (0, .ref o), (1, .long key)]) (S' := []) dm_X2_dropValue_23 rfl rfl rfl rfl ?_
    have lp25 : ∀ (n25 : Nat) (k : Nat), n - k = n25 → (i ≤ k) → (k + 1 ≤ n) → pgE xt (d - 1) 2 5 false (Option.none : Option Jvm.ClassFile.FieldType) (mj_dec prog_4_method_13_code) 25 [(0, .ref o), (1, .long key), (3, ii (i : Int)), (4, ii (k : Int))] [] (((h).set a1 (cJ 40 (sh kf i k))).set a2 (cA 4 40 (sh vf i k))) (fun r h' => r = none ∧ (fun h' => ∃ i, i = fndK kf n key ∧ nch o a1 a2 a3 a4 h h' ∧ NS h' o a1 a2 a3 a4 (n - 1) (sh kf i (n - 1)) (sh vf i (n - 1)) m jf of) h') := by
      intro n25
      induction n25 using Nat.strongRecOn with
      | ind n25 ih25 =>
        intro k hm25 hk hk2
        refine me1 (pc' := 27) (L' := [(0, .ref o), (1, .long key), (3, ii (i : Int)), (4, ii (k : Int))]) (S' := [ii (k : Int)]) dm_X2_dropValue_25 rfl rfl rfl rfl ?_
        refine me0 (pc' := 28) (S' := [ii 1, ii (k : Int)]) dm_X2_dropValue_27 rfl rfl rfl rfl ?_
        refine y_iadd (a := (k : Int)) (b := 1) dm_X2_dropValue_28 (pc' := 29) rfl ?_
        refine me1 (pc' := 30) (L' := [(0, .ref o), (1, .long key), (3, ii (i : Int)), (4, ii (k : Int))]) (S' := [.ref o, ii ((k : Int) + 1)]) dm_X2_dropValue_29 rfl rfl rfl rfl ?_
        refine me3 (pc' := 33) (S' := [ii (n : Int), ii ((k : Int) + 1)]) dm_X2_dropValue_30 (g_get (v := ii (n : Int)) (hl_ne (by omega) (hl_ne (by omega) ho)) rfl rfl (by omega)) rfl rfl rfl ?_
        refine y_2ge (a := (k : Int) + 1) (b := (n : Int)) (t := 74) (pc' := 36) dm_X2_dropValue_33 rfl rfl (by omega) (fun hb2 => ?_) (fun hb2 => ?_)
        · refine me1 (pc' := 75) (L' := [(0, .ref o), (1, .long key), (3, ii (i : Int)), (4, ii (k : Int))]) (S' := [.ref o]) dm_X2_dropValue_74 rfl rfl rfl rfl ?_
          refine me0 (pc' := 76) (S' := [.ref o, .ref o]) dm_X2_dropValue_75 rfl rfl rfl rfl ?_
          refine me3 (pc' := 79) (S' := [ii (n : Int), .ref o]) dm_X2_dropValue_76 (g_get (v := ii (n : Int)) (hl_ne (by omega) (hl_ne (by omega) ho)) rfl rfl (by omega)) rfl rfl rfl ?_
          refine me0 (pc' := 80) (S' := [ii 1, ii (n : Int), .ref o]) dm_X2_dropValue_79 rfl rfl rfl rfl ?_
          refine y_isub (a := (n : Int)) (b := 1) dm_X2_dropValue_80 (pc' := 81) rfl ?_
          refine me3 (pc' := 84) (S' := []) (h1 := (((h).set a1 (cJ 40 (sh kf i k))).set a2 (cA 4 40 (sh vf i k))).set o (cO 2 [.ref a1, .ref a2, ii ((n : Int) - 1), .ref a3, .ref a4, ii (m : Int)])) dm_X2_dropValue_81 (g_put (fs' := [.ref a1, .ref a2, ii ((n : Int) - 1), .ref a3, .ref a4, ii (m : Int)]) (hl_ne (by omega) (hl_ne (by omega) ho)) rfl rfl rfl (by simp) rfl (by decide) (fun z => by cases z) (by omega)) rfl rfl rfl ?_
          refine y_ret (r := none) dm_X2_dropValue_84 rfl rfl rfl ?_
          have hkn : k + 1 = n := by omega
          refine ⟨rfl, i, hi, ?_, ?_⟩
          · refine nch_tr (nch_tr (nch_set (e' := cJ 40 (sh kf i k)) (Or.inr (Or.inl rfl)) h1 rfl) (nch_set (e := cA 4 40 vf) (e' := cA 4 40 (sh vf i k)) (Or.inr (Or.inr (Or.inl rfl))) (hl_ne (by omega) h2) rfl)) ?_; exact nch_set (Or.inl rfl) (hl_ne (by omega) (hl_ne (by omega) ho)) rfl
          · rw [show n - 1 = k by omega]
            refine ⟨?_, ?_, ?_, ?_, ?_⟩
            · rw [hl_set (hl_lt (hl_ne (by omega) (hl_ne (by omega) ho)))]; rw [show (n : Int) - 1 = (k : Int) by omega]
            · exact hl_ne (by omega) (hl_ne (by omega) (hl_set (hl_lt h1)))
            · exact hl_ne (by omega) (hl_set (hl_lt (hl_ne (by omega) h2)))
            · exact hl_ne (by omega) (hl_ne (by omega) (hl_ne (by omega) h3))
            · exact hl_ne (by omega) (hl_ne (by omega) (hl_ne (by omega) h4))
        · obtain ⟨q, fs, hq1, hq2, hq3⟩ := hvals (k + 1) (by omega)
          have hqA : q ≠ a1 := fun z => by rw [z, h1] at hq3; cases hq3
          have hqB : q ≠ a2 := fun z => by rw [z, h2] at hq3; cases hq3
          have hq4 : sh vf i k ((k : Int) + 1).toNat = some q := by rw [show ((k : Int) + 1).toNat = k + 1 from rfl, sh_up]; exact hq1
          refine me1 (pc' := 37) (L' := [(0, .ref o), (1, .long key), (3, ii (i : Int)), (4, ii (k : Int))]) (S' := [.ref o]) dm_X2_dropValue_36 rfl rfl rfl rfl ?_
          refine me3 (pc' := 40) (S' := [.ref a1]) dm_X2_dropValue_37 (g_get (v := .ref a1) (hl_ne (by omega) (hl_ne (by omega) ho)) rfl rfl (by omega)) rfl rfl rfl ?_
          refine me1 (pc' := 42) (L' := [(0, .ref o), (1, .long key), (3, ii (i : Int)), (4, ii (k : Int))]) (S' := [ii (k : Int), .ref a1]) dm_X2_dropValue_40 rfl rfl rfl rfl ?_
          refine me1 (pc' := 43) (L' := [(0, .ref o), (1, .long key), (3, ii (i : Int)), (4, ii (k : Int))]) (S' := [.ref o, ii (k : Int), .ref a1]) dm_X2_dropValue_42 rfl rfl rfl rfl ?_
          refine me3 (pc' := 46) (S' := [.ref a1, ii (k : Int), .ref a1]) dm_X2_dropValue_43 (g_get (v := .ref a1) (hl_ne (by omega) (hl_ne (by omega) ho)) rfl rfl (by omega)) rfl rfl rfl ?_
          refine me1 (pc' := 48) (L' := [(0, .ref o), (1, .long key), (3, ii (i : Int)), (4, ii (k : Int))]) (S' := [ii (k : Int), .ref a1, ii (k : Int), .ref a1]) dm_X2_dropValue_46 rfl rfl rfl rfl ?_
          refine me0 (pc' := 49) (S' := [ii 1, ii (k : Int), .ref a1, ii (k : Int), .ref a1]) dm_X2_dropValue_48 rfl rfl rfl rfl ?_
          refine y_iadd (a := (k : Int)) (b := 1) dm_X2_dropValue_49 (pc' := 50) rfl ?_
          refine me3 (pc' := 51) (S' := [.long ((sh kf i k) (((k : Int) + 1).toNat)), ii (k : Int), .ref a1]) dm_X2_dropValue_50 (yh_lald (w := (sh kf i k) (((k : Int) + 1).toNat)) (hl_ne (by omega) (hl_set (hl_lt h1))) (by omega) (by omega) (by omega) (by omega) rfl) rfl rfl rfl ?_
          refine me3 (pc' := 52) (S' := []) (h1 := (((h).set a1 (cJ 40 (sh kf i k))).set a2 (cA 4 40 (sh vf i k))).set a1 (cJ 40 (va_up (sh kf i k) k ((sh kf i k) (((k : Int) + 1).toNat))))) dm_X2_dropValue_51 (yh_last (j := (k : Int)) (hl_ne (by omega) (hl_set (hl_lt h1))) (by omega) (by omega) (by omega) (by omega)) rfl rfl rfl ?_
          refine me1 (pc' := 53) (L' := [(0, .ref o), (1, .long key), (3, ii (i : Int)), (4, ii (k : Int))]) (S' := [.ref o]) dm_X2_dropValue_52 rfl rfl rfl rfl ?_
          refine me3 (pc' := 56) (S' := [.ref a2]) dm_X2_dropValue_53 (g_get (v := .ref a2) (hl_ne (by omega) (hl_ne (by omega) (hl_ne (by omega) ho))) rfl rfl (by omega)) rfl rfl rfl ?_
          refine me1 (pc' := 58) (L' := [(0, .ref o), (1, .long key), (3, ii (i : Int)), (4, ii (k : Int))]) (S' := [ii (k : Int), .ref a2]) dm_X2_dropValue_56 rfl rfl rfl rfl ?_
          refine me1 (pc' := 59) (L' := [(0, .ref o), (1, .long key), (3, ii (i : Int)), (4, ii (k : Int))]) (S' := [.ref o, ii (k : Int), .ref a2]) dm_X2_dropValue_58 rfl rfl rfl rfl ?_
          refine me3 (pc' := 62) (S' := [.ref a2, ii (k : Int), .ref a2]) dm_X2_dropValue_59 (g_get (v := .ref a2) (hl_ne (by omega) (hl_ne (by omega) (hl_ne (by omega) ho))) rfl rfl (by omega)) rfl rfl rfl ?_
          refine me1 (pc' := 64) (L' := [(0, .ref o), (1, .long key), (3, ii (i : Int)), (4, ii (k : Int))]) (S' := [ii (k : Int), .ref a2, ii (k : Int), .ref a2]) dm_X2_dropValue_62 rfl rfl rfl rfl ?_
          refine me0 (pc' := 65) (S' := [ii 1, ii (k : Int), .ref a2, ii (k : Int), .ref a2]) dm_X2_dropValue_64 rfl rfl rfl rfl ?_
          refine y_iadd (a := (k : Int)) (b := 1) dm_X2_dropValue_65 (pc' := 66) rfl ?_
          refine me3 (pc' := 67) (S' := [.ref q, ii (k : Int), .ref a2]) dm_X2_dropValue_66 (yh_aald (w := some q) rfl (hl_ne (by omega) (hl_set (hl_lt (hl_ne (by omega) h2)))) (by omega) (by omega) (by omega) (by omega) hq4) rfl rfl rfl ?_
          refine me3 (pc' := 68) (S' := []) (h1 := ((((h).set a1 (cJ 40 (sh kf i k))).set a2 (cA 4 40 (sh vf i k))).set a1 (cJ 40 (va_up (sh kf i k) k ((sh kf i k) (((k : Int) + 1).toNat))))).set a2 (cA 4 40 (va_up (sh vf i k) k (some q)))) dm_X2_dropValue_67 (yh_aasr (j := (k : Int)) rfl (hl_ne (by omega) (hl_set (hl_lt (hl_ne (by omega) h2)))) (hl_ne (by omega) (hl_ne (by omega) (hl_ne (by omega) hq3))) (by omega) (by omega) (by omega) (by omega) (by omega)) rfl rfl rfl ?_
          refine y_iinc (pc' := 71) (L' := [(4, ii ((k : Int) + 1)), (0, .ref o), (1, .long key), (3, ii (i : Int))]) dm_X2_dropValue_68 (y_incp (a := (k : Int)) (c := 1) rfl rfl (by decide)) rfl ?_
          refine me2 (pc' := 25) (S' := []) dm_X2_dropValue_71 rfl rfl rfl ?_
          refine pg_cast (h2 := ((h).set a1 (cJ 40 (sh kf i (k + 1)))).set a2 (cA 4 40 (sh vf i (k + 1)))) (by rw [set4 (by omega)]; exact shset (by omega) hq1) ?_
          exact pg_sub (L := [(0, .ref o), (1, .long key), (3, ii (i : Int)), (4, ii ((k + 1) : Int))]) rfl rfl rfl (ih25 (n - (k + 1)) (by omega) (k + 1) rfl (by omega) (by omega))
    refine pg_cast (h2 := ((h).set a1 (cJ 40 (sh kf i i))).set a2 (cA 4 40 (sh vf i i))) (by rw [sh_0, sh_0]; exact set22 h1 h2) ?_
    exact pg_sub (L := [(0, .ref o), (1, .long key), (3, ii (i : Int)), (4, ii (i : Int))]) rfl rfl rfl (lp25 _ i rfl (Nat.le_refl _) (by omega))
  · refine y_ret (r := none) dm_X2_dropValue_21 rfl rfl rfl ?_
    exfalso; omega
theorem n_dropValueN {xt : mj_X} {d o a1 a2 a3 a4 n m : Nat} {h : mj_H} {kf jf : Nat → Int64} {vf of : Nat → Option Nat} {key : Int64} (hd : 2 ≤ d) (hS : NS h o a1 a2 a3 a4 n kf vf m jf of) (hD : NDis o a1 a2 a3 a4) (ho2 : 2 ≤ o ∧ 2 ≤ a1 ∧ 2 ≤ a2 ∧ 2 ≤ a3 ∧ 2 ≤ a4) (hn : n ≤ 40) (hm : m ≤ 40) (hf : fndK kf n key = n) : pgN xt d 69 [.ref o, .long key] h (fun h' => h' = h) := by
  obtain ⟨ho, h1, h2, h3, h4⟩ := id hS
  obtain ⟨d1, d2, d3, d4, d5, d6, d7, d8, d9, d10⟩ := id hD
  refine x_enter pm_X2_dropValue (L0 := [(0, .ref o), (1, .long key)]) rfl (Nat.le_of_ble_eq_true rfl) (by omega) ?_
  refine me1 (pc' := 1) (L' := [(0, .ref o), (1, .long key)]) (S' := [.ref o]) dm_X2_dropValue_0 rfl rfl rfl rfl ?_
  refine me3 (pc' := 4) (S' := [.ref a1]) dm_X2_dropValue_1 (g_get (v := .ref a1) ho rfl rfl (by omega)) rfl rfl rfl ?_
  refine me1 (pc' := 5) (L' := [(0, .ref o), (1, .long key)]) (S' := [.ref o, .ref a1]) dm_X2_dropValue_4 rfl rfl rfl rfl ?_
  refine me3 (pc' := 8) (S' := [ii (n : Int), .ref a1]) dm_X2_dropValue_5 (g_get (v := ii (n : Int)) ho rfl rfl (by omega)) rfl rfl rfl ?_
  refine me1 (pc' := 9) (L' := [(0, .ref o), (1, .long key)]) (S' := [.long key, ii (n : Int), .ref a1]) dm_X2_dropValue_8 rfl rfl rfl rfl ?_
  have hfl0 := fstN_le (fun k => decide (kf k = key)) n
  refine x_cp (pc' := 12) (v := ii ((fndK kf n key : Nat) : Int)) (rest := []) dm_X2_dropValue_9 rfl (g_invs (As := [.ref a1, ii (n : Int), .long key]) (S := []) rfl rfl rfl) rfl rfl rfl (n_find (n := n) (by omega) h1 (by omega) (by omega)) ?_
  refine me1 (pc' := 13) (L' := [(3, ii ((fndK kf n key : Nat) : Int)), (0, .ref o), (1, .long key)]) (S' := []) dm_X2_dropValue_12 rfl rfl rfl rfl ?_
  refine me1 (pc' := 14) (L' := [(3, ii ((fndK kf n key : Nat) : Int)), (0, .ref o), (1, .long key)]) (S' := [ii ((fndK kf n key : Nat) : Int)]) dm_X2_dropValue_13 rfl rfl rfl rfl ?_
  refine me1 (pc' := 15) (L' := [(3, ii ((fndK kf n key : Nat) : Int)), (0, .ref o), (1, .long key)]) (S' := [.ref o, ii ((fndK kf n key : Nat) : Int)]) dm_X2_dropValue_14 rfl rfl rfl rfl ?_
  refine me3 (pc' := 18) (S' := [ii (n : Int), ii ((fndK kf n key : Nat) : Int)]) dm_X2_dropValue_15 (g_get (v := ii (n : Int)) ho rfl rfl (by omega)) rfl rfl rfl ?_
  refine y_2ne (a := ((fndK kf n key : Nat) : Int)) (b := (n : Int)) (t := 22) (pc' := 21) dm_X2_dropValue_18 rfl rfl (by omega) (fun hb1 => ?_) (fun hb1 => ?_)
  · exfalso; omega
  · refine y_ret (r := none) dm_X2_dropValue_21 rfl rfl rfl ?_
    exact ⟨rfl, rfl⟩
set_option maxRecDepth 20000 in
theorem pm_X2_dropFunction : mj_mmof pg_ms 180 = some ((⟨"ArrayCalculator$Names", "dropFunction", "(J)V"⟩, prog_4_method_14_code, 5, (Option.none : Option Jvm.ClassFile.FieldType)), 2, false, mj_dec prog_4_method_14_code) := rfl
theorem dm_X2_dropFunction_0 : mj_dec prog_4_method_14_code 0 = some (.aload_n 0, 1) := by decide +kernel
theorem dm_X2_dropFunction_1 : mj_dec prog_4_method_14_code 1 = some (.getfield 21, 3) := by decide +kernel
theorem dm_X2_dropFunction_4 : mj_dec prog_4_method_14_code 4 = some (.aload_n 0, 1) := by decide +kernel
theorem dm_X2_dropFunction_5 : mj_dec prog_4_method_14_code 5 = some (.getfield 34, 3) := by decide +kernel
theorem dm_X2_dropFunction_8 : mj_dec prog_4_method_14_code 8 = some (.lload_n 1, 1) := by decide +kernel
theorem dm_X2_dropFunction_9 : mj_dec prog_4_method_14_code 9 = some (.invokestatic 41, 3) := by decide +kernel
theorem dm_X2_dropFunction_12 : mj_dec prog_4_method_14_code 12 = some (.istore_n 3, 1) := by decide +kernel
theorem dm_X2_dropFunction_13 : mj_dec prog_4_method_14_code 13 = some (.iload_n 3, 1) := by decide +kernel
theorem dm_X2_dropFunction_14 : mj_dec prog_4_method_14_code 14 = some (.aload_n 0, 1) := by decide +kernel
theorem dm_X2_dropFunction_15 : mj_dec prog_4_method_14_code 15 = some (.getfield 34, 3) := by decide +kernel
theorem dm_X2_dropFunction_18 : mj_dec prog_4_method_14_code 18 = some (.if_icmp .ne 4, 3) := by decide +kernel
theorem dm_X2_dropFunction_21 : mj_dec prog_4_method_14_code 21 = some (.return_, 1) := by decide +kernel
theorem dm_X2_dropFunction_22 : mj_dec prog_4_method_14_code 22 = some (.iload_n 3, 1) := by decide +kernel
theorem dm_X2_dropFunction_23 : mj_dec prog_4_method_14_code 23 = some (.istore 4, 2) := by decide +kernel
theorem dm_X2_dropFunction_25 : mj_dec prog_4_method_14_code 25 = some (.iload 4, 2) := by decide +kernel
theorem dm_X2_dropFunction_27 : mj_dec prog_4_method_14_code 27 = some (.iconst 1, 1) := by decide +kernel
theorem dm_X2_dropFunction_28 : mj_dec prog_4_method_14_code 28 = some (.iadd, 1) := by decide +kernel
theorem dm_X2_dropFunction_29 : mj_dec prog_4_method_14_code 29 = some (.aload_n 0, 1) := by decide +kernel
theorem dm_X2_dropFunction_30 : mj_dec prog_4_method_14_code 30 = some (.getfield 34, 3) := by decide +kernel
theorem dm_X2_dropFunction_33 : mj_dec prog_4_method_14_code 33 = some (.if_icmp .ge 41, 3) := by decide +kernel
theorem dm_X2_dropFunction_36 : mj_dec prog_4_method_14_code 36 = some (.aload_n 0, 1) := by decide +kernel
theorem dm_X2_dropFunction_37 : mj_dec prog_4_method_14_code 37 = some (.getfield 21, 3) := by decide +kernel
theorem dm_X2_dropFunction_40 : mj_dec prog_4_method_14_code 40 = some (.iload 4, 2) := by decide +kernel
theorem dm_X2_dropFunction_42 : mj_dec prog_4_method_14_code 42 = some (.aload_n 0, 1) := by decide +kernel
theorem dm_X2_dropFunction_43 : mj_dec prog_4_method_14_code 43 = some (.getfield 21, 3) := by decide +kernel
theorem dm_X2_dropFunction_46 : mj_dec prog_4_method_14_code 46 = some (.iload 4, 2) := by decide +kernel
theorem dm_X2_dropFunction_48 : mj_dec prog_4_method_14_code 48 = some (.iconst 1, 1) := by decide +kernel
theorem dm_X2_dropFunction_49 : mj_dec prog_4_method_14_code 49 = some (.iadd, 1) := by decide +kernel
theorem dm_X2_dropFunction_50 : mj_dec prog_4_method_14_code 50 = some (.laload, 1) := by decide +kernel
theorem dm_X2_dropFunction_51 : mj_dec prog_4_method_14_code 51 = some (.lastore, 1) := by decide +kernel
theorem dm_X2_dropFunction_52 : mj_dec prog_4_method_14_code 52 = some (.aload_n 0, 1) := by decide +kernel
theorem dm_X2_dropFunction_53 : mj_dec prog_4_method_14_code 53 = some (.getfield 26, 3) := by decide +kernel
theorem dm_X2_dropFunction_56 : mj_dec prog_4_method_14_code 56 = some (.iload 4, 2) := by decide +kernel
theorem dm_X2_dropFunction_58 : mj_dec prog_4_method_14_code 58 = some (.aload_n 0, 1) := by decide +kernel
theorem dm_X2_dropFunction_59 : mj_dec prog_4_method_14_code 59 = some (.getfield 26, 3) := by decide +kernel
theorem dm_X2_dropFunction_62 : mj_dec prog_4_method_14_code 62 = some (.iload 4, 2) := by decide +kernel
theorem dm_X2_dropFunction_64 : mj_dec prog_4_method_14_code 64 = some (.iconst 1, 1) := by decide +kernel
theorem dm_X2_dropFunction_65 : mj_dec prog_4_method_14_code 65 = some (.iadd, 1) := by decide +kernel
theorem dm_X2_dropFunction_66 : mj_dec prog_4_method_14_code 66 = some (.aaload, 1) := by decide +kernel
theorem dm_X2_dropFunction_67 : mj_dec prog_4_method_14_code 67 = some (.aastore, 1) := by decide +kernel
theorem dm_X2_dropFunction_68 : mj_dec prog_4_method_14_code 68 = some (.iinc 4 1, 3) := by decide +kernel
theorem dm_X2_dropFunction_71 : mj_dec prog_4_method_14_code 71 = some (.goto (-46), 3) := by decide +kernel
theorem dm_X2_dropFunction_74 : mj_dec prog_4_method_14_code 74 = some (.aload_n 0, 1) := by decide +kernel
theorem dm_X2_dropFunction_75 : mj_dec prog_4_method_14_code 75 = some (.dup, 1) := by decide +kernel
theorem dm_X2_dropFunction_76 : mj_dec prog_4_method_14_code 76 = some (.getfield 34, 3) := by decide +kernel
theorem dm_X2_dropFunction_79 : mj_dec prog_4_method_14_code 79 = some (.iconst 1, 1) := by decide +kernel
theorem dm_X2_dropFunction_80 : mj_dec prog_4_method_14_code 80 = some (.isub, 1) := by decide +kernel
theorem dm_X2_dropFunction_81 : mj_dec prog_4_method_14_code 81 = some (.putfield 34, 3) := by decide +kernel
theorem dm_X2_dropFunction_84 : mj_dec prog_4_method_14_code 84 = some (.return_, 1) := by decide +kernel
theorem n_dropFunctionY {xt : mj_X} {d o a1 a2 a3 a4 n m : Nat} {h : mj_H} {kf jf : Nat → Int64} {vf of : Nat → Option Nat} {key : Int64} (hd : 2 ≤ d) (hS : NS h o a1 a2 a3 a4 n kf vf m jf of) (hD : NDis o a1 a2 a3 a4) (ho2 : 2 ≤ o ∧ 2 ≤ a1 ∧ 2 ≤ a2 ∧ 2 ≤ a3 ∧ 2 ≤ a4) (hn : n ≤ 40) (hm : m ≤ 40) (hvals : ∀ k, k < m → ∃ q fs, of k = some q ∧ 2 ≤ q ∧ h[q]? = some (cO 4 fs)) (hf : fndK jf m key < m) : pgN xt d 180 [.ref o, .long key] h (fun h' => ∃ i, i = fndK jf m key ∧ nch o a1 a2 a3 a4 h h' ∧ NS h' o a1 a2 a3 a4 n kf vf (m - 1) (sh jf i (m - 1)) (sh of i (m - 1))) := by
  obtain ⟨ho, h1, h2, h3, h4⟩ := id hS
  obtain ⟨d1, d2, d3, d4, d5, d6, d7, d8, d9, d10⟩ := id hD
  obtain ⟨i, hi⟩ : ∃ i, i = fndK jf m key := ⟨_, rfl⟩
  have hfi : i < m := by omega
  refine x_enter pm_X2_dropFunction (L0 := [(0, .ref o), (1, .long key)]) rfl (Nat.le_of_ble_eq_true rfl) (by omega) ?_
  refine me1 (pc' := 1) (L' := [(0, .ref o), (1, .long key)]) (S' := [.ref o]) dm_X2_dropFunction_0 rfl rfl rfl rfl ?_
  refine me3 (pc' := 4) (S' := [.ref a3]) dm_X2_dropFunction_1 (g_get (v := .ref a3) ho rfl rfl (by omega)) rfl rfl rfl ?_
  refine me1 (pc' := 5) (L' := [(0, .ref o), (1, .long key)]) (S' := [.ref o, .ref a3]) dm_X2_dropFunction_4 rfl rfl rfl rfl ?_
  refine me3 (pc' := 8) (S' := [ii (m : Int), .ref a3]) dm_X2_dropFunction_5 (g_get (v := ii (m : Int)) ho rfl rfl (by omega)) rfl rfl rfl ?_
  refine me1 (pc' := 9) (L' := [(0, .ref o), (1, .long key)]) (S' := [.long key, ii (m : Int), .ref a3]) dm_X2_dropFunction_8 rfl rfl rfl rfl ?_
  have hfl0 := fstN_le (fun k => decide (jf k = key)) m
  refine x_cp (pc' := 12) (v := ii ((fndK jf m key : Nat) : Int)) (rest := []) dm_X2_dropFunction_9 rfl (g_invs (As := [.ref a3, ii (m : Int), .long key]) (S := []) rfl rfl rfl) rfl rfl rfl (n_find (n := m) (by omega) h3 (by omega) (by omega)) ?_
  refine pg_st0 (S' := [ii (i : Int)]) (by rw [hi]) ?_
  refine me1 (pc' := 13) (L' := [(3, ii (i : Int)), (0, .ref o), (1, .long key)]) (S' := []) dm_X2_dropFunction_12 rfl rfl rfl rfl ?_
  refine me1 (pc' := 14) (L' := [(3, ii (i : Int)), (0, .ref o), (1, .long key)]) (S' := [ii (i : Int)]) dm_X2_dropFunction_13 rfl rfl rfl rfl ?_
  refine me1 (pc' := 15) (L' := [(3, ii (i : Int)), (0, .ref o), (1, .long key)]) (S' := [.ref o, ii (i : Int)]) dm_X2_dropFunction_14 rfl rfl rfl rfl ?_
  refine me3 (pc' := 18) (S' := [ii (m : Int), ii (i : Int)]) dm_X2_dropFunction_15 (g_get (v := ii (m : Int)) ho rfl rfl (by omega)) rfl rfl rfl ?_
  refine y_2ne (a := (i : Int)) (b := (m : Int)) (t := 22) (pc' := 21) dm_X2_dropFunction_18 rfl rfl (by omega) (fun hb1 => ?_) (fun hb1 => ?_)
  · refine me1 (pc' := 23) (L' := [(3, ii (i : Int)), (0, .ref o), (1, .long key)]) (S' := [ii (i : Int)]) dm_X2_dropFunction_22 rfl rfl rfl rfl ?_
    refine me1 (pc' := 25) (L' := [(4, ii (i : Int)), (3, ii (i : Int)), (0, .ref o), (1, .long key)]) (S' := []) dm_X2_dropFunction_23 rfl rfl rfl rfl ?_
    have lp25 : ∀ (n25 : Nat) (k : Nat), m - k = n25 → (i ≤ k) → (k + 1 ≤ m) → pgE xt (d - 1) 2 5 false (Option.none : Option Jvm.ClassFile.FieldType) (mj_dec prog_4_method_14_code) 25 [(0, .ref o), (1, .long key), (3, ii (i : Int)), (4, ii (k : Int))] [] (((h).set a3 (cJ 40 (sh jf i k))).set a4 (cA 5 40 (sh of i k))) (fun r h' => r = none ∧ (fun h' => ∃ i, i = fndK jf m key ∧ nch o a1 a2 a3 a4 h h' ∧ NS h' o a1 a2 a3 a4 n kf vf (m - 1) (sh jf i (m - 1)) (sh of i (m - 1))) h') := by
      intro n25
      induction n25 using Nat.strongRecOn with
      | ind n25 ih25 =>
        intro k hm25 hk hk2
        refine me1 (pc' := 27) (L' := [(0, .ref o), (1, .long key), (3, ii (i : Int)), (4, ii (k : Int))]) (S' := [ii (k : Int)]) dm_X2_dropFunction_25 rfl rfl rfl rfl ?_
        refine me0 (pc' := 28) (S' := [ii 1, ii (k : Int)]) dm_X2_dropFunction_27 rfl rfl rfl rfl ?_
        refine y_iadd (a := (k : Int)) (b := 1) dm_X2_dropFunction_28 (pc' := 29) rfl ?_
        refine me1 (pc' := 30) (L' := [(0, .ref o), (1, .long key), (3, ii (i : Int)), (4, ii (k : Int))]) (S' := [.ref o, ii ((k : Int) + 1)]) dm_X2_dropFunction_29 rfl rfl rfl rfl ?_
        refine me3 (pc' := 33) (S' := [ii (m : Int), ii ((k : Int) + 1)]) dm_X2_dropFunction_30 (g_get (v := ii (m : Int)) (hl_ne (by omega) (hl_ne (by omega) ho)) rfl rfl (by omega)) rfl rfl rfl ?_
        refine y_2ge (a := (k : Int) + 1) (b := (m : Int)) (t := 74) (pc' := 36) dm_X2_dropFunction_33 rfl rfl (by omega) (fun hb2 => ?_) (fun hb2 => ?_)
        · refine me1 (pc' := 75) (L' := [(0, .ref o), (1, .long key), (3, ii (i : Int)), (4, ii (k : Int))]) (S' := [.ref o]) dm_X2_dropFunction_74 rfl rfl rfl rfl ?_
          refine me0 (pc' := 76) (S' := [.ref o, .ref o]) dm_X2_dropFunction_75 rfl rfl rfl rfl ?_
          refine me3 (pc' := 79) (S' := [ii (m : Int), .ref o]) dm_X2_dropFunction_76 (g_get (v := ii (m : Int)) (hl_ne (by omega) (hl_ne (by omega) ho)) rfl rfl (by omega)) rfl rfl rfl ?_
          refine me0 (pc' := 80) (S' := [ii 1, ii (m : Int), .ref o]) dm_X2_dropFunction_79 rfl rfl rfl rfl ?_
          refine y_isub (a := (m : Int)) (b := 1) dm_X2_dropFunction_80 (pc' := 81) rfl ?_
          refine me3 (pc' := 84) (S' := []) (h1 := (((h).set a3 (cJ 40 (sh jf i k))).set a4 (cA 5 40 (sh of i k))).set o (cO 2 [.ref a1, .ref a2, ii (n : Int), .ref a3, .ref a4, ii ((m : Int) - 1)])) dm_X2_dropFunction_81 (g_put (fs' := [.ref a1, .ref a2, ii (n : Int), .ref a3, .ref a4, ii ((m : Int) - 1)]) (hl_ne (by omega) (hl_ne (by omega) ho)) rfl rfl rfl (by simp) rfl (by decide) (fun z => by cases z) (by omega)) rfl rfl rfl ?_
          refine y_ret (r := none) dm_X2_dropFunction_84 rfl rfl rfl ?_
          have hkn : k + 1 = m := by omega
          refine ⟨rfl, i, hi, ?_, ?_⟩
          · refine nch_tr (nch_tr (nch_set (e' := cJ 40 (sh jf i k)) (Or.inr (Or.inr (Or.inr (Or.inl rfl)))) h3 rfl) (nch_set (e := cA 5 40 of) (e' := cA 5 40 (sh of i k)) (Or.inr (Or.inr (Or.inr (Or.inr rfl)))) (hl_ne (by omega) h4) rfl)) ?_; exact nch_set (Or.inl rfl) (hl_ne (by omega) (hl_ne (by omega) ho)) rfl
          · rw [show m - 1 = k by omega]
            refine ⟨?_, ?_, ?_, ?_, ?_⟩
            · rw [hl_set (hl_lt (hl_ne (by omega) (hl_ne (by omega) ho)))]; rw [show (m : Int) - 1 = (k : Int) by omega]
            · exact hl_ne (by omega) (hl_ne (by omega) (hl_ne (by omega) h1))
            · exact hl_ne (by omega) (hl_ne (by omega) (hl_ne (by omega) h2))
            · exact hl_ne (by omega) (hl_ne (by omega) (hl_set (hl_lt h3)))
            · exact hl_ne (by omega) (hl_set (hl_lt (hl_ne (by omega) h4)))
        · obtain ⟨q, fs, hq1, hq2, hq3⟩ := hvals (k + 1) (by omega)
          have hqA : q ≠ a3 := fun z => by rw [z, h3] at hq3; cases hq3
          have hqB : q ≠ a4 := fun z => by rw [z, h4] at hq3; cases hq3
          have hq4 : sh of i k ((k : Int) + 1).toNat = some q := by rw [show ((k : Int) + 1).toNat = k + 1 from rfl, sh_up]; exact hq1
          refine me1 (pc' := 37) (L' := [(0, .ref o), (1, .long key), (3, ii (i : Int)), (4, ii (k : Int))]) (S' := [.ref o]) dm_X2_dropFunction_36 rfl rfl rfl rfl ?_
          refine me3 (pc' := 40) (S' := [.ref a3]) dm_X2_dropFunction_37 (g_get (v := .ref a3) (hl_ne (by omega) (hl_ne (by omega) ho)) rfl rfl (by omega)) rfl rfl rfl ?_
          refine me1 (pc' := 42) (L' := [(0, .ref o), (1, .long key), (3, ii (i : Int)), (4, ii (k : Int))]) (S' := [ii (k : Int), .ref a3]) dm_X2_dropFunction_40 rfl rfl rfl rfl ?_
          refine me1 (pc' := 43) (L' := [(0, .ref o), (1, .long key), (3, ii (i : Int)), (4, ii (k : Int))]) (S' := [.ref o, ii (k : Int), .ref a3]) dm_X2_dropFunction_42 rfl rfl rfl rfl ?_
          refine me3 (pc' := 46) (S' := [.ref a3, ii (k : Int), .ref a3]) dm_X2_dropFunction_43 (g_get (v := .ref a3) (hl_ne (by omega) (hl_ne (by omega) ho)) rfl rfl (by omega)) rfl rfl rfl ?_
          refine me1 (pc' := 48) (L' := [(0, .ref o), (1, .long key), (3, ii (i : Int)), (4, ii (k : Int))]) (S' := [ii (k : Int), .ref a3, ii (k : Int), .ref a3]) dm_X2_dropFunction_46 rfl rfl rfl rfl ?_
          refine me0 (pc' := 49) (S' := [ii 1, ii (k : Int), .ref a3, ii (k : Int), .ref a3]) dm_X2_dropFunction_48 rfl rfl rfl rfl ?_
          refine y_iadd (a := (k : Int)) (b := 1) dm_X2_dropFunction_49 (pc' := 50) rfl ?_
          refine me3 (pc' := 51) (S' := [.long ((sh jf i k) (((k : Int) + 1).toNat)), ii (k : Int), .ref a3]) dm_X2_dropFunction_50 (yh_lald (w := (sh jf i k) (((k : Int) + 1).toNat)) (hl_ne (by omega) (hl_set (hl_lt h3))) (by omega) (by omega) (by omega) (by omega) rfl) rfl rfl rfl ?_
          refine me3 (pc' := 52) (S' := []) (h1 := (((h).set a3 (cJ 40 (sh jf i k))).set a4 (cA 5 40 (sh of i k))).set a3 (cJ 40 (va_up (sh jf i k) k ((sh jf i k) (((k : Int) + 1).toNat))))) dm_X2_dropFunction_51 (yh_last (j := (k : Int)) (hl_ne (by omega) (hl_set (hl_lt h3))) (by omega) (by omega) (by omega) (by omega)) rfl rfl rfl ?_
          refine me1 (pc' := 53) (L' := [(0, .ref o), (1, .long key), (3, ii (i : Int)), (4, ii (k : Int))]) (S' := [.ref o]) dm_X2_dropFunction_52 rfl rfl rfl rfl ?_
          refine me3 (pc' := 56) (S' := [.ref a4]) dm_X2_dropFunction_53 (g_get (v := .ref a4) (hl_ne (by omega) (hl_ne (by omega) (hl_ne (by omega) ho))) rfl rfl (by omega)) rfl rfl rfl ?_
          refine me1 (pc' := 58) (L' := [(0, .ref o), (1, .long key), (3, ii (i : Int)), (4, ii (k : Int))]) (S' := [ii (k : Int), .ref a4]) dm_X2_dropFunction_56 rfl rfl rfl rfl ?_
          refine me1 (pc' := 59) (L' := [(0, .ref o), (1, .long key), (3, ii (i : Int)), (4, ii (k : Int))]) (S' := [.ref o, ii (k : Int), .ref a4]) dm_X2_dropFunction_58 rfl rfl rfl rfl ?_
          refine me3 (pc' := 62) (S' := [.ref a4, ii (k : Int), .ref a4]) dm_X2_dropFunction_59 (g_get (v := .ref a4) (hl_ne (by omega) (hl_ne (by omega) (hl_ne (by omega) ho))) rfl rfl (by omega)) rfl rfl rfl ?_
          refine me1 (pc' := 64) (L' := [(0, .ref o), (1, .long key), (3, ii (i : Int)), (4, ii (k : Int))]) (S' := [ii (k : Int), .ref a4, ii (k : Int), .ref a4]) dm_X2_dropFunction_62 rfl rfl rfl rfl ?_
          refine me0 (pc' := 65) (S' := [ii 1, ii (k : Int), .ref a4, ii (k : Int), .ref a4]) dm_X2_dropFunction_64 rfl rfl rfl rfl ?_
          refine y_iadd (a := (k : Int)) (b := 1) dm_X2_dropFunction_65 (pc' := 66) rfl ?_
          refine me3 (pc' := 67) (S' := [.ref q, ii (k : Int), .ref a4]) dm_X2_dropFunction_66 (yh_aald (w := some q) rfl (hl_ne (by omega) (hl_set (hl_lt (hl_ne (by omega) h4)))) (by omega) (by omega) (by omega) (by omega) hq4) rfl rfl rfl ?_
          refine me3 (pc' := 68) (S' := []) (h1 := ((((h).set a3 (cJ 40 (sh jf i k))).set a4 (cA 5 40 (sh of i k))).set a3 (cJ 40 (va_up (sh jf i k) k ((sh jf i k) (((k : Int) + 1).toNat))))).set a4 (cA 5 40 (va_up (sh of i k) k (some q)))) dm_X2_dropFunction_67 (yh_aasr (j := (k : Int)) rfl (hl_ne (by omega) (hl_set (hl_lt (hl_ne (by omega) h4)))) (hl_ne (by omega) (hl_ne (by omega) (hl_ne (by omega) hq3))) (by omega) (by omega) (by omega) (by omega) (by omega)) rfl rfl rfl ?_
          refine y_iinc (pc' := 71) (L' := [(4, ii ((k : Int) + 1)), (0, .ref o), (1, .long key), (3, ii (i : Int))]) dm_X2_dropFunction_68 (y_incp (a := (k : Int)) (c := 1) rfl rfl (by decide)) rfl ?_
          refine me2 (pc' := 25) (S' := []) dm_X2_dropFunction_71 rfl rfl rfl ?_
          refine pg_cast (h2 := ((h).set a3 (cJ 40 (sh jf i (k + 1)))).set a4 (cA 5 40 (sh of i (k + 1)))) (by rw [set4 (by omega)]; exact shset (by omega) hq1) ?_
          exact pg_sub (L := [(0, .ref o), (1, .long key), (3, ii (i : Int)), (4, ii ((k + 1) : Int))]) rfl rfl rfl (ih25 (m - (k + 1)) (by omega) (k + 1) rfl (by omega) (by omega))
    refine pg_cast (h2 := ((h).set a3 (cJ 40 (sh jf i i))).set a4 (cA 5 40 (sh of i i))) (by rw [sh_0, sh_0]; exact set22 h3 h4) ?_
    exact pg_sub (L := [(0, .ref o), (1, .long key), (3, ii (i : Int)), (4, ii (i : Int))]) rfl rfl rfl (lp25 _ i rfl (Nat.le_refl _) (by omega))
  · refine y_ret (r := none) dm_X2_dropFunction_21 rfl rfl rfl ?_
    exfalso; omega
theorem n_dropFunctionN {xt : mj_X} {d o a1 a2 a3 a4 n m : Nat} {h : mj_H} {kf jf : Nat → Int64} {vf of : Nat → Option Nat} {key : Int64} (hd : 2 ≤ d) (hS : NS h o a1 a2 a3 a4 n kf vf m jf of) (hD : NDis o a1 a2 a3 a4) (ho2 : 2 ≤ o ∧ 2 ≤ a1 ∧ 2 ≤ a2 ∧ 2 ≤ a3 ∧ 2 ≤ a4) (hn : n ≤ 40) (hm : m ≤ 40) (hf : fndK jf m key = m) : pgN xt d 180 [.ref o, .long key] h (fun h' => h' = h) := by
  obtain ⟨ho, h1, h2, h3, h4⟩ := id hS
  obtain ⟨d1, d2, d3, d4, d5, d6, d7, d8, d9, d10⟩ := id hD
  refine x_enter pm_X2_dropFunction (L0 := [(0, .ref o), (1, .long key)]) rfl (Nat.le_of_ble_eq_true rfl) (by omega) ?_
  refine me1 (pc' := 1) (L' := [(0, .ref o), (1, .long key)]) (S' := [.ref o]) dm_X2_dropFunction_0 rfl rfl rfl rfl ?_
  refine me3 (pc' := 4) (S' := [.ref a3]) dm_X2_dropFunction_1 (g_get (v := .ref a3) ho rfl rfl (by omega)) rfl rfl rfl ?_
  refine me1 (pc' := 5) (L' := [(0, .ref o), (1, .long key)]) (S' := [.ref o, .ref a3]) dm_X2_dropFunction_4 rfl rfl rfl rfl ?_
  refine me3 (pc' := 8) (S' := [ii (m : Int), .ref a3]) dm_X2_dropFunction_5 (g_get (v := ii (m : Int)) ho rfl rfl (by omega)) rfl rfl rfl ?_
  refine me1 (pc' := 9) (L' := [(0, .ref o), (1, .long key)]) (S' := [.long key, ii (m : Int), .ref a3]) dm_X2_dropFunction_8 rfl rfl rfl rfl ?_
  have hfl0 := fstN_le (fun k => decide (jf k = key)) m
  refine x_cp (pc' := 12) (v := ii ((fndK jf m key : Nat) : Int)) (rest := []) dm_X2_dropFunction_9 rfl (g_invs (As := [.ref a3, ii (m : Int), .long key]) (S := []) rfl rfl rfl) rfl rfl rfl (n_find (n := m) (by omega) h3 (by omega) (by omega)) ?_
  refine me1 (pc' := 13) (L' := [(3, ii ((fndK jf m key : Nat) : Int)), (0, .ref o), (1, .long key)]) (S' := []) dm_X2_dropFunction_12 rfl rfl rfl rfl ?_
  refine me1 (pc' := 14) (L' := [(3, ii ((fndK jf m key : Nat) : Int)), (0, .ref o), (1, .long key)]) (S' := [ii ((fndK jf m key : Nat) : Int)]) dm_X2_dropFunction_13 rfl rfl rfl rfl ?_
  refine me1 (pc' := 15) (L' := [(3, ii ((fndK jf m key : Nat) : Int)), (0, .ref o), (1, .long key)]) (S' := [.ref o, ii ((fndK jf m key : Nat) : Int)]) dm_X2_dropFunction_14 rfl rfl rfl rfl ?_
  refine me3 (pc' := 18) (S' := [ii (m : Int), ii ((fndK jf m key : Nat) : Int)]) dm_X2_dropFunction_15 (g_get (v := ii (m : Int)) ho rfl rfl (by omega)) rfl rfl rfl ?_
  refine y_2ne (a := ((fndK jf m key : Nat) : Int)) (b := (m : Int)) (t := 22) (pc' := 21) dm_X2_dropFunction_18 rfl rfl (by omega) (fun hb1 => ?_) (fun hb1 => ?_)
  · exfalso; omega
  · refine y_ret (r := none) dm_X2_dropFunction_21 rfl rfl rfl ?_
    exact ⟨rfl, rfl⟩
