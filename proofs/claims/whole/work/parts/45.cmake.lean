/-! numbers that fit an int, all of a row's, the form of a number row -/
def fitsB (x : Int64) : Bool := decide (-2147483648 ≤ x.toInt ∧ x.toInt ≤ 2147483647)
def allF (m : Nat) (f : Nat → Int64) : Bool := match m with
  | 0 => true
  | m + 1 => allF m f && fitsB (f m)
def vform (m : Nat) (f : Nat → Int64) : Nat := if allF m f = true then 4 else 5
theorem fitsB_iff {x : Int64} : fitsB x = true ↔ fits x := by unfold fitsB fits; rw [decide_eq_true_iff]
theorem allF_iff {m : Nat} {f : Nat → Int64} : allF m f = true ↔ ∀ k, k < m → fits (f k) := by
  induction m with
  | zero => exact ⟨fun _ k hk => absurd hk (Nat.not_lt_zero k), fun _ => rfl⟩
  | succ m ih =>
    show (allF m f && fitsB (f m)) = true ↔ _
    rw [Bool.and_eq_true, ih, fitsB_iff]
    constructor
    · intro h k hk
      by_cases z : k = m
      · subst z; exact h.2
      · exact h.1 k (by omega)
    · intro h
      exact ⟨fun k hk => h k (by omega), h m (by omega)⟩
theorem vform_le {m : Nat} {f : Nat → Int64} : 4 ≤ vform m f ∧ vform m f ≤ 5 := by unfold vform; split <;> omega
theorem vform_4 {m : Nat} {f : Nat → Int64} (h : ∀ k, k < m → fits (f k)) : vform m f = 4 := by unfold vform; rw [if_pos (allF_iff.mpr h)]
theorem vform_5 {m k : Nat} {f : Nat → Int64} (hk : k < m) (h : ¬ fits (f k)) : vform m f = 5 := by unfold vform; rw [if_neg (fun z => h (allF_iff.mp z k hk))]
theorem allF_congr {m : Nat} {f g : Nat → Int64} (h : ∀ k, k < m → f k = g k) : allF m f = allF m g := by
  induction m with
  | zero => rfl
  | succ m ih =>
    show (allF m f && fitsB (f m)) = (allF m g && fitsB (g m))
    rw [ih (fun k hk => h k (by omega)), h m (by omega)]
theorem vform_congr {m : Nat} {f g : Nat → Int64} (h : ∀ k, k < m → f k = g k) : vform m f = vform m g := by unfold vform; rw [allF_congr h]
set_option maxRecDepth 20000 in
theorem pm_X10_formOf : mj_mmof pg_ms 48 = some ((⟨"ArrayCalculator$Value", "formOf", "([JII)I"⟩, prog_12_method_9_code, 4, (Option.some Jvm.ClassFile.FieldType.int)), 10, false, mj_dec prog_12_method_9_code) := rfl
theorem dm_X10_formOf_0 : mj_dec prog_12_method_9_code 0 = some (.iload_n 1, 1) := by decide +kernel
theorem dm_X10_formOf_1 : mj_dec prog_12_method_9_code 1 = some (.istore_n 3, 1) := by decide +kernel
theorem dm_X10_formOf_2 : mj_dec prog_12_method_9_code 2 = some (.iload_n 3, 1) := by decide +kernel
theorem dm_X10_formOf_3 : mj_dec prog_12_method_9_code 3 = some (.iload_n 1, 1) := by decide +kernel
theorem dm_X10_formOf_4 : mj_dec prog_12_method_9_code 4 = some (.iload_n 2, 1) := by decide +kernel
theorem dm_X10_formOf_5 : mj_dec prog_12_method_9_code 5 = some (.iadd, 1) := by decide +kernel
theorem dm_X10_formOf_6 : mj_dec prog_12_method_9_code 6 = some (.if_icmp .ge 37, 3) := by decide +kernel
theorem dm_X10_formOf_9 : mj_dec prog_12_method_9_code 9 = some (.iload_n 3, 1) := by decide +kernel
theorem dm_X10_formOf_10 : mj_dec prog_12_method_9_code 10 = some (.aload_n 0, 1) := by decide +kernel
theorem dm_X10_formOf_11 : mj_dec prog_12_method_9_code 11 = some (.arraylength, 1) := by decide +kernel
theorem dm_X10_formOf_12 : mj_dec prog_12_method_9_code 12 = some (.if_icmp .ge 31, 3) := by decide +kernel
theorem dm_X10_formOf_15 : mj_dec prog_12_method_9_code 15 = some (.aload_n 0, 1) := by decide +kernel
theorem dm_X10_formOf_16 : mj_dec prog_12_method_9_code 16 = some (.iload_n 3, 1) := by decide +kernel
theorem dm_X10_formOf_17 : mj_dec prog_12_method_9_code 17 = some (.laload, 1) := by decide +kernel
theorem dm_X10_formOf_18 : mj_dec prog_12_method_9_code 18 = some (.ldc2_w 54, 3) := by decide +kernel
theorem dm_X10_formOf_21 : mj_dec prog_12_method_9_code 21 = some (.lcmp, 1) := by decide +kernel
theorem dm_X10_formOf_22 : mj_dec prog_12_method_9_code 22 = some (.ifCond .lt 13, 3) := by decide +kernel
theorem dm_X10_formOf_25 : mj_dec prog_12_method_9_code 25 = some (.aload_n 0, 1) := by decide +kernel
theorem dm_X10_formOf_26 : mj_dec prog_12_method_9_code 26 = some (.iload_n 3, 1) := by decide +kernel
theorem dm_X10_formOf_27 : mj_dec prog_12_method_9_code 27 = some (.laload, 1) := by decide +kernel
theorem dm_X10_formOf_28 : mj_dec prog_12_method_9_code 28 = some (.ldc2_w 56, 3) := by decide +kernel
theorem dm_X10_formOf_31 : mj_dec prog_12_method_9_code 31 = some (.lcmp, 1) := by decide +kernel
theorem dm_X10_formOf_32 : mj_dec prog_12_method_9_code 32 = some (.ifCond .le 5, 3) := by decide +kernel
theorem dm_X10_formOf_35 : mj_dec prog_12_method_9_code 35 = some (.iconst 5, 1) := by decide +kernel
theorem dm_X10_formOf_36 : mj_dec prog_12_method_9_code 36 = some (.ireturn, 1) := by decide +kernel
theorem dm_X10_formOf_37 : mj_dec prog_12_method_9_code 37 = some (.iinc 3 1, 3) := by decide +kernel
theorem dm_X10_formOf_40 : mj_dec prog_12_method_9_code 40 = some (.goto (-38), 3) := by decide +kernel
theorem dm_X10_formOf_43 : mj_dec prog_12_method_9_code 43 = some (.iconst 4, 1) := by decide +kernel
theorem dm_X10_formOf_44 : mj_dec prog_12_method_9_code 44 = some (.ireturn, 1) := by decide +kernel
theorem c_formOf {xt : mj_X} {d row fr m n : Nat} {A : Nat → Prop} {h : mj_H} {f : Nat → Int64} {f1 : Nat → Value} (hx1 : xt 1 = some (.long, 0, f1)) (hd : 1 ≤ d) (hrow : rowAt A h row n f) (hfr : fr ≤ 1000) (hmm : m ≤ 1000) (hn : n ≤ 1000) (hb : 0 < m → fr + m ≤ n) : pgP xt d 48 [.ref row, ii (fr : Int), ii (m : Int)] h (ii (vform m (fun j => f (fr + j)) : Int)) := by
  have hmin : (Int64.ofInt (-2147483648)).toInt = -2147483648 := by decide
  have hmax : (Int64.ofInt 2147483647).toInt = 2147483647 := by decide
  refine x_enter pm_X10_formOf (L0 := [(0, .ref row), (1, ii (fr : Int)), (2, ii (m : Int))]) rfl (Nat.le_of_ble_eq_true rfl) (by omega) ?_
  refine me1 (pc' := 1) (L' := [(0, .ref row), (1, ii (fr : Int)), (2, ii (m : Int))]) (S' := [ii (fr : Int)]) dm_X10_formOf_0 rfl rfl rfl rfl ?_
  refine me1 (pc' := 2) (L' := [(3, ii (fr : Int)), (0, .ref row), (1, ii (fr : Int)), (2, ii (m : Int))]) (S' := []) dm_X10_formOf_1 rfl rfl rfl rfl ?_
  have lp2 : ∀ (n2 : Nat) (k : Nat), m - k = n2 → (k ≤ m) → (∀ j, j < k → fits (f (fr + j))) → pgE xt (d - 1) 10 4 false (Option.some Jvm.ClassFile.FieldType.int) (mj_dec prog_12_method_9_code) 2 [(0, .ref row), (1, ii (fr : Int)), (2, ii (m : Int)), (3, ii ((fr : Int) + (k : Int)))] [] h (fun r h' => r = some (ii (vform m (fun j => f (fr + j)) : Int)) ∧ h' = h) := by
    intro n2
    induction n2 using Nat.strongRecOn with
    | ind n2 ih2 =>
      intro k hm2 hk hall
      have hix : ((fr : Int) + (k : Int)).toNat = fr + k := by omega
      refine me1 (pc' := 3) (L' := [(0, .ref row), (1, ii (fr : Int)), (2, ii (m : Int)), (3, ii ((fr : Int) + (k : Int)))]) (S' := [ii ((fr : Int) + (k : Int))]) dm_X10_formOf_2 rfl rfl rfl rfl ?_
      refine me1 (pc' := 4) (L' := [(0, .ref row), (1, ii (fr : Int)), (2, ii (m : Int)), (3, ii ((fr : Int) + (k : Int)))]) (S' := [ii (fr : Int), ii ((fr : Int) + (k : Int))]) dm_X10_formOf_3 rfl rfl rfl rfl ?_
      refine me1 (pc' := 5) (L' := [(0, .ref row), (1, ii (fr : Int)), (2, ii (m : Int)), (3, ii ((fr : Int) + (k : Int)))]) (S' := [ii (m : Int), ii (fr : Int), ii ((fr : Int) + (k : Int))]) dm_X10_formOf_4 rfl rfl rfl rfl ?_
      refine y_iadd (a := (fr : Int)) (b := (m : Int)) dm_X10_formOf_5 (pc' := 6) rfl ?_
      refine y_2ge (a := (fr : Int) + (k : Int)) (b := (fr : Int) + (m : Int)) (t := 43) (pc' := 9) dm_X10_formOf_6 rfl rfl (by omega) (fun hb1 => ?_) (fun hb1 => ?_)
      · refine me0 (pc' := 44) (S' := [ii 4]) dm_X10_formOf_43 rfl rfl rfl rfl ?_
        refine y_ret (r := some (ii 4)) dm_X10_formOf_44 rfl rfl rfl ?_
        refine ⟨congrArg some (n_ii ?_), rfl⟩
        rw [vform_4 (f := fun j => f (fr + j)) (fun j hj => hall j (by omega))]
        rfl
      · refine me1 (pc' := 10) (L' := [(0, .ref row), (1, ii (fr : Int)), (2, ii (m : Int)), (3, ii ((fr : Int) + (k : Int)))]) (S' := [ii ((fr : Int) + (k : Int))]) dm_X10_formOf_9 rfl rfl rfl rfl ?_
        refine me1 (pc' := 11) (L' := [(0, .ref row), (1, ii (fr : Int)), (2, ii (m : Int)), (3, ii ((fr : Int) + (k : Int)))]) (S' := [.ref row, ii ((fr : Int) + (k : Int))]) dm_X10_formOf_10 rfl rfl rfl rfl ?_
        refine me3 (pc' := 12) (S' := [ii (n : Int), ii ((fr : Int) + (k : Int))]) dm_X10_formOf_11 (yh_rlen hx1 hrow) rfl rfl rfl ?_
        refine y_2ge (a := (fr : Int) + (k : Int)) (b := (n : Int)) (t := 43) (pc' := 15) dm_X10_formOf_12 rfl rfl (by omega) (fun hb2 => ?_) (fun hb2 => ?_)
        · refine me0 (pc' := 44) (S' := [ii 4]) dm_X10_formOf_43 rfl rfl rfl rfl ?_
          refine y_ret (r := some (ii 4)) dm_X10_formOf_44 rfl rfl rfl ?_
          refine ⟨congrArg some (n_ii ?_), rfl⟩
          rw [vform_4 (f := fun j => f (fr + j)) (fun j hj => hall j (by omega))]
          rfl
        · refine me1 (pc' := 16) (L' := [(0, .ref row), (1, ii (fr : Int)), (2, ii (m : Int)), (3, ii ((fr : Int) + (k : Int)))]) (S' := [.ref row]) dm_X10_formOf_15 rfl rfl rfl rfl ?_
          refine me1 (pc' := 17) (L' := [(0, .ref row), (1, ii (fr : Int)), (2, ii (m : Int)), (3, ii ((fr : Int) + (k : Int)))]) (S' := [ii ((fr : Int) + (k : Int)), .ref row]) dm_X10_formOf_16 rfl rfl rfl rfl ?_
          refine me3 (pc' := 18) (S' := [.long (f (((fr : Int) + (k : Int)).toNat))]) dm_X10_formOf_17 (yh_rald (w := f (((fr : Int) + (k : Int)).toNat)) hrow (by omega) (by omega) rfl) rfl rfl rfl ?_
          refine me3 (pc' := 21) (S' := [.long (Int64.ofInt (-2147483648)), .long (f (((fr : Int) + (k : Int)).toNat))]) dm_X10_formOf_18 rfl rfl rfl rfl ?_
          refine y_llt (x := f (((fr : Int) + (k : Int)).toNat)) (y := Int64.ofInt (-2147483648)) (t := 35) (pc1 := 22) (pc' := 25) dm_X10_formOf_21 rfl dm_X10_formOf_22 rfl rfl (fun hb3 => ?_) (fun hb3 => ?_)
          · refine me0 (pc' := 36) (S' := [ii 5]) dm_X10_formOf_35 rfl rfl rfl rfl ?_
            refine y_ret (r := some (ii 5)) dm_X10_formOf_36 rfl rfl rfl ?_
            refine ⟨congrArg some (n_ii ?_), rfl⟩
            rw [vform_5 (k := k) (f := fun j => f (fr + j)) (by omega) (fun z => by have z1 : fits (f (fr + k)) := z; rw [← hix] at z1; unfold fits at z1; rw [hmin, hmax] at *; omega)]
            rfl
          · refine me1 (pc' := 26) (L' := [(0, .ref row), (1, ii (fr : Int)), (2, ii (m : Int)), (3, ii ((fr : Int) + (k : Int)))]) (S' := [.ref row]) dm_X10_formOf_25 rfl rfl rfl rfl ?_
            refine me1 (pc' := 27) (L' := [(0, .ref row), (1, ii (fr : Int)), (2, ii (m : Int)), (3, ii ((fr : Int) + (k : Int)))]) (S' := [ii ((fr : Int) + (k : Int)), .ref row]) dm_X10_formOf_26 rfl rfl rfl rfl ?_
            refine me3 (pc' := 28) (S' := [.long (f (((fr : Int) + (k : Int)).toNat))]) dm_X10_formOf_27 (yh_rald (w := f (((fr : Int) + (k : Int)).toNat)) hrow (by omega) (by omega) rfl) rfl rfl rfl ?_
            refine me3 (pc' := 31) (S' := [.long (Int64.ofInt 2147483647), .long (f (((fr : Int) + (k : Int)).toNat))]) dm_X10_formOf_28 rfl rfl rfl rfl ?_
            refine y_lle (x := f (((fr : Int) + (k : Int)).toNat)) (y := Int64.ofInt 2147483647) (t := 37) (pc1 := 32) (pc' := 35) dm_X10_formOf_31 rfl dm_X10_formOf_32 rfl rfl (fun hb4 => ?_) (fun hb4 => ?_)
            · have hcur : fits (f (fr + k)) := by rw [← hix]; unfold fits; rw [hmin, hmax] at *; omega
              refine y_iinc (pc' := 40) (L' := [(3, ii ((fr : Int) + (k : Int) + 1)), (0, .ref row), (1, ii (fr : Int)), (2, ii (m : Int))]) dm_X10_formOf_37 (y_incp (a := ((fr : Int) + (k : Int))) (c := 1) rfl rfl (by decide)) rfl ?_
              refine me2 (pc' := 2) (S' := []) dm_X10_formOf_40 rfl rfl rfl ?_
              exact pg_sub (L := [(0, .ref row), (1, ii (fr : Int)), (2, ii (m : Int)), (3, ii ((fr : Int) + ((k + 1) : Int)))]) rfl rfl rfl (ih2 (m - (k + 1)) (by omega) (k + 1) rfl (by omega) (fun j hj => by by_cases z : j = k; (subst z; exact hcur); exact hall j (by omega)))
            · refine me0 (pc' := 36) (S' := [ii 5]) dm_X10_formOf_35 rfl rfl rfl rfl ?_
              refine y_ret (r := some (ii 5)) dm_X10_formOf_36 rfl rfl rfl ?_
              refine ⟨congrArg some (n_ii ?_), rfl⟩
              rw [vform_5 (k := k) (f := fun j => f (fr + j)) (by omega) (fun z => by have z1 : fits (f (fr + k)) := z; rw [← hix] at z1; unfold fits at z1; rw [hmin, hmax] at *; omega)]
              rfl
  exact pg_sub (L := [(0, .ref row), (1, ii (fr : Int)), (2, ii (m : Int)), (3, ii ((fr : Int) + (0 : Int)))]) rfl rfl rfl (lp2 _ 0 rfl (by omega) (fun j hj => absurd hj (Nat.not_lt_zero j)))
theorem c_formOf0 {xt : mj_X} {d row m n : Nat} {A : Nat → Prop} {h : mj_H} {f : Nat → Int64} {f1 : Nat → Value} (hx1 : xt 1 = some (.long, 0, f1)) (hd : 1 ≤ d) (hrow : rowAt A h row n f) (hmm : m ≤ 1000) (hn : n ≤ 1000) (hb : 0 < m → m ≤ n) : pgP xt d 48 [.ref row, ii 0, ii (m : Int)] h (ii (vform m f : Int)) := by
  have := c_formOf (fr := 0) (m := m) hx1 hd hrow (by omega) hmm hn (by omega)
  rw [vform_congr (g := f) (fun k _ => by rw [Nat.zero_add])] at this
  exact this
theorem sl_app (h X : mj_H) : mj_sl (h ++ X) = mj_sl h + mj_sl X := by unfold mj_sl; rw [List.map_append, List.sum_append]
theorem newA_in {A : Nat → Prop} {h X : mj_H} {a : Nat} (h1 : h.length ≤ a) (h2 : a < h.length + X.length) : newA A h (h ++ X) a := Or.inr ⟨h1, by rw [List.length_append]; exact h2⟩
theorem cv_new {A : Nat → Prop} {h X : mj_H} {d p : Nat} {v : VV} (hv : cv A h d p v) : cv (newA A h (h ++ X)) (h ++ X) d p v := cv_keep (fun _ _ ha hg => ⟨Or.inl ha, hl_app hg⟩) hv
theorem rw_new {A : Nat → Prop} {h X : mj_H} {row n : Nat} {f : Nat → Int64} (hr : rowAt A h row n f) : rowAt (newA A h (h ++ X)) (h ++ X) row n f := rw_mono (fun _ ha => Or.inl ha) (rw_app hr)
theorem vres_same {A : Nat → Prop} {h : mj_H} {e p a b : Nat} {v : VV} (hv : cv A h e p v) : vres A h e v a b (.ref p) h := ⟨p, [], rfl, (List.append_nil h).symm, Nat.zero_le _, Nat.zero_le _, cv_mono (fun _ ha => Or.inl ha) hv⟩
theorem vres_one {A : Nat → Prop} {h : mj_H} {e k a b : Nat} {x : Int64} (hl : 127 ≤ h.length) (hk : k ≤ 1) (ha : 1 ≤ a) (hb : 9 ≤ b) : vres A h (e + 1) (v1 k x) a b (.ref h.length) (h ++ [cVal (k : Int) x 1 0 1 0]) :=
  ⟨h.length, _, rfl, rfl, ha, hb, cv_one hl_new hk (by omega) (newA_in (Nat.le_refl _) (by simp))⟩
/-- a view of numbers that were there -/
theorem vres_view {A : Nat → Prop} {h : mj_H} {e row fr n a b : Nat} {f : Nat → Int64} {w : VV} (hl : 127 ≤ h.length) (hw : vw1 w) (hk : 2 ≤ vk w) (hk6 : vk w ≤ 6) (hr : rowAt A h row n f) (hfr : fr ≤ 1000) (hb : 0 < vq w → fr + vq w ≤ n) (hf : ∀ k, k < vq w → f (fr + k) = vn w k) (ha : 1 ≤ a) (hb9 : 9 ≤ b) : vres A h (e + 1) w a b (.ref h.length) (h ++ [cVal (vk w : Int) 0 row (fr : Int) (vm w : Int) (vc w : Int)]) :=
  ⟨h.length, _, rfl, rfl, ha, hb9, cv_flat hl_new hw hk hk6 (by omega) (newA_in (Nat.le_refl _) (by simp)) (rw_new hr) hfr hb hf⟩
/-- a new array, and a value of it -/
theorem vres_flat {A : Nat → Prop} {h : mj_H} {e n a b : Nat} {f : Nat → Int64} {w : VV} (hl : 127 ≤ h.length) (hw : vw1 w) (hk : 2 ≤ vk w) (hk6 : vk w ≤ 6) (hq : vq w = n) (hf : ∀ k, k < n → f k = vn w k) (ha : 2 ≤ a) (hb9 : n + 9 ≤ b) : vres A h (e + 1) w a b (.ref (h.length + 1)) ((h ++ [cJ n f]) ++ [cVal (vk w : Int) 0 h.length 0 (vm w : Int) (vc w : Int)]) := by
  have hq2 := vq_le hw
  refine ⟨h.length + 1, [cJ n f, cVal (vk w : Int) 0 h.length 0 (vm w : Int) (vc w : Int)], rfl, by rw [List.append_assoc]; rfl, ha, ?_, ?_⟩
  · show n + (9 + 0) ≤ b; omega
  · rw [show (h ++ [cJ n f]) ++ [cVal (vk w : Int) 0 h.length 0 (vm w : Int) (vc w : Int)] = h ++ [cJ n f, cVal (vk w : Int) 0 h.length 0 (vm w : Int) (vc w : Int)] by rw [List.append_assoc]; rfl]
    refine cv_flat (fr := 0) (row := h.length) (n := n) (f := f) ?_ hw hk hk6 (by omega) (newA_in (by omega) (by simp)) (Or.inr ⟨by omega, hl_new, by omega, newA_in (Nat.le_refl _) (by simp)⟩) (by omega) (fun _ => by omega) (fun k hk => by rw [Nat.zero_add]; exact hf k (by omega))
    rw [List.getElem?_append_right (by omega), Nat.add_sub_cancel_left]; rfl
theorem vk_row (k n : Nat) (f : Nat → Int64) : vk (vrow k n f) = k := rfl
theorem vq_row {k n : Nat} {f : Nat → Int64} (h : k ≤ 5) : vq (vrow k n f) = n := by
  unfold vq
  rw [if_neg (by show ¬ k = 6; omega), if_neg (by show ¬ k = 7; omega)]; rfl
theorem vq_tab {r c : Nat} {f : Nat → Int64} : vq (vtab r c f) = r * c := rfl
theorem vit_1 {v : VV} {i : Nat} (h : vk v ≤ 1) : vit v i = v := by unfold vit; rw [if_pos h]
theorem vit_7 {v : VV} {i : Nat} (h : vk v = 7) : vit v i = vd v i := by unfold vit; rw [if_neg (by omega), if_pos h]
theorem vit_6 {v : VV} {i : Nat} (h : vk v = 6) : vit v i = vrow 4 (vc v) (fun k => vn v (i * vc v + k)) := by unfold vit; rw [if_neg (by omega), if_neg (by omega), if_pos h]
theorem vit_r {v : VV} {i : Nat} (h : 2 ≤ vk v) (h5 : vk v ≤ 5) : vit v i = v1 (if vk v = 3 then 1 else 0) (vn v i) := by unfold vit; rw [if_neg (by omega), if_neg (by omega), if_neg (by omega)]
set_option maxRecDepth 20000 in
theorem pm_X10_number : mj_mmof pg_ms 9 = some ((⟨"ArrayCalculator$Value", "number", "(J)LArrayCalculator$Value;"⟩, prog_12_method_3_code, 2, (Option.some (Jvm.ClassFile.FieldType.object "ArrayCalculator$Value"))), 10, false, mj_dec prog_12_method_3_code) := rfl
theorem dm_X10_number_0 : mj_dec prog_12_method_3_code 0 = some (.new 10, 3) := by decide +kernel
theorem dm_X10_number_3 : mj_dec prog_12_method_3_code 3 = some (.dup, 1) := by decide +kernel
theorem dm_X10_number_4 : mj_dec prog_12_method_3_code 4 = some (.iconst 0, 1) := by decide +kernel
theorem dm_X10_number_5 : mj_dec prog_12_method_3_code 5 = some (.lload_n 0, 1) := by decide +kernel
theorem dm_X10_number_6 : mj_dec prog_12_method_3_code 6 = some (.getstatic 42, 3) := by decide +kernel
theorem dm_X10_number_9 : mj_dec prog_12_method_3_code 9 = some (.iconst 0, 1) := by decide +kernel
theorem dm_X10_number_10 : mj_dec prog_12_method_3_code 10 = some (.iconst 1, 1) := by decide +kernel
theorem dm_X10_number_11 : mj_dec prog_12_method_3_code 11 = some (.iconst 0, 1) := by decide +kernel
theorem dm_X10_number_12 : mj_dec prog_12_method_3_code 12 = some (.invokespecial 45, 3) := by decide +kernel
theorem dm_X10_number_15 : mj_dec prog_12_method_3_code 15 = some (.areturn, 1) := by decide +kernel
theorem c_number {xt : mj_X} {d q : Nat} {h : mj_H} {x : Int64} (hd : 3 ≤ d) (hl : 2 ≤ h.length) (hq : h.length = q)  : pgV xt d 9 [.long x] h (fun v h' => v = .ref q ∧ h' = h ++ [cO 10 [ii 0, .long x, .ref 1, .null, ii 0, ii 1, ii 0, ii (csz 0 1 0), ii (clv 0)]]) := by
  subst hq
  refine x_enter pm_X10_number (L0 := [(0, .long x)]) rfl (Nat.le_of_ble_eq_true rfl) (by omega) ?_
  refine me3 (pc' := 3) (S' := [.ref h.length]) (h1 := h ++ [cO 10 [ii 0, .long (Int64.ofInt 0), .null, .null, ii 0, ii 0, ii 0, ii 0, ii 0]]) dm_X10_number_0 (g_nw rfl rfl rfl) rfl rfl rfl ?_
  refine me0 (pc' := 4) (S' := [.ref h.length, .ref h.length]) dm_X10_number_3 rfl rfl rfl rfl ?_
  refine me0 (pc' := 5) (S' := [ii 0, .ref h.length, .ref h.length]) dm_X10_number_4 rfl rfl rfl rfl ?_
  refine me1 (pc' := 6) (L' := [(0, .long x)]) (S' := [.long x, ii 0, .ref h.length, .ref h.length]) dm_X10_number_5 rfl rfl rfl rfl ?_
  refine me3 (pc' := 9) (S' := [.ref 1, .long x, ii 0, .ref h.length, .ref h.length]) dm_X10_number_6 rfl rfl rfl rfl ?_
  refine me0 (pc' := 10) (S' := [ii 0, .ref 1, .long x, ii 0, .ref h.length, .ref h.length]) dm_X10_number_9 rfl rfl rfl rfl ?_
  refine me0 (pc' := 11) (S' := [ii 1, ii 0, .ref 1, .long x, ii 0, .ref h.length, .ref h.length]) dm_X10_number_10 rfl rfl rfl rfl ?_
  refine me0 (pc' := 12) (S' := [ii 0, ii 1, ii 0, .ref 1, .long x, ii 0, .ref h.length, .ref h.length]) dm_X10_number_11 rfl rfl rfl rfl ?_
  refine x_cn (pc' := 15) (rest := [.ref h.length]) dm_X10_number_12 rfl (g_invp (As := [ii 0, .long x, .ref 1, ii 0, ii 1, ii 0]) (S := [.ref h.length]) rfl rfl rfl) rfl rfl rfl (c_newV (by omega) hl_new (by omega) (by omega) (by omega) (by omega) (by omega) (hl_setl)) ?_
  rintro _ rfl
  refine y_ret (r := some (.ref h.length)) dm_X10_number_15 rfl rfl rfl ?_
  exact ⟨_, rfl, rfl, rfl⟩
set_option maxRecDepth 20000 in
theorem pm_X10_sign : mj_mmof pg_ms 50 = some ((⟨"ArrayCalculator$Value", "sign", "(J)LArrayCalculator$Value;"⟩, prog_12_method_4_code, 2, (Option.some (Jvm.ClassFile.FieldType.object "ArrayCalculator$Value"))), 10, false, mj_dec prog_12_method_4_code) := rfl
theorem dm_X10_sign_0 : mj_dec prog_12_method_4_code 0 = some (.new 10, 3) := by decide +kernel
theorem dm_X10_sign_3 : mj_dec prog_12_method_4_code 3 = some (.dup, 1) := by decide +kernel
theorem dm_X10_sign_4 : mj_dec prog_12_method_4_code 4 = some (.iconst 1, 1) := by decide +kernel
theorem dm_X10_sign_5 : mj_dec prog_12_method_4_code 5 = some (.lload_n 0, 1) := by decide +kernel
theorem dm_X10_sign_6 : mj_dec prog_12_method_4_code 6 = some (.getstatic 42, 3) := by decide +kernel
theorem dm_X10_sign_9 : mj_dec prog_12_method_4_code 9 = some (.iconst 0, 1) := by decide +kernel
theorem dm_X10_sign_10 : mj_dec prog_12_method_4_code 10 = some (.iconst 1, 1) := by decide +kernel
theorem dm_X10_sign_11 : mj_dec prog_12_method_4_code 11 = some (.iconst 0, 1) := by decide +kernel
theorem dm_X10_sign_12 : mj_dec prog_12_method_4_code 12 = some (.invokespecial 45, 3) := by decide +kernel
theorem dm_X10_sign_15 : mj_dec prog_12_method_4_code 15 = some (.areturn, 1) := by decide +kernel
theorem c_sign {xt : mj_X} {d q : Nat} {h : mj_H} {x : Int64} (hd : 3 ≤ d) (hl : 2 ≤ h.length) (hq : h.length = q)  : pgV xt d 50 [.long x] h (fun v h' => v = .ref q ∧ h' = h ++ [cO 10 [ii 1, .long x, .ref 1, .null, ii 0, ii 1, ii 0, ii (csz 1 1 0), ii (clv 1)]]) := by
  subst hq
  refine x_enter pm_X10_sign (L0 := [(0, .long x)]) rfl (Nat.le_of_ble_eq_true rfl) (by omega) ?_
  refine me3 (pc' := 3) (S' := [.ref h.length]) (h1 := h ++ [cO 10 [ii 0, .long (Int64.ofInt 0), .null, .null, ii 0, ii 0, ii 0, ii 0, ii 0]]) dm_X10_sign_0 (g_nw rfl rfl rfl) rfl rfl rfl ?_
  refine me0 (pc' := 4) (S' := [.ref h.length, .ref h.length]) dm_X10_sign_3 rfl rfl rfl rfl ?_
  refine me0 (pc' := 5) (S' := [ii 1, .ref h.length, .ref h.length]) dm_X10_sign_4 rfl rfl rfl rfl ?_
  refine me1 (pc' := 6) (L' := [(0, .long x)]) (S' := [.long x, ii 1, .ref h.length, .ref h.length]) dm_X10_sign_5 rfl rfl rfl rfl ?_
  refine me3 (pc' := 9) (S' := [.ref 1, .long x, ii 1, .ref h.length, .ref h.length]) dm_X10_sign_6 rfl rfl rfl rfl ?_
  refine me0 (pc' := 10) (S' := [ii 0, .ref 1, .long x, ii 1, .ref h.length, .ref h.length]) dm_X10_sign_9 rfl rfl rfl rfl ?_
  refine me0 (pc' := 11) (S' := [ii 1, ii 0, .ref 1, .long x, ii 1, .ref h.length, .ref h.length]) dm_X10_sign_10 rfl rfl rfl rfl ?_
  refine me0 (pc' := 12) (S' := [ii 0, ii 1, ii 0, .ref 1, .long x, ii 1, .ref h.length, .ref h.length]) dm_X10_sign_11 rfl rfl rfl rfl ?_
  refine x_cn (pc' := 15) (rest := [.ref h.length]) dm_X10_sign_12 rfl (g_invp (As := [ii 1, .long x, .ref 1, ii 0, ii 1, ii 0]) (S := [.ref h.length]) rfl rfl rfl) rfl rfl rfl (c_newV (by omega) hl_new (by omega) (by omega) (by omega) (by omega) (by omega) (hl_setl)) ?_
  rintro _ rfl
  refine y_ret (r := some (.ref h.length)) dm_X10_sign_15 rfl rfl rfl ?_
  exact ⟨_, rfl, rfl, rfl⟩
set_option maxRecDepth 20000 in
theorem pm_X10_fault : mj_mmof pg_ms 103 = some ((⟨"ArrayCalculator$Value", "fault", "(I)LArrayCalculator$Value;"⟩, prog_12_method_14_code, 1, (Option.some (Jvm.ClassFile.FieldType.object "ArrayCalculator$Value"))), 10, false, mj_dec prog_12_method_14_code) := rfl
theorem dm_X10_fault_0 : mj_dec prog_12_method_14_code 0 = some (.new 10, 3) := by decide +kernel
theorem dm_X10_fault_3 : mj_dec prog_12_method_14_code 3 = some (.dup, 1) := by decide +kernel
theorem dm_X10_fault_4 : mj_dec prog_12_method_14_code 4 = some (.bipush 8, 2) := by decide +kernel
theorem dm_X10_fault_6 : mj_dec prog_12_method_14_code 6 = some (.iload_n 0, 1) := by decide +kernel
theorem dm_X10_fault_7 : mj_dec prog_12_method_14_code 7 = some (.i2l, 1) := by decide +kernel
theorem dm_X10_fault_8 : mj_dec prog_12_method_14_code 8 = some (.getstatic 42, 3) := by decide +kernel
theorem dm_X10_fault_11 : mj_dec prog_12_method_14_code 11 = some (.iconst 0, 1) := by decide +kernel
theorem dm_X10_fault_12 : mj_dec prog_12_method_14_code 12 = some (.iconst 0, 1) := by decide +kernel
theorem dm_X10_fault_13 : mj_dec prog_12_method_14_code 13 = some (.iconst 0, 1) := by decide +kernel
theorem dm_X10_fault_14 : mj_dec prog_12_method_14_code 14 = some (.invokespecial 45, 3) := by decide +kernel
theorem dm_X10_fault_17 : mj_dec prog_12_method_14_code 17 = some (.areturn, 1) := by decide +kernel
theorem c_fault {xt : mj_X} {d q : Nat} {h : mj_H} {x : Int} (hd : 3 ≤ d) (hl : 2 ≤ h.length) (hq : h.length = q) (hx : -2147483648 ≤ x ∧ x ≤ 2147483647) : pgV xt d 103 [ii x] h (fun v h' => v = .ref q ∧ h' = h ++ [cO 10 [ii 8, .long (Int64.ofInt x), .ref 1, .null, ii 0, ii 0, ii 0, ii (csz 8 0 0), ii (clv 8)]]) := by
  subst hq
  refine x_enter pm_X10_fault (L0 := [(0, ii x)]) rfl (Nat.le_of_ble_eq_true rfl) (by omega) ?_
  refine me3 (pc' := 3) (S' := [.ref h.length]) (h1 := h ++ [cO 10 [ii 0, .long (Int64.ofInt 0), .null, .null, ii 0, ii 0, ii 0, ii 0, ii 0]]) dm_X10_fault_0 (g_nw rfl rfl rfl) rfl rfl rfl ?_
  refine me0 (pc' := 4) (S' := [.ref h.length, .ref h.length]) dm_X10_fault_3 rfl rfl rfl rfl ?_
  refine me0 (pc' := 6) (S' := [ii 8, .ref h.length, .ref h.length]) dm_X10_fault_4 rfl rfl rfl rfl ?_
  refine me1 (pc' := 7) (L' := [(0, ii x)]) (S' := [ii x, ii 8, .ref h.length, .ref h.length]) dm_X10_fault_6 rfl rfl rfl rfl ?_
  refine y_i2l (a := x) dm_X10_fault_7 (pc' := 8) rfl (by omega) (by omega) ?_
  refine me3 (pc' := 11) (S' := [.ref 1, .long (Int64.ofInt x), ii 8, .ref h.length, .ref h.length]) dm_X10_fault_8 rfl rfl rfl rfl ?_
  refine me0 (pc' := 12) (S' := [ii 0, .ref 1, .long (Int64.ofInt x), ii 8, .ref h.length, .ref h.length]) dm_X10_fault_11 rfl rfl rfl rfl ?_
  refine me0 (pc' := 13) (S' := [ii 0, ii 0, .ref 1, .long (Int64.ofInt x), ii 8, .ref h.length, .ref h.length]) dm_X10_fault_12 rfl rfl rfl rfl ?_
  refine me0 (pc' := 14) (S' := [ii 0, ii 0, ii 0, .ref 1, .long (Int64.ofInt x), ii 8, .ref h.length, .ref h.length]) dm_X10_fault_13 rfl rfl rfl rfl ?_
  refine x_cn (pc' := 17) (rest := [.ref h.length]) dm_X10_fault_14 rfl (g_invp (As := [ii 8, .long (Int64.ofInt x), .ref 1, ii 0, ii 0, ii 0]) (S := [.ref h.length]) rfl rfl rfl) rfl rfl rfl (c_newV (by omega) hl_new (by omega) (by omega) (by omega) (by omega) (by omega) (hl_setl)) ?_
  rintro _ rfl
  refine y_ret (r := some (.ref h.length)) dm_X10_fault_17 rfl rfl rfl ?_
  exact ⟨_, rfl, rfl, rfl⟩
set_option maxRecDepth 20000 in
theorem pm_X10_row : mj_mmof pg_ms 51 = some ((⟨"ArrayCalculator$Value", "row", "(I[J)LArrayCalculator$Value;"⟩, prog_12_method_5_code, 2, (Option.some (Jvm.ClassFile.FieldType.object "ArrayCalculator$Value"))), 10, false, mj_dec prog_12_method_5_code) := rfl
theorem dm_X10_row_0 : mj_dec prog_12_method_5_code 0 = some (.new 10, 3) := by decide +kernel
theorem dm_X10_row_3 : mj_dec prog_12_method_5_code 3 = some (.dup, 1) := by decide +kernel
theorem dm_X10_row_4 : mj_dec prog_12_method_5_code 4 = some (.iload_n 0, 1) := by decide +kernel
theorem dm_X10_row_5 : mj_dec prog_12_method_5_code 5 = some (.lconst 0, 1) := by decide +kernel
theorem dm_X10_row_6 : mj_dec prog_12_method_5_code 6 = some (.aload_n 1, 1) := by decide +kernel
theorem dm_X10_row_7 : mj_dec prog_12_method_5_code 7 = some (.iconst 0, 1) := by decide +kernel
theorem dm_X10_row_8 : mj_dec prog_12_method_5_code 8 = some (.aload_n 1, 1) := by decide +kernel
theorem dm_X10_row_9 : mj_dec prog_12_method_5_code 9 = some (.arraylength, 1) := by decide +kernel
theorem dm_X10_row_10 : mj_dec prog_12_method_5_code 10 = some (.iconst 0, 1) := by decide +kernel
theorem dm_X10_row_11 : mj_dec prog_12_method_5_code 11 = some (.invokespecial 45, 3) := by decide +kernel
theorem dm_X10_row_14 : mj_dec prog_12_method_5_code 14 = some (.areturn, 1) := by decide +kernel
theorem c_row {xt : mj_X} {d q : Nat} {h : mj_H} {k : Int} {row n : Nat} {A : Nat → Prop} {f : Nat → Int64} {f1 : Nat → Value} (hx1 : xt 1 = some (.long, 0, f1)) (hd : 3 ≤ d) (hl : 2 ≤ h.length) (hq : h.length = q) (hk : -2147483648 ≤ k ∧ k ≤ 2147483647) (hrow : rowAt A h row n f) (hn : n ≤ 1000) : pgV xt d 51 [ii k, .ref row] h (fun v h' => v = .ref q ∧ h' = h ++ [cO 10 [ii k, .long 0, .ref row, .null, ii 0, ii (n : Int), ii 0, ii (csz k (n : Int) 0), ii (clv k)]]) := by
  subst hq
  refine x_enter pm_X10_row (L0 := [(0, ii k), (1, .ref row)]) rfl (Nat.le_of_ble_eq_true rfl) (by omega) ?_
  refine me3 (pc' := 3) (S' := [.ref h.length]) (h1 := h ++ [cO 10 [ii 0, .long (Int64.ofInt 0), .null, .null, ii 0, ii 0, ii 0, ii 0, ii 0]]) dm_X10_row_0 (g_nw rfl rfl rfl) rfl rfl rfl ?_
  refine me0 (pc' := 4) (S' := [.ref h.length, .ref h.length]) dm_X10_row_3 rfl rfl rfl rfl ?_
  refine me1 (pc' := 5) (L' := [(0, ii k), (1, .ref row)]) (S' := [ii k, .ref h.length, .ref h.length]) dm_X10_row_4 rfl rfl rfl rfl ?_
  refine me0 (pc' := 6) (S' := [.long (Int64.ofInt 0), ii k, .ref h.length, .ref h.length]) dm_X10_row_5 rfl rfl rfl rfl ?_
  refine me1 (pc' := 7) (L' := [(0, ii k), (1, .ref row)]) (S' := [.ref row, .long (Int64.ofInt 0), ii k, .ref h.length, .ref h.length]) dm_X10_row_6 rfl rfl rfl rfl ?_
  refine me0 (pc' := 8) (S' := [ii 0, .ref row, .long (Int64.ofInt 0), ii k, .ref h.length, .ref h.length]) dm_X10_row_7 rfl rfl rfl rfl ?_
  refine me1 (pc' := 9) (L' := [(0, ii k), (1, .ref row)]) (S' := [.ref row, ii 0, .ref row, .long (Int64.ofInt 0), ii k, .ref h.length, .ref h.length]) dm_X10_row_8 rfl rfl rfl rfl ?_
  refine me3 (pc' := 10) (S' := [ii (n : Int), ii 0, .ref row, .long (Int64.ofInt 0), ii k, .ref h.length, .ref h.length]) dm_X10_row_9 (yh_rlen hx1 (rw_app hrow)) rfl rfl rfl ?_
  refine me0 (pc' := 11) (S' := [ii 0, ii (n : Int), ii 0, .ref row, .long (Int64.ofInt 0), ii k, .ref h.length, .ref h.length]) dm_X10_row_10 rfl rfl rfl rfl ?_
  refine x_cn (pc' := 14) (rest := [.ref h.length]) dm_X10_row_11 rfl (g_invp (As := [ii k, .long (Int64.ofInt 0), .ref row, ii 0, ii (n : Int), ii 0]) (S := [.ref h.length]) rfl rfl rfl) rfl rfl rfl (c_newV (by omega) hl_new (by omega) (by omega) (by omega) (by omega) (by omega) (hl_setl)) ?_
  rintro _ rfl
  refine y_ret (r := some (.ref h.length)) dm_X10_row_14 rfl rfl rfl ?_
  exact ⟨_, rfl, rfl, rfl⟩
set_option maxRecDepth 20000 in
theorem pm_X10_rowAt : mj_mmof pg_ms 107 = some ((⟨"ArrayCalculator$Value", "rowAt", "(I[JII)LArrayCalculator$Value;"⟩, prog_12_method_6_code, 4, (Option.some (Jvm.ClassFile.FieldType.object "ArrayCalculator$Value"))), 10, false, mj_dec prog_12_method_6_code) := rfl
theorem dm_X10_rowAt_0 : mj_dec prog_12_method_6_code 0 = some (.new 10, 3) := by decide +kernel
theorem dm_X10_rowAt_3 : mj_dec prog_12_method_6_code 3 = some (.dup, 1) := by decide +kernel
theorem dm_X10_rowAt_4 : mj_dec prog_12_method_6_code 4 = some (.iload_n 0, 1) := by decide +kernel
theorem dm_X10_rowAt_5 : mj_dec prog_12_method_6_code 5 = some (.lconst 0, 1) := by decide +kernel
theorem dm_X10_rowAt_6 : mj_dec prog_12_method_6_code 6 = some (.aload_n 1, 1) := by decide +kernel
theorem dm_X10_rowAt_7 : mj_dec prog_12_method_6_code 7 = some (.iload_n 2, 1) := by decide +kernel
theorem dm_X10_rowAt_8 : mj_dec prog_12_method_6_code 8 = some (.iload_n 3, 1) := by decide +kernel
theorem dm_X10_rowAt_9 : mj_dec prog_12_method_6_code 9 = some (.iconst 0, 1) := by decide +kernel
theorem dm_X10_rowAt_10 : mj_dec prog_12_method_6_code 10 = some (.invokespecial 45, 3) := by decide +kernel
theorem dm_X10_rowAt_13 : mj_dec prog_12_method_6_code 13 = some (.areturn, 1) := by decide +kernel
theorem c_rowAt {xt : mj_X} {d q : Nat} {h : mj_H} {k fr m : Int} {row : Nat} (hd : 3 ≤ d) (hl : 2 ≤ h.length) (hq : h.length = q) (hk : -2147483648 ≤ k ∧ k ≤ 2147483647) (hf : -2147483648 ≤ fr ∧ fr ≤ 2147483647) (hm : -2147483648 ≤ m ∧ m ≤ 2147483647) : pgV xt d 107 [ii k, .ref row, ii fr, ii m] h (fun v h' => v = .ref q ∧ h' = h ++ [cO 10 [ii k, .long 0, .ref row, .null, ii fr, ii m, ii 0, ii (csz k m 0), ii (clv k)]]) := by
  subst hq
  refine x_enter pm_X10_rowAt (L0 := [(0, ii k), (1, .ref row), (2, ii fr), (3, ii m)]) rfl (Nat.le_of_ble_eq_true rfl) (by omega) ?_
  refine me3 (pc' := 3) (S' := [.ref h.length]) (h1 := h ++ [cO 10 [ii 0, .long (Int64.ofInt 0), .null, .null, ii 0, ii 0, ii 0, ii 0, ii 0]]) dm_X10_rowAt_0 (g_nw rfl rfl rfl) rfl rfl rfl ?_
  refine me0 (pc' := 4) (S' := [.ref h.length, .ref h.length]) dm_X10_rowAt_3 rfl rfl rfl rfl ?_
  refine me1 (pc' := 5) (L' := [(0, ii k), (1, .ref row), (2, ii fr), (3, ii m)]) (S' := [ii k, .ref h.length, .ref h.length]) dm_X10_rowAt_4 rfl rfl rfl rfl ?_
  refine me0 (pc' := 6) (S' := [.long (Int64.ofInt 0), ii k, .ref h.length, .ref h.length]) dm_X10_rowAt_5 rfl rfl rfl rfl ?_
  refine me1 (pc' := 7) (L' := [(0, ii k), (1, .ref row), (2, ii fr), (3, ii m)]) (S' := [.ref row, .long (Int64.ofInt 0), ii k, .ref h.length, .ref h.length]) dm_X10_rowAt_6 rfl rfl rfl rfl ?_
  refine me1 (pc' := 8) (L' := [(0, ii k), (1, .ref row), (2, ii fr), (3, ii m)]) (S' := [ii fr, .ref row, .long (Int64.ofInt 0), ii k, .ref h.length, .ref h.length]) dm_X10_rowAt_7 rfl rfl rfl rfl ?_
  refine me1 (pc' := 9) (L' := [(0, ii k), (1, .ref row), (2, ii fr), (3, ii m)]) (S' := [ii m, ii fr, .ref row, .long (Int64.ofInt 0), ii k, .ref h.length, .ref h.length]) dm_X10_rowAt_8 rfl rfl rfl rfl ?_
  refine me0 (pc' := 10) (S' := [ii 0, ii m, ii fr, .ref row, .long (Int64.ofInt 0), ii k, .ref h.length, .ref h.length]) dm_X10_rowAt_9 rfl rfl rfl rfl ?_
  refine x_cn (pc' := 13) (rest := [.ref h.length]) dm_X10_rowAt_10 rfl (g_invp (As := [ii k, .long (Int64.ofInt 0), .ref row, ii fr, ii m, ii 0]) (S := [.ref h.length]) rfl rfl rfl) rfl rfl rfl (c_newV (by omega) hl_new (by omega) (by omega) (by omega) (by omega) (by omega) (hl_setl)) ?_
  rintro _ rfl
  refine y_ret (r := some (.ref h.length)) dm_X10_rowAt_13 rfl rfl rfl ?_
  exact ⟨_, rfl, rfl, rfl⟩
set_option maxRecDepth 20000 in
theorem pm_X10_numberRow : mj_mmof pg_ms 47 = some ((⟨"ArrayCalculator$Value", "numberRow", "([J)LArrayCalculator$Value;"⟩, prog_12_method_7_code, 1, (Option.some (Jvm.ClassFile.FieldType.object "ArrayCalculator$Value"))), 10, false, mj_dec prog_12_method_7_code) := rfl
theorem dm_X10_numberRow_0 : mj_dec prog_12_method_7_code 0 = some (.new 10, 3) := by decide +kernel
theorem dm_X10_numberRow_3 : mj_dec prog_12_method_7_code 3 = some (.dup, 1) := by decide +kernel
theorem dm_X10_numberRow_4 : mj_dec prog_12_method_7_code 4 = some (.aload_n 0, 1) := by decide +kernel
theorem dm_X10_numberRow_5 : mj_dec prog_12_method_7_code 5 = some (.iconst 0, 1) := by decide +kernel
theorem dm_X10_numberRow_6 : mj_dec prog_12_method_7_code 6 = some (.aload_n 0, 1) := by decide +kernel
theorem dm_X10_numberRow_7 : mj_dec prog_12_method_7_code 7 = some (.arraylength, 1) := by decide +kernel
theorem dm_X10_numberRow_8 : mj_dec prog_12_method_7_code 8 = some (.invokestatic 48, 3) := by decide +kernel
theorem dm_X10_numberRow_11 : mj_dec prog_12_method_7_code 11 = some (.lconst 0, 1) := by decide +kernel
theorem dm_X10_numberRow_12 : mj_dec prog_12_method_7_code 12 = some (.aload_n 0, 1) := by decide +kernel
theorem dm_X10_numberRow_13 : mj_dec prog_12_method_7_code 13 = some (.iconst 0, 1) := by decide +kernel
theorem dm_X10_numberRow_14 : mj_dec prog_12_method_7_code 14 = some (.aload_n 0, 1) := by decide +kernel
theorem dm_X10_numberRow_15 : mj_dec prog_12_method_7_code 15 = some (.arraylength, 1) := by decide +kernel
theorem dm_X10_numberRow_16 : mj_dec prog_12_method_7_code 16 = some (.iconst 0, 1) := by decide +kernel
theorem dm_X10_numberRow_17 : mj_dec prog_12_method_7_code 17 = some (.invokespecial 45, 3) := by decide +kernel
theorem dm_X10_numberRow_20 : mj_dec prog_12_method_7_code 20 = some (.areturn, 1) := by decide +kernel
theorem c_numberRow {xt : mj_X} {d q : Nat} {h : mj_H} {row n : Nat} {A : Nat → Prop} {f : Nat → Int64} {f1 : Nat → Value} (hx1 : xt 1 = some (.long, 0, f1)) (hd : 3 ≤ d) (hl : 2 ≤ h.length) (hq : h.length = q) (hrow : rowAt A h row n f) (hn : n ≤ 1000) : pgV xt d 47 [.ref row] h (fun v h' => v = .ref q ∧ h' = h ++ [cO 10 [ii (vform n f : Int), .long 0, .ref row, .null, ii 0, ii (n : Int), ii 0, ii (csz (vform n f : Int) (n : Int) 0), ii (clv (vform n f : Int))]]) := by
  subst hq
  have hvf := vform_le (m := n) (f := f)
  refine x_enter pm_X10_numberRow (L0 := [(0, .ref row)]) rfl (Nat.le_of_ble_eq_true rfl) (by omega) ?_
  refine me3 (pc' := 3) (S' := [.ref h.length]) (h1 := h ++ [cO 10 [ii 0, .long (Int64.ofInt 0), .null, .null, ii 0, ii 0, ii 0, ii 0, ii 0]]) dm_X10_numberRow_0 (g_nw rfl rfl rfl) rfl rfl rfl ?_
  refine me0 (pc' := 4) (S' := [.ref h.length, .ref h.length]) dm_X10_numberRow_3 rfl rfl rfl rfl ?_
  refine me1 (pc' := 5) (L' := [(0, .ref row)]) (S' := [.ref row, .ref h.length, .ref h.length]) dm_X10_numberRow_4 rfl rfl rfl rfl ?_
  refine me0 (pc' := 6) (S' := [ii 0, .ref row, .ref h.length, .ref h.length]) dm_X10_numberRow_5 rfl rfl rfl rfl ?_
  refine me1 (pc' := 7) (L' := [(0, .ref row)]) (S' := [.ref row, ii 0, .ref row, .ref h.length, .ref h.length]) dm_X10_numberRow_6 rfl rfl rfl rfl ?_
  refine me3 (pc' := 8) (S' := [ii (n : Int), ii 0, .ref row, .ref h.length, .ref h.length]) dm_X10_numberRow_7 (yh_rlen hx1 (rw_app hrow)) rfl rfl rfl ?_
  refine x_cp (pc' := 11) (v := ii (vform n f : Int)) (rest := [.ref h.length, .ref h.length]) dm_X10_numberRow_8 rfl (g_invs (As := [.ref row, ii 0, ii (n : Int)]) (S := [.ref h.length, .ref h.length]) rfl rfl rfl) rfl rfl rfl (c_formOf0 (m := n) hx1 (by omega) (rw_app hrow) (by omega) (by omega) (by omega)) ?_
  refine me0 (pc' := 12) (S' := [.long (Int64.ofInt 0), ii (vform n f : Int), .ref h.length, .ref h.length]) dm_X10_numberRow_11 rfl rfl rfl rfl ?_
  refine me1 (pc' := 13) (L' := [(0, .ref row)]) (S' := [.ref row, .long (Int64.ofInt 0), ii (vform n f : Int), .ref h.length, .ref h.length]) dm_X10_numberRow_12 rfl rfl rfl rfl ?_
  refine me0 (pc' := 14) (S' := [ii 0, .ref row, .long (Int64.ofInt 0), ii (vform n f : Int), .ref h.length, .ref h.length]) dm_X10_numberRow_13 rfl rfl rfl rfl ?_
  refine me1 (pc' := 15) (L' := [(0, .ref row)]) (S' := [.ref row, ii 0, .ref row, .long (Int64.ofInt 0), ii (vform n f : Int), .ref h.length, .ref h.length]) dm_X10_numberRow_14 rfl rfl rfl rfl ?_
  refine me3 (pc' := 16) (S' := [ii (n : Int), ii 0, .ref row, .long (Int64.ofInt 0), ii (vform n f : Int), .ref h.length, .ref h.length]) dm_X10_numberRow_15 (yh_rlen hx1 (rw_app hrow)) rfl rfl rfl ?_
  refine me0 (pc' := 17) (S' := [ii 0, ii (n : Int), ii 0, .ref row, .long (Int64.ofInt 0), ii (vform n f : Int), .ref h.length, .ref h.length]) dm_X10_numberRow_16 rfl rfl rfl rfl ?_
  refine x_cn (pc' := 20) (rest := [.ref h.length]) dm_X10_numberRow_17 rfl (g_invp (As := [ii (vform n f : Int), .long (Int64.ofInt 0), .ref row, ii 0, ii (n : Int), ii 0]) (S := [.ref h.length]) rfl rfl rfl) rfl rfl rfl (c_newV (by omega) hl_new (by omega) (by omega) (by omega) (by omega) (by omega) (hl_setl)) ?_
  rintro _ rfl
  refine y_ret (r := some (.ref h.length)) dm_X10_numberRow_20 rfl rfl rfl ?_
  exact ⟨_, rfl, rfl, rfl⟩
set_option maxRecDepth 20000 in
theorem pm_X10_numberRowAt : mj_mmof pg_ms 108 = some ((⟨"ArrayCalculator$Value", "numberRowAt", "([JII)LArrayCalculator$Value;"⟩, prog_12_method_8_code, 3, (Option.some (Jvm.ClassFile.FieldType.object "ArrayCalculator$Value"))), 10, false, mj_dec prog_12_method_8_code) := rfl
theorem dm_X10_numberRowAt_0 : mj_dec prog_12_method_8_code 0 = some (.new 10, 3) := by decide +kernel
theorem dm_X10_numberRowAt_3 : mj_dec prog_12_method_8_code 3 = some (.dup, 1) := by decide +kernel
theorem dm_X10_numberRowAt_4 : mj_dec prog_12_method_8_code 4 = some (.aload_n 0, 1) := by decide +kernel
theorem dm_X10_numberRowAt_5 : mj_dec prog_12_method_8_code 5 = some (.iload_n 1, 1) := by decide +kernel
theorem dm_X10_numberRowAt_6 : mj_dec prog_12_method_8_code 6 = some (.iload_n 2, 1) := by decide +kernel
theorem dm_X10_numberRowAt_7 : mj_dec prog_12_method_8_code 7 = some (.invokestatic 48, 3) := by decide +kernel
theorem dm_X10_numberRowAt_10 : mj_dec prog_12_method_8_code 10 = some (.lconst 0, 1) := by decide +kernel
theorem dm_X10_numberRowAt_11 : mj_dec prog_12_method_8_code 11 = some (.aload_n 0, 1) := by decide +kernel
theorem dm_X10_numberRowAt_12 : mj_dec prog_12_method_8_code 12 = some (.iload_n 1, 1) := by decide +kernel
theorem dm_X10_numberRowAt_13 : mj_dec prog_12_method_8_code 13 = some (.iload_n 2, 1) := by decide +kernel
theorem dm_X10_numberRowAt_14 : mj_dec prog_12_method_8_code 14 = some (.iconst 0, 1) := by decide +kernel
theorem dm_X10_numberRowAt_15 : mj_dec prog_12_method_8_code 15 = some (.invokespecial 45, 3) := by decide +kernel
theorem dm_X10_numberRowAt_18 : mj_dec prog_12_method_8_code 18 = some (.areturn, 1) := by decide +kernel
theorem c_numberRowAt {xt : mj_X} {d q : Nat} {h : mj_H} {row n fr m : Nat} {A : Nat → Prop} {f : Nat → Int64} {f1 : Nat → Value} (hx1 : xt 1 = some (.long, 0, f1)) (hd : 3 ≤ d) (hl : 2 ≤ h.length) (hq : h.length = q) (hrow : rowAt A h row n f) (hn : n ≤ 1000) (hfr : fr ≤ 1000) (hmm : m ≤ 1000) (hb : 0 < m → fr + m ≤ n) : pgV xt d 108 [.ref row, ii (fr : Int), ii (m : Int)] h (fun v h' => v = .ref q ∧ h' = h ++ [cO 10 [ii (vform m (fun j => f (fr + j)) : Int), .long 0, .ref row, .null, ii (fr : Int), ii (m : Int), ii 0, ii (csz (vform m (fun j => f (fr + j)) : Int) (m : Int) 0), ii (clv (vform m (fun j => f (fr + j)) : Int))]]) := by
  subst hq
  have hvf := vform_le (m := m) (f := fun j => f (fr + j))
  refine x_enter pm_X10_numberRowAt (L0 := [(0, .ref row), (1, ii (fr : Int)), (2, ii (m : Int))]) rfl (Nat.le_of_ble_eq_true rfl) (by omega) ?_
  refine me3 (pc' := 3) (S' := [.ref h.length]) (h1 := h ++ [cO 10 [ii 0, .long (Int64.ofInt 0), .null, .null, ii 0, ii 0, ii 0, ii 0, ii 0]]) dm_X10_numberRowAt_0 (g_nw rfl rfl rfl) rfl rfl rfl ?_
  refine me0 (pc' := 4) (S' := [.ref h.length, .ref h.length]) dm_X10_numberRowAt_3 rfl rfl rfl rfl ?_
  refine me1 (pc' := 5) (L' := [(0, .ref row), (1, ii (fr : Int)), (2, ii (m : Int))]) (S' := [.ref row, .ref h.length, .ref h.length]) dm_X10_numberRowAt_4 rfl rfl rfl rfl ?_
  refine me1 (pc' := 6) (L' := [(0, .ref row), (1, ii (fr : Int)), (2, ii (m : Int))]) (S' := [ii (fr : Int), .ref row, .ref h.length, .ref h.length]) dm_X10_numberRowAt_5 rfl rfl rfl rfl ?_
  refine me1 (pc' := 7) (L' := [(0, .ref row), (1, ii (fr : Int)), (2, ii (m : Int))]) (S' := [ii (m : Int), ii (fr : Int), .ref row, .ref h.length, .ref h.length]) dm_X10_numberRowAt_6 rfl rfl rfl rfl ?_
  refine x_cp (pc' := 10) (v := ii (vform m (fun j => f (fr + j)) : Int)) (rest := [.ref h.length, .ref h.length]) dm_X10_numberRowAt_7 rfl (g_invs (As := [.ref row, ii (fr : Int), ii (m : Int)]) (S := [.ref h.length, .ref h.length]) rfl rfl rfl) rfl rfl rfl (c_formOf (fr := fr) (m := m) hx1 (by omega) (rw_app hrow) (by omega) (by omega) (by omega) (by omega)) ?_
  refine me0 (pc' := 11) (S' := [.long (Int64.ofInt 0), ii (vform m (fun j => f (fr + j)) : Int), .ref h.length, .ref h.length]) dm_X10_numberRowAt_10 rfl rfl rfl rfl ?_
  refine me1 (pc' := 12) (L' := [(0, .ref row), (1, ii (fr : Int)), (2, ii (m : Int))]) (S' := [.ref row, .long (Int64.ofInt 0), ii (vform m (fun j => f (fr + j)) : Int), .ref h.length, .ref h.length]) dm_X10_numberRowAt_11 rfl rfl rfl rfl ?_
  refine me1 (pc' := 13) (L' := [(0, .ref row), (1, ii (fr : Int)), (2, ii (m : Int))]) (S' := [ii (fr : Int), .ref row, .long (Int64.ofInt 0), ii (vform m (fun j => f (fr + j)) : Int), .ref h.length, .ref h.length]) dm_X10_numberRowAt_12 rfl rfl rfl rfl ?_
  refine me1 (pc' := 14) (L' := [(0, .ref row), (1, ii (fr : Int)), (2, ii (m : Int))]) (S' := [ii (m : Int), ii (fr : Int), .ref row, .long (Int64.ofInt 0), ii (vform m (fun j => f (fr + j)) : Int), .ref h.length, .ref h.length]) dm_X10_numberRowAt_13 rfl rfl rfl rfl ?_
  refine me0 (pc' := 15) (S' := [ii 0, ii (m : Int), ii (fr : Int), .ref row, .long (Int64.ofInt 0), ii (vform m (fun j => f (fr + j)) : Int), .ref h.length, .ref h.length]) dm_X10_numberRowAt_14 rfl rfl rfl rfl ?_
  refine x_cn (pc' := 18) (rest := [.ref h.length]) dm_X10_numberRowAt_15 rfl (g_invp (As := [ii (vform m (fun j => f (fr + j)) : Int), .long (Int64.ofInt 0), .ref row, ii (fr : Int), ii (m : Int), ii 0]) (S := [.ref h.length]) rfl rfl rfl) rfl rfl rfl (c_newV (by omega) hl_new (by omega) (by omega) (by omega) (by omega) (by omega) (hl_setl)) ?_
  rintro _ rfl
  refine y_ret (r := some (.ref h.length)) dm_X10_numberRowAt_18 rfl rfl rfl ?_
  exact ⟨_, rfl, rfl, rfl⟩
set_option maxRecDepth 20000 in
theorem pm_X10_table : mj_mmof pg_ms 85 = some ((⟨"ArrayCalculator$Value", "table", "([JII)LArrayCalculator$Value;"⟩, prog_12_method_10_code, 3, (Option.some (Jvm.ClassFile.FieldType.object "ArrayCalculator$Value"))), 10, false, mj_dec prog_12_method_10_code) := rfl
theorem dm_X10_table_0 : mj_dec prog_12_method_10_code 0 = some (.new 10, 3) := by decide +kernel
theorem dm_X10_table_3 : mj_dec prog_12_method_10_code 3 = some (.dup, 1) := by decide +kernel
theorem dm_X10_table_4 : mj_dec prog_12_method_10_code 4 = some (.bipush 6, 2) := by decide +kernel
theorem dm_X10_table_6 : mj_dec prog_12_method_10_code 6 = some (.lconst 0, 1) := by decide +kernel
theorem dm_X10_table_7 : mj_dec prog_12_method_10_code 7 = some (.aload_n 0, 1) := by decide +kernel
theorem dm_X10_table_8 : mj_dec prog_12_method_10_code 8 = some (.iconst 0, 1) := by decide +kernel
theorem dm_X10_table_9 : mj_dec prog_12_method_10_code 9 = some (.iload_n 1, 1) := by decide +kernel
theorem dm_X10_table_10 : mj_dec prog_12_method_10_code 10 = some (.iload_n 2, 1) := by decide +kernel
theorem dm_X10_table_11 : mj_dec prog_12_method_10_code 11 = some (.invokespecial 45, 3) := by decide +kernel
theorem dm_X10_table_14 : mj_dec prog_12_method_10_code 14 = some (.areturn, 1) := by decide +kernel
theorem c_table {xt : mj_X} {d q : Nat} {h : mj_H} {r c : Int} {row : Nat} (hd : 3 ≤ d) (hl : 2 ≤ h.length) (hq : h.length = q) (hr : -2147483648 ≤ r ∧ r ≤ 2147483647) (hc : -2147483648 ≤ c ∧ c ≤ 2147483647) : pgV xt d 85 [.ref row, ii r, ii c] h (fun v h' => v = .ref q ∧ h' = h ++ [cO 10 [ii 6, .long 0, .ref row, .null, ii 0, ii r, ii c, ii (csz 6 r c), ii (clv 6)]]) := by
  subst hq
  refine x_enter pm_X10_table (L0 := [(0, .ref row), (1, ii r), (2, ii c)]) rfl (Nat.le_of_ble_eq_true rfl) (by omega) ?_
  refine me3 (pc' := 3) (S' := [.ref h.length]) (h1 := h ++ [cO 10 [ii 0, .long (Int64.ofInt 0), .null, .null, ii 0, ii 0, ii 0, ii 0, ii 0]]) dm_X10_table_0 (g_nw rfl rfl rfl) rfl rfl rfl ?_
  refine me0 (pc' := 4) (S' := [.ref h.length, .ref h.length]) dm_X10_table_3 rfl rfl rfl rfl ?_
  refine me0 (pc' := 6) (S' := [ii 6, .ref h.length, .ref h.length]) dm_X10_table_4 rfl rfl rfl rfl ?_
  refine me0 (pc' := 7) (S' := [.long (Int64.ofInt 0), ii 6, .ref h.length, .ref h.length]) dm_X10_table_6 rfl rfl rfl rfl ?_
  refine me1 (pc' := 8) (L' := [(0, .ref row), (1, ii r), (2, ii c)]) (S' := [.ref row, .long (Int64.ofInt 0), ii 6, .ref h.length, .ref h.length]) dm_X10_table_7 rfl rfl rfl rfl ?_
  refine me0 (pc' := 9) (S' := [ii 0, .ref row, .long (Int64.ofInt 0), ii 6, .ref h.length, .ref h.length]) dm_X10_table_8 rfl rfl rfl rfl ?_
  refine me1 (pc' := 10) (L' := [(0, .ref row), (1, ii r), (2, ii c)]) (S' := [ii r, ii 0, .ref row, .long (Int64.ofInt 0), ii 6, .ref h.length, .ref h.length]) dm_X10_table_9 rfl rfl rfl rfl ?_
  refine me1 (pc' := 11) (L' := [(0, .ref row), (1, ii r), (2, ii c)]) (S' := [ii c, ii r, ii 0, .ref row, .long (Int64.ofInt 0), ii 6, .ref h.length, .ref h.length]) dm_X10_table_10 rfl rfl rfl rfl ?_
  refine x_cn (pc' := 14) (rest := [.ref h.length]) dm_X10_table_11 rfl (g_invp (As := [ii 6, .long (Int64.ofInt 0), .ref row, ii 0, ii r, ii c]) (S := [.ref h.length]) rfl rfl rfl) rfl rfl rfl (c_newV (by omega) hl_new (by omega) (by omega) (by omega) (by omega) (by omega) (hl_setl)) ?_
  rintro _ rfl
  refine y_ret (r := some (.ref h.length)) dm_X10_table_14 rfl rfl rfl ?_
  exact ⟨_, rfl, rfl, rfl⟩
set_option maxRecDepth 20000 in
theorem pm_X10_tableAt : mj_mmof pg_ms 106 = some ((⟨"ArrayCalculator$Value", "tableAt", "([JIII)LArrayCalculator$Value;"⟩, prog_12_method_11_code, 4, (Option.some (Jvm.ClassFile.FieldType.object "ArrayCalculator$Value"))), 10, false, mj_dec prog_12_method_11_code) := rfl
theorem dm_X10_tableAt_0 : mj_dec prog_12_method_11_code 0 = some (.new 10, 3) := by decide +kernel
theorem dm_X10_tableAt_3 : mj_dec prog_12_method_11_code 3 = some (.dup, 1) := by decide +kernel
theorem dm_X10_tableAt_4 : mj_dec prog_12_method_11_code 4 = some (.bipush 6, 2) := by decide +kernel
theorem dm_X10_tableAt_6 : mj_dec prog_12_method_11_code 6 = some (.lconst 0, 1) := by decide +kernel
theorem dm_X10_tableAt_7 : mj_dec prog_12_method_11_code 7 = some (.aload_n 0, 1) := by decide +kernel
theorem dm_X10_tableAt_8 : mj_dec prog_12_method_11_code 8 = some (.iload_n 1, 1) := by decide +kernel
theorem dm_X10_tableAt_9 : mj_dec prog_12_method_11_code 9 = some (.iload_n 2, 1) := by decide +kernel
theorem dm_X10_tableAt_10 : mj_dec prog_12_method_11_code 10 = some (.iload_n 3, 1) := by decide +kernel
theorem dm_X10_tableAt_11 : mj_dec prog_12_method_11_code 11 = some (.invokespecial 45, 3) := by decide +kernel
theorem dm_X10_tableAt_14 : mj_dec prog_12_method_11_code 14 = some (.areturn, 1) := by decide +kernel
theorem c_tableAt {xt : mj_X} {d q : Nat} {h : mj_H} {fr r c : Int} {row : Nat} (hd : 3 ≤ d) (hl : 2 ≤ h.length) (hq : h.length = q) (hf : -2147483648 ≤ fr ∧ fr ≤ 2147483647) (hr : -2147483648 ≤ r ∧ r ≤ 2147483647) (hc : -2147483648 ≤ c ∧ c ≤ 2147483647) : pgV xt d 106 [.ref row, ii fr, ii r, ii c] h (fun v h' => v = .ref q ∧ h' = h ++ [cO 10 [ii 6, .long 0, .ref row, .null, ii fr, ii r, ii c, ii (csz 6 r c), ii (clv 6)]]) := by
  subst hq
  refine x_enter pm_X10_tableAt (L0 := [(0, .ref row), (1, ii fr), (2, ii r), (3, ii c)]) rfl (Nat.le_of_ble_eq_true rfl) (by omega) ?_
  refine me3 (pc' := 3) (S' := [.ref h.length]) (h1 := h ++ [cO 10 [ii 0, .long (Int64.ofInt 0), .null, .null, ii 0, ii 0, ii 0, ii 0, ii 0]]) dm_X10_tableAt_0 (g_nw rfl rfl rfl) rfl rfl rfl ?_
  refine me0 (pc' := 4) (S' := [.ref h.length, .ref h.length]) dm_X10_tableAt_3 rfl rfl rfl rfl ?_
  refine me0 (pc' := 6) (S' := [ii 6, .ref h.length, .ref h.length]) dm_X10_tableAt_4 rfl rfl rfl rfl ?_
  refine me0 (pc' := 7) (S' := [.long (Int64.ofInt 0), ii 6, .ref h.length, .ref h.length]) dm_X10_tableAt_6 rfl rfl rfl rfl ?_
  refine me1 (pc' := 8) (L' := [(0, .ref row), (1, ii fr), (2, ii r), (3, ii c)]) (S' := [.ref row, .long (Int64.ofInt 0), ii 6, .ref h.length, .ref h.length]) dm_X10_tableAt_7 rfl rfl rfl rfl ?_
  refine me1 (pc' := 9) (L' := [(0, .ref row), (1, ii fr), (2, ii r), (3, ii c)]) (S' := [ii fr, .ref row, .long (Int64.ofInt 0), ii 6, .ref h.length, .ref h.length]) dm_X10_tableAt_8 rfl rfl rfl rfl ?_
  refine me1 (pc' := 10) (L' := [(0, .ref row), (1, ii fr), (2, ii r), (3, ii c)]) (S' := [ii r, ii fr, .ref row, .long (Int64.ofInt 0), ii 6, .ref h.length, .ref h.length]) dm_X10_tableAt_9 rfl rfl rfl rfl ?_
  refine me1 (pc' := 11) (L' := [(0, .ref row), (1, ii fr), (2, ii r), (3, ii c)]) (S' := [ii c, ii r, ii fr, .ref row, .long (Int64.ofInt 0), ii 6, .ref h.length, .ref h.length]) dm_X10_tableAt_10 rfl rfl rfl rfl ?_
  refine x_cn (pc' := 14) (rest := [.ref h.length]) dm_X10_tableAt_11 rfl (g_invp (As := [ii 6, .long (Int64.ofInt 0), .ref row, ii fr, ii r, ii c]) (S := [.ref h.length]) rfl rfl rfl) rfl rfl rfl (c_newV (by omega) hl_new (by omega) (by omega) (by omega) (by omega) (by omega) (hl_setl)) ?_
  rintro _ rfl
  refine y_ret (r := some (.ref h.length)) dm_X10_tableAt_14 rfl rfl rfl ?_
  exact ⟨_, rfl, rfl, rfl⟩
