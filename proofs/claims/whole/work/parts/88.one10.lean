/-! = : the groups of a row -/
theorem sumN_add (n : Nat) (f g : Nat → Nat) : sumN n (fun k => f k + g k) = sumN n f + sumN n g := by
  induction n with
  | zero => rfl
  | succ n ih =>
    show sumN n (fun k => f k + g k) + (f n + g n) = (sumN n f + f n) + (sumN n g + g n)
    omega
theorem sumN_one {n : Nat} {P : Nat → Bool} (h : ∀ a b, a < n → b < n → P a = true → P b = true → a = b) : sumN n (fun g => if P g = true then 1 else 0) ≤ 1 := by
  induction n with
  | zero => exact Nat.zero_le _
  | succ n ih =>
    show sumN n (fun g => if P g = true then 1 else 0) + (if P n = true then 1 else 0) ≤ 1
    by_cases z : P n = true
    · rw [if_pos z]
      have h0 : sumN n (fun g => if P g = true then 1 else 0) = sumN n (fun _ => 0) := sumN_congr (fun k hk => if_neg (fun y => by have := h k n (by omega) (by omega) y z; omega))
      have h1 : ∀ m, sumN m (fun _ => 0) = 0 := by
        intro m
        induction m with
        | zero => rfl
        | succ m ihm => show sumN m (fun _ => 0) + 0 = 0; omega
      rw [h0, h1]
      exact Nat.le_refl _
    · rw [if_neg z]
      have := ih (fun a b ha hb => h a b (by omega) (by omega))
      omega
theorem sumN_nm {n m : Nat} {f : Nat → Nat} (h : n ≤ m) : sumN n f ≤ sumN m f := by
  induction m with
  | zero => rw [show n = 0 by omega]; exact Nat.le_refl _
  | succ m ih =>
    by_cases z : n = m + 1
    · rw [z]; exact Nat.le_refl _
    · show sumN n f ≤ sumN m f + f m
      have := ih (by omega)
      omega
theorem sumN_seg {f : Nat → Nat} {j t k : Nat} (h : j < t) (hk : k < f j) : sumN j f + k < sumN t f := by
  have h1 : sumN (j + 1) f ≤ sumN t f := sumN_nm h
  have h2 : sumN (j + 1) f = sumN j f + f j := rfl
  omega
theorem flt_1 (f : Nat → Bool) (i : Nat) : (flt f (i + 1)).1 = (flt f i).1 + (if f i = true then 1 else 0) := by
  cases h : f i with
  | true => rw [flt_s h, if_pos rfl]
  | false => rw [flt_n h, if_neg (by decide)]; rfl
theorem flt_mono {f : Nat → Bool} {i m : Nat} (h : i ≤ m) : (flt f i).1 ≤ (flt f m).1 := by
  induction m with
  | zero => rw [show i = 0 by omega]; exact Nat.le_refl _
  | succ m ih =>
    by_cases z : i = m + 1
    · rw [z]; exact Nat.le_refl _
    · have := ih (by omega)
      rw [flt_1]
      omega
theorem unq_ne {same : Nat → Nat → Bool} {k : Nat} : ∀ a b, a < b → b < (unq same k).1 → same ((unq same k).2 b) ((unq same k).2 a) = false := by
  induction k with
  | zero => intro a b _ h; exact absurd h (Nat.not_lt_zero b)
  | succ k ih =>
    intro a b hab hb
    cases hh : allN (unq same k).1 (fun j => !(same k ((unq same k).2 j))) with
    | false => rw [unq_n hh] at hb ⊢; exact ih a b hab hb
    | true =>
      rw [unq_s hh] at hb ⊢
      have hb2 : b < (unq same k).1 + 1 := hb
      show same (va_up (unq same k).2 (unq same k).1 k b) (va_up (unq same k).2 (unq same k).1 k a) = false
      rw [up_ne _ _ (show a ≠ (unq same k).1 by omega)]
      by_cases z : b = (unq same k).1
      · rw [z, up_eq]
        have h1 := allN_iff.mp hh a (by omega)
        cases h2 : same k ((unq same k).2 a) with
        | false => rfl
        | true => rw [h2] at h1; cases h1
      · rw [up_ne _ _ z]; exact ih a b hab (by omega)
/-- how many groups there are, the first place of each, whether a place is in a group -/
def grN (v : VV) : Nat := (unq (nsame v) (vm v)).1
def grO (v : VV) : Nat → Nat := (unq (nsame v) (vm v)).2
def grF (v : VV) (g : Nat) : Nat → Bool := fun i => decide (vn v i = vn v (grO v g))
def grC (v : VV) (g : Nat) : Nat := (flt (grF v g) (vm v)).1
theorem gr_sum (v : VV) (i : Nat) : sumN (grN v) (fun g => (flt (grF v g) i).1) ≤ i := by
  induction i with
  | zero =>
    have : sumN (grN v) (fun g => (flt (grF v g) 0).1) ≤ (grN v) * 0 := sumN_bd (fun k _ => Nat.le_refl _)
    omega
  | succ i ih =>
    rw [sumN_congr (g := fun g => (flt (grF v g) i).1 + (if grF v g i = true then 1 else 0)) (fun g _ => flt_1 _ _), sumN_add]
    have h1 : sumN (grN v) (fun g => if grF v g i = true then 1 else 0) ≤ 1 := by
      refine sumN_one (fun a b ha hb h1 h2 => ?_)
      have h3 := of_decide_eq_true h1
      have h4 := of_decide_eq_true h2
      have h5 : ∀ a b, a < b → b < grN v → vn v (grO v a) = vn v (grO v b) → False := by
        intro a b hab hb he
        have h6 := of_decide_eq_false (unq_ne (same := nsame v) (k := vm v) a b hab hb)
        exact h6 he.symm
      rcases Nat.lt_trichotomy a b with z | z | z
      · exact (h5 a b z hb (h3.symm.trans h4)).elim
      · exact z
      · exact (h5 b a z ha (h4.symm.trans h3)).elim
    omega
theorem gr_bd {v : VV} {t i : Nat} (ht : t < grN v) (hi : i < vm v) (hf : grF v t i = true) : sumN t (grC v) + (flt (grF v t) i).1 < vm v := by
  have h1 := gr_sum v (vm v)
  have h2 : sumN (t + 1) (grC v) ≤ sumN (grN v) (grC v) := sumN_nm ht
  have h3 : sumN (t + 1) (grC v) = sumN t (grC v) + grC v t := rfl
  have h4 := flt_1 (grF v t) i
  rw [if_pos hf] at h4
  have h5 : (flt (grF v t) (i + 1)).1 ≤ grC v t := flt_mono hi
  have h6 : sumN (grN v) (grC v) ≤ vm v := h1
  omega
theorem gr_le {v : VV} {t i : Nat} (ht : t < grN v) (hi : i ≤ vm v) : sumN t (grC v) + (flt (grF v t) i).1 ≤ vm v := by
  have h1 := gr_sum v (vm v)
  have h2 : sumN (t + 1) (grC v) ≤ sumN (grN v) (grC v) := sumN_nm ht
  have h3 : sumN (t + 1) (grC v) = sumN t (grC v) + grC v t := rfl
  have h5 : (flt (grF v t) i).1 ≤ grC v t := flt_mono hi
  have h6 : sumN (grN v) (grC v) ≤ vm v := h1
  omega
def grV (v : VV) (g : Nat) : VV := vrow 4 (grC v g) (fun k => Int64.ofInt (((flt (grF v g) (vm v)).2 k : Nat) : Int))
def m_grp (v : VV) : Nat ⊕ VV := if ¬ (2 ≤ vk v ∧ vk v ≤ 5) then .inl 3 else if 24 < grN v then .inl 8 else .inr (vnest (grN v) (grV v))
/-- the heap while the groups are made -/
def gfl (v : VV) (h1 : mj_H) (L : Nat) (hh : mj_H) (G : Nat → Int64) (V : Nat → Option Nat) (t : Nat) : Prop := h1.length = L ∧ ∃ X, hh = ((h1 ++ [cJ (vm v) G]) ++ [cA 4 (grN v) V]) ++ X ∧ X.length = t ∧ mj_sl X = 9 * t ∧ ∀ j, j < t → V j = some (L + 2 + j) ∧ X[j]? = some (cVal 4 0 L ((sumN j (grC v) : Nat) : Int) ((grC v j : Nat) : Int) 0)
section GFL
variable {v : VV} {h1 hh : mj_H} {L t : Nat} {G F : Nat → Int64} {V : Nat → Option Nat}
theorem gfl_0 (hL : h1.length = L) : gfl v h1 L ((h1 ++ [cJ (vm v) G]) ++ [cA 4 (grN v) V]) G V 0 := ⟨hL, [], (List.append_nil _).symm, rfl, rfl, fun j hj => absurd hj (Nat.not_lt_zero j)⟩
theorem gfl_get (hg : gfl v h1 L hh G V t) {x : Nat} {c : mj_E} (hx : h1[x]? = some c) : hh[x]? = some c := by
  obtain ⟨-, X, rfl, -⟩ := hg
  exact hl_app (hl_app (hl_app hx))
theorem gfl_len (hg : gfl v h1 L hh G V t) : hh.length = L + 2 + t := by
  obtain ⟨rfl, X, rfl, rfl, -⟩ := hg
  simp
  omega
theorem gfl_row (hg : gfl v h1 L hh G V t) : hh[L]? = some (cJ (vm v) G) := by
  obtain ⟨rfl, X, rfl, -⟩ := hg
  exact hl_app (hl_app hl_new)
theorem gfl_arr (hg : gfl v h1 L hh G V t) : hh[L + 1]? = some (cA 4 (grN v) V) := by
  obtain ⟨rfl, X, rfl, -⟩ := hg
  exact hl_app (hl_newa (by simp))
theorem gfl_s (hg : gfl v h1 L hh G V t) : gfl v h1 L (((hh.set L (cJ (vm v) F)) ++ [cVal 4 0 L ((sumN t (grC v) : Nat) : Int) ((grC v t : Nat) : Int) 0]).set (L + 1) (cA 4 (grN v) (va_up V t (some hh.length)))) F (va_up V t (some hh.length)) (t + 1) := by
  have hlen := gfl_len hg
  obtain ⟨rfl, X, hX, h2, h3, h4⟩ := hg
  have hset : (((hh.set h1.length (cJ (vm v) F)) ++ [cVal 4 0 h1.length ((sumN t (grC v) : Nat) : Int) ((grC v t : Nat) : Int) 0]).set (h1.length + 1) (cA 4 (grN v) (va_up V t (some hh.length)))) = ((h1 ++ [cJ (vm v) F]) ++ [cA 4 (grN v) (va_up V t (some hh.length))]) ++ (X ++ [cVal 4 0 h1.length ((sumN t (grC v) : Nat) : Int) ((grC v t : Nat) : Int) 0]) := by
    have e1 : ∀ c : mj_E, (((h1 ++ [cJ (vm v) G]) ++ [cA 4 (grN v) V]) ++ X).set h1.length c = ((h1 ++ [c]) ++ [cA 4 (grN v) V]) ++ X := fun c => by rw [List.set_append_left _ _ (by simp), List.set_append_left _ _ (by simp), hl_setl]
    generalize hh.length = lh
    rw [hX, e1, List.set_append_left _ _ (by simp), List.set_append_left _ _ (by simp), hl_seta (by simp), List.append_assoc _ X _]
  refine ⟨rfl, _, hset, by rw [List.length_append, h2]; rfl, ?_, fun j hj => ?_⟩
  · rw [sl_app, h3]
    show 9 * t + (9 + 0) = 9 * (t + 1)
    omega
  · by_cases z : j = t
    · subst z
      refine ⟨by rw [up_eq, hlen], ?_⟩
      rw [← h2]
      exact hl_new
    · refine ⟨by rw [up_ne _ _ z]; exact (h4 j (by omega)).1, ?_⟩
      exact hl_app (h4 j (by omega)).2
/-- all are made: each is a value -/
theorem gfl_kid {A : Nat → Prop} {e : Nat} (hg : gfl v h1 L hh G V t) (hl : 127 ≤ L) (hm : vm v ≤ 120) (hn : t ≤ grN v) (hG : ∀ j, j < t → ∀ k, k < grC v j → G (sumN j (grC v) + k) = Int64.ofInt (((flt (grF v j) (vm v)).2 k : Nat) : Int)) : ∀ j, j < t → ∃ q, V j = some q ∧ cv (newA A h1 hh) hh (e + 1) q (grV v j) := by
  have hlen := gfl_len hg
  have hrow := gfl_row hg
  obtain ⟨rfl, X, hX, h2, h3, h4⟩ := hg
  intro j hj
  obtain ⟨g1, g2⟩ := h4 j hj
  have hb := gr_le (v := v) (t := j) (i := vm v) (by omega) (Nat.le_refl _)
  have hb2 : sumN j (grC v) + grC v j ≤ vm v := hb
  have hc : grC v j ≤ 120 := by omega
  refine ⟨_, g1, cv_flat (row := h1.length) (fr := sumN j (grC v)) (n := vm v) (f := G) (w := grV v j) ?_ (vw1_row (by omega) (by omega) hc) (by show 2 ≤ 4; omega) (by show 4 ≤ 6; omega) (by omega) (Or.inr ⟨by omega, by omega⟩) (Or.inr ⟨by omega, hrow, by omega, Or.inr ⟨Nat.le_refl _, by omega⟩⟩) (by omega) (fun _ => by rw [show vq (grV v j) = grC v j from vq_row (by omega)]; exact hb2) (fun k hk => ?_)⟩
  · rw [hX, List.getElem?_append_right (by simp), show h1.length + 2 + j - (h1 ++ [cJ (vm v) G] ++ [cA 4 (grN v) V]).length = j by simp]
    exact g2
  · rw [show vq (grV v j) = grC v j from vq_row (by omega)] at hk
    exact hG j hj k hk
theorem gfl_end {A : Nat → Prop} {e a b : Nat} (hg : gfl v h1 L hh G V (grN v)) (hl : 127 ≤ L) (hm : vm v ≤ 120) (hn : grN v ≤ 24) (he : e ≤ 19) (hG : ∀ j, j < grN v → ∀ k, k < grC v j → G (sumN j (grC v) + k) = Int64.ofInt (((flt (grF v j) (vm v)).2 k : Nat) : Int)) (hS : sumN (grN v) (fun k => vsz (e + 1) (grV v k)) ≤ 29999) (ha : grN v + 3 ≤ a) (hb : vm v + 10 * grN v + 9 ≤ b) : vres A h1 (e + 2) (vnest (grN v) (grV v)) a b (.ref hh.length) (hh ++ [cNest (.ref (L + 1)) 0 ((grN v : Nat) : Int) ((1 + sumN (grN v) (fun k => vsz (e + 1) (grV v k)) : Nat) : Int) ((1 + maxN (grN v) (fun k => vlv (e + 1) (grV v k)) : Nat) : Int)]) := by
  have hlen := gfl_len hg
  have harr := gfl_arr hg
  have hkid := gfl_kid (A := A) (e := e) hg hl hm (Nat.le_refl _) hG
  obtain ⟨rfl, X, hX, h2, h3, h4⟩ := hg
  refine ⟨_, [cJ (vm v) G] ++ [cA 4 (grN v) V] ++ X ++ [cNest (.ref (h1.length + 1)) 0 ((grN v : Nat) : Int) ((1 + sumN (grN v) (fun k => vsz (e + 1) (grV v k)) : Nat) : Int) ((1 + maxN (grN v) (fun k => vlv (e + 1) (grV v k)) : Nat) : Int)], rfl, ?_, ?_, ?_, ?_⟩
  · rw [hX]; simp only [List.append_assoc]
  · simp; omega
  · rw [sl_app, sl_app, sl_app, h3]
    show vm v + 0 + (grN v + 0) + 9 * grN v + (9 + 0) ≤ b
    omega
  · have hin : ∀ x, h1.length ≤ x → x ≤ hh.length → newA A h1 (hh ++ [cNest (.ref (h1.length + 1)) 0 ((grN v : Nat) : Int) ((1 + sumN (grN v) (fun k => vsz (e + 1) (grV v k)) : Nat) : Int) ((1 + maxN (grN v) (fun k => vlv (e + 1) (grV v k)) : Nat) : Int)]) x := fun x z1 z2 => Or.inr ⟨z1, by rw [List.length_append]; show _ < _ + 1; omega⟩
    refine cv_nest (fr := 0) (a := h1.length + 1) (n := grN v) (g := V) hn (by omega) (hin _ (by omega) (by omega)) (by omega) hS hl_new (by omega) (hl_app harr) (by omega) (hin _ (by omega) (by omega)) (by omega) (by omega) (fun k hk => ?_)
    obtain ⟨q, g1, g2⟩ := hkid k hk
    refine ⟨q, by rw [Nat.zero_add]; exact g1, cv_keep (fun x c hx hg => ⟨?_, hl_app hg⟩) g2⟩
    rcases hx with hx | hx
    · exact Or.inl hx
    · exact hin x hx.1 (by omega)
end GFL
set_option maxRecDepth 20000 in
theorem pm_X3_groups : mj_mmof pg_ms 119 = some ((⟨"ArrayCalculator$OneAct", "groups", "(LArrayCalculator$Value;)LArrayCalculator$Value;"⟩, prog_5_method_9_code, 9, (Option.some (Jvm.ClassFile.FieldType.object "ArrayCalculator$Value"))), 3, false, mj_dec prog_5_method_9_code) := rfl
theorem dm_X3_groups_0 : mj_dec prog_5_method_9_code 0 = some (.aload_n 1, 1) := by decide +kernel
theorem dm_X3_groups_1 : mj_dec prog_5_method_9_code 1 = some (.invokevirtual 126, 3) := by decide +kernel
theorem dm_X3_groups_4 : mj_dec prog_5_method_9_code 4 = some (.ifCond .ne 8, 3) := by decide +kernel
theorem dm_X3_groups_7 : mj_dec prog_5_method_9_code 7 = some (.iconst 3, 1) := by decide +kernel
theorem dm_X3_groups_8 : mj_dec prog_5_method_9_code 8 = some (.invokestatic 68, 3) := by decide +kernel
theorem dm_X3_groups_11 : mj_dec prog_5_method_9_code 11 = some (.areturn, 1) := by decide +kernel
theorem dm_X3_groups_12 : mj_dec prog_5_method_9_code 12 = some (.aload_n 0, 1) := by decide +kernel
theorem dm_X3_groups_13 : mj_dec prog_5_method_9_code 13 = some (.aload_n 1, 1) := by decide +kernel
theorem dm_X3_groups_14 : mj_dec prog_5_method_9_code 14 = some (.invokevirtual 157, 3) := by decide +kernel
theorem dm_X3_groups_17 : mj_dec prog_5_method_9_code 17 = some (.istore_n 2, 1) := by decide +kernel
theorem dm_X3_groups_18 : mj_dec prog_5_method_9_code 18 = some (.iload_n 2, 1) := by decide +kernel
theorem dm_X3_groups_19 : mj_dec prog_5_method_9_code 19 = some (.bipush 24, 2) := by decide +kernel
theorem dm_X3_groups_21 : mj_dec prog_5_method_9_code 21 = some (.if_icmp .le 9, 3) := by decide +kernel
theorem dm_X3_groups_24 : mj_dec prog_5_method_9_code 24 = some (.bipush 8, 2) := by decide +kernel
theorem dm_X3_groups_26 : mj_dec prog_5_method_9_code 26 = some (.invokestatic 68, 3) := by decide +kernel
theorem dm_X3_groups_29 : mj_dec prog_5_method_9_code 29 = some (.areturn, 1) := by decide +kernel
theorem dm_X3_groups_30 : mj_dec prog_5_method_9_code 30 = some (.aload_n 1, 1) := by decide +kernel
theorem dm_X3_groups_31 : mj_dec prog_5_method_9_code 31 = some (.getfield 76, 3) := by decide +kernel
theorem dm_X3_groups_34 : mj_dec prog_5_method_9_code 34 = some (.newarray .long, 2) := by decide +kernel
theorem dm_X3_groups_36 : mj_dec prog_5_method_9_code 36 = some (.astore_n 3, 1) := by decide +kernel
theorem dm_X3_groups_37 : mj_dec prog_5_method_9_code 37 = some (.iload_n 2, 1) := by decide +kernel
theorem dm_X3_groups_38 : mj_dec prog_5_method_9_code 38 = some (.anewarray 36, 3) := by decide +kernel
theorem dm_X3_groups_41 : mj_dec prog_5_method_9_code 41 = some (.astore 4, 2) := by decide +kernel
theorem dm_X3_groups_43 : mj_dec prog_5_method_9_code 43 = some (.iconst 0, 1) := by decide +kernel
theorem dm_X3_groups_44 : mj_dec prog_5_method_9_code 44 = some (.istore 5, 2) := by decide +kernel
theorem dm_X3_groups_46 : mj_dec prog_5_method_9_code 46 = some (.iconst 0, 1) := by decide +kernel
theorem dm_X3_groups_47 : mj_dec prog_5_method_9_code 47 = some (.istore 6, 2) := by decide +kernel
theorem dm_X3_groups_49 : mj_dec prog_5_method_9_code 49 = some (.iload 6, 2) := by decide +kernel
theorem dm_X3_groups_51 : mj_dec prog_5_method_9_code 51 = some (.iload_n 2, 1) := by decide +kernel
theorem dm_X3_groups_52 : mj_dec prog_5_method_9_code 52 = some (.if_icmp .ge 79, 3) := by decide +kernel
theorem dm_X3_groups_55 : mj_dec prog_5_method_9_code 55 = some (.iload 5, 2) := by decide +kernel
theorem dm_X3_groups_57 : mj_dec prog_5_method_9_code 57 = some (.istore 7, 2) := by decide +kernel
theorem dm_X3_groups_59 : mj_dec prog_5_method_9_code 59 = some (.iconst 0, 1) := by decide +kernel
theorem dm_X3_groups_60 : mj_dec prog_5_method_9_code 60 = some (.istore 8, 2) := by decide +kernel
theorem dm_X3_groups_62 : mj_dec prog_5_method_9_code 62 = some (.iload 8, 2) := by decide +kernel
theorem dm_X3_groups_64 : mj_dec prog_5_method_9_code 64 = some (.aload_n 1, 1) := by decide +kernel
theorem dm_X3_groups_65 : mj_dec prog_5_method_9_code 65 = some (.getfield 76, 3) := by decide +kernel
theorem dm_X3_groups_68 : mj_dec prog_5_method_9_code 68 = some (.if_icmp .ge 40, 3) := by decide +kernel
theorem dm_X3_groups_71 : mj_dec prog_5_method_9_code 71 = some (.aload_n 1, 1) := by decide +kernel
theorem dm_X3_groups_72 : mj_dec prog_5_method_9_code 72 = some (.iload 8, 2) := by decide +kernel
theorem dm_X3_groups_74 : mj_dec prog_5_method_9_code 74 = some (.invokevirtual 118, 3) := by decide +kernel
theorem dm_X3_groups_77 : mj_dec prog_5_method_9_code 77 = some (.aload_n 1, 1) := by decide +kernel
theorem dm_X3_groups_78 : mj_dec prog_5_method_9_code 78 = some (.aload_n 0, 1) := by decide +kernel
theorem dm_X3_groups_79 : mj_dec prog_5_method_9_code 79 = some (.getfield 9, 3) := by decide +kernel
theorem dm_X3_groups_82 : mj_dec prog_5_method_9_code 82 = some (.iload 6, 2) := by decide +kernel
theorem dm_X3_groups_84 : mj_dec prog_5_method_9_code 84 = some (.iaload, 1) := by decide +kernel
theorem dm_X3_groups_85 : mj_dec prog_5_method_9_code 85 = some (.invokevirtual 118, 3) := by decide +kernel
theorem dm_X3_groups_88 : mj_dec prog_5_method_9_code 88 = some (.lcmp, 1) := by decide +kernel
theorem dm_X3_groups_89 : mj_dec prog_5_method_9_code 89 = some (.ifCond .ne 13, 3) := by decide +kernel
theorem dm_X3_groups_92 : mj_dec prog_5_method_9_code 92 = some (.aload_n 3, 1) := by decide +kernel
theorem dm_X3_groups_93 : mj_dec prog_5_method_9_code 93 = some (.iload 5, 2) := by decide +kernel
theorem dm_X3_groups_95 : mj_dec prog_5_method_9_code 95 = some (.iload 8, 2) := by decide +kernel
theorem dm_X3_groups_97 : mj_dec prog_5_method_9_code 97 = some (.i2l, 1) := by decide +kernel
theorem dm_X3_groups_98 : mj_dec prog_5_method_9_code 98 = some (.lastore, 1) := by decide +kernel
theorem dm_X3_groups_99 : mj_dec prog_5_method_9_code 99 = some (.iinc 5 1, 3) := by decide +kernel
theorem dm_X3_groups_102 : mj_dec prog_5_method_9_code 102 = some (.iinc 8 1, 3) := by decide +kernel
theorem dm_X3_groups_105 : mj_dec prog_5_method_9_code 105 = some (.goto (-43), 3) := by decide +kernel
theorem dm_X3_groups_108 : mj_dec prog_5_method_9_code 108 = some (.aload 4, 2) := by decide +kernel
theorem dm_X3_groups_110 : mj_dec prog_5_method_9_code 110 = some (.iload 6, 2) := by decide +kernel
theorem dm_X3_groups_112 : mj_dec prog_5_method_9_code 112 = some (.iconst 4, 1) := by decide +kernel
theorem dm_X3_groups_113 : mj_dec prog_5_method_9_code 113 = some (.aload_n 3, 1) := by decide +kernel
theorem dm_X3_groups_114 : mj_dec prog_5_method_9_code 114 = some (.iload 7, 2) := by decide +kernel
theorem dm_X3_groups_116 : mj_dec prog_5_method_9_code 116 = some (.iload 5, 2) := by decide +kernel
theorem dm_X3_groups_118 : mj_dec prog_5_method_9_code 118 = some (.iload 7, 2) := by decide +kernel
theorem dm_X3_groups_120 : mj_dec prog_5_method_9_code 120 = some (.isub, 1) := by decide +kernel
theorem dm_X3_groups_121 : mj_dec prog_5_method_9_code 121 = some (.invokestatic 161, 3) := by decide +kernel
theorem dm_X3_groups_124 : mj_dec prog_5_method_9_code 124 = some (.aastore, 1) := by decide +kernel
theorem dm_X3_groups_125 : mj_dec prog_5_method_9_code 125 = some (.iinc 6 1, 3) := by decide +kernel
theorem dm_X3_groups_128 : mj_dec prog_5_method_9_code 128 = some (.goto (-79), 3) := by decide +kernel
theorem dm_X3_groups_131 : mj_dec prog_5_method_9_code 131 = some (.aload 4, 2) := by decide +kernel
theorem dm_X3_groups_133 : mj_dec prog_5_method_9_code 133 = some (.invokestatic 165, 3) := by decide +kernel
theorem dm_X3_groups_136 : mj_dec prog_5_method_9_code 136 = some (.areturn, 1) := by decide +kernel
theorem o_groups {xt : mj_X} {d e p : Nat} {A : Nat → Prop} {h : mj_H} {v : VV} {f1 : Nat → Value} (hx1 : xt 1 = some (.long, 0, f1)) (hd : 8 ≤ d) (hl : 127 ≤ h.length) (hA : okA A h) (hH : actH h) (hv : cv A h (e + 1) p v) (he : e ≤ 19) (hset : vsz (e + 1) v ≤ 1000) : pgV xt d 119 [.ref 17, .ref p] h (aact A h (e + 2) (m_grp v) (grN v + 3) (vm v + 10 * grN v + 9)) := by
  have h17 := hH.1
  obtain ⟨pf0, h18⟩ := hH.2.1
  obtain ⟨nf0, h19⟩ := hH.2.2.1
  have hcv := vw1_c hv.1
  obtain ⟨row, fr, vals, hp, hp2, hpA, hvk, hvm, hvc, hvs, hvl⟩ := cv_val hv
  have hpb := hA p hpA
  have hq5 : vk v ≤ 5 → vq v = vm v := vq_m
  refine x_enter pm_X3_groups (L0 := [(0, .ref 17), (1, .ref p)]) rfl (Nat.le_of_ble_eq_true rfl) (by omega) ?_
  refine me1 (pc' := 1) (L' := [(0, .ref 17), (1, .ref p)]) (S' := [.ref p]) dm_X3_groups_0 rfl rfl rfl rfl ?_
  refine x_cp (pc' := 4) (v := zz (decide (2 ≤ vk v ∧ vk v ≤ 5))) (rest := []) dm_X3_groups_1 rfl (g_inv (As := []) (S := []) hp rfl rfl rfl (by omega)) rfl rfl rfl (c_isRow (by omega) hv) ?_
  refine y_zne (c := decide (2 ≤ vk v ∧ vk v ≤ 5)) (t := 12) (pc' := 7) dm_X3_groups_4 rfl rfl (fun hb1 => ?_) (fun hb1 => ?_)
  · replace hb1 := dT hb1
    refine me1 (pc' := 13) (L' := [(0, .ref 17), (1, .ref p)]) (S' := [.ref 17]) dm_X3_groups_12 rfl rfl rfl rfl ?_
    refine me1 (pc' := 14) (L' := [(0, .ref 17), (1, .ref p)]) (S' := [.ref p, .ref 17]) dm_X3_groups_13 rfl rfl rfl rfl ?_
    refine x_cv (pc' := 17) (rest := []) dm_X3_groups_14 rfl (g_inv (As := [.ref p]) (S := []) h17 rfl rfl rfl (by decide)) rfl rfl rfl ((show pgV xt (d - 1) _ _ _ (fun x h' => ∃ P, x = ii ((grN v : Nat) : Int) ∧ h' = h.set 18 (cI 144 P) ∧ ∀ j, j < grN v → P j = ((grO v j : Nat) : Int)) from o_unlikePlaces hx1 (by omega) hl hA hH hv (by omega) hset (by omega) (by omega))) ?_
    rintro _ _ ⟨P, rfl, rfl, hP⟩
    have hul : grN v ≤ vm v ∧ ∀ j, j < grN v → grO v j < vm v := unq_le (nsame v) (vm v)
    have hs1 : scrS h (h.set 18 (cI 144 P)) := scrS_set (by unfold scr; decide) h18 rfl
    have hA1 := okA_scr hA hs1
    have hv1 := cv_scr hA hs1 hv
    have hul1 := hul.1
    replace hul := hul.2
    refine me1 (pc' := 18) (L' := [(2, ii ((grN v : Nat) : Int)), (0, .ref 17), (1, .ref p)]) (S' := []) dm_X3_groups_17 rfl rfl rfl rfl ?_
    refine me1 (pc' := 19) (L' := [(2, ii ((grN v : Nat) : Int)), (0, .ref 17), (1, .ref p)]) (S' := [ii ((grN v : Nat) : Int)]) dm_X3_groups_18 rfl rfl rfl rfl ?_
    refine me0 (pc' := 21) (S' := [ii 24, ii ((grN v : Nat) : Int)]) dm_X3_groups_19 rfl rfl rfl rfl ?_
    refine y_2le (a := ((grN v : Nat) : Int)) (b := 24) (t := 30) (pc' := 24) dm_X3_groups_21 rfl rfl (by omega) (fun hb2 => ?_) (fun hb2 => ?_)
    · refine me1 (pc' := 31) (L' := [(2, ii ((grN v : Nat) : Int)), (0, .ref 17), (1, .ref p)]) (S' := [.ref p]) dm_X3_groups_30 rfl rfl rfl rfl ?_
      refine me3 (pc' := 34) (S' := [ii (vm v : Int)]) dm_X3_groups_31 (g_get (v := ii (vm v : Int)) (hl_ne (by omega) hp) rfl rfl (by omega)) rfl rfl rfl ?_
      refine me3 (pc' := 36) (S' := [.ref h.length]) (h1 := ((h).set 18 (cI 144 P)) ++ [cJ ((vm v : Int).toNat) (fun _ => 0)]) dm_X3_groups_34 (yh_newJ (by omega) (by omega) (by omega) (by simp)) rfl rfl rfl ?_
      refine me1 (pc' := 37) (L' := [(3, .ref h.length), (2, ii ((grN v : Nat) : Int)), (0, .ref 17), (1, .ref p)]) (S' := []) dm_X3_groups_36 rfl rfl rfl rfl ?_
      refine me1 (pc' := 38) (L' := [(3, .ref h.length), (2, ii ((grN v : Nat) : Int)), (0, .ref 17), (1, .ref p)]) (S' := [ii ((grN v : Nat) : Int)]) dm_X3_groups_37 rfl rfl rfl rfl ?_
      refine me3 (pc' := 41) (S' := [.ref (h.length + 1)]) (h1 := (((h).set 18 (cI 144 P)) ++ [cJ ((vm v : Int).toNat) (fun _ => 0)]) ++ [cA 4 (grN v) (fun _ => none)]) dm_X3_groups_38 (yh_newA rfl (by omega) (by omega) (by omega) (by simp)) rfl rfl rfl ?_
      refine me1 (pc' := 43) (L' := [(4, .ref (h.length + 1)), (3, .ref h.length), (2, ii ((grN v : Nat) : Int)), (0, .ref 17), (1, .ref p)]) (S' := []) dm_X3_groups_41 rfl rfl rfl rfl ?_
      refine me0 (pc' := 44) (S' := [ii 0]) dm_X3_groups_43 rfl rfl rfl rfl ?_
      refine me1 (pc' := 46) (L' := [(5, ii 0), (4, .ref (h.length + 1)), (3, .ref h.length), (2, ii ((grN v : Nat) : Int)), (0, .ref 17), (1, .ref p)]) (S' := []) dm_X3_groups_44 rfl rfl rfl rfl ?_
      refine me0 (pc' := 47) (S' := [ii 0]) dm_X3_groups_46 rfl rfl rfl rfl ?_
      refine me1 (pc' := 49) (L' := [(6, ii 0), (5, ii 0), (4, .ref (h.length + 1)), (3, .ref h.length), (2, ii ((grN v : Nat) : Int)), (0, .ref 17), (1, .ref p)]) (S' := []) dm_X3_groups_47 rfl rfl rfl rfl ?_
      have lp49 : ∀ (n49 : Nat) (t : Nat) (hh : mj_H) (G : Nat → Int64) (V : Nat → Option Nat), grN v - t = n49 → (t ≤ grN v) → (gfl v (h.set 18 (cI 144 P)) h.length hh G V t) → (∀ j, j < t → ∀ k, k < grC v j → G (sumN j (grC v) + k) = Int64.ofInt (((flt (grF v j) (vm v)).2 k : Nat) : Int)) → pgE xt (d - 1) 3 9 false (Option.some (Jvm.ClassFile.FieldType.object "ArrayCalculator$Value")) (mj_dec prog_5_method_9_code) 49 [(0, .ref 17), (1, .ref p), (2, ii ((grN v : Nat) : Int)), (3, .ref h.length), (4, .ref (h.length + 1)), (5, ii ((sumN t (grC v) : Nat) : Int)), (6, ii ((t : Nat) : Int))] [] hh (fun r h' => ∃ x, r = some x ∧ aact A h (e + 2) (m_grp v) (grN v + 3) (vm v + 10 * grN v + 9) x h') := by
        intro n49
        induction n49 using Nat.strongRecOn with
        | ind n49 ih49 =>
          intro t hh G V hm49 ht hg hG
          have hlh := gfl_len hg
          refine me1 (pc' := 51) (L' := [(0, .ref 17), (1, .ref p), (2, ii ((grN v : Nat) : Int)), (3, .ref h.length), (4, .ref (h.length + 1)), (5, ii ((sumN t (grC v) : Nat) : Int)), (6, ii ((t : Nat) : Int))]) (S' := [ii ((t : Nat) : Int)]) dm_X3_groups_49 rfl rfl rfl rfl ?_
          refine me1 (pc' := 52) (L' := [(0, .ref 17), (1, .ref p), (2, ii ((grN v : Nat) : Int)), (3, .ref h.length), (4, .ref (h.length + 1)), (5, ii ((sumN t (grC v) : Nat) : Int)), (6, ii ((t : Nat) : Int))]) (S' := [ii ((grN v : Nat) : Int), ii ((t : Nat) : Int)]) dm_X3_groups_51 rfl rfl rfl rfl ?_
          refine y_2ge (a := ((t : Nat) : Int)) (b := ((grN v : Nat) : Int)) (t := 131) (pc' := 55) dm_X3_groups_52 rfl rfl (by omega) (fun hb3 => ?_) (fun hb3 => ?_)
          · refine me1 (pc' := 133) (L' := [(0, .ref 17), (1, .ref p), (2, ii ((grN v : Nat) : Int)), (3, .ref h.length), (4, .ref (h.length + 1)), (5, ii ((sumN t (grC v) : Nat) : Int)), (6, ii ((t : Nat) : Int))]) (S' := [.ref (h.length + 1)]) dm_X3_groups_131 rfl rfl rfl rfl ?_
            have htn : t = grN v := by omega
            rw [htn] at hg hG
            have hS : sumN (grN v) (fun k => vsz (e + 1) (grV v k)) ≤ 29999 := by have h9 := sumN_bd (n := grN v) (b := 121) (f := fun k => vsz (e + 1) (grV v k)) (fun k hk => by rw [vq_sz (by show 2 ≤ 4; omega) (by show 4 ≤ 6; omega), show vq (grV v k) = grC v k from vq_row (by omega)]; have := gr_le (v := v) (t := k) (i := vm v) hk (Nat.le_refl _); have h8 : grC v k = (flt (grF v k) (vm v)).1 := rfl; omega); have := Nat.mul_le_mul_right 121 (show grN v ≤ 24 by omega); omega
            have hAh : okA (newA A (h.set 18 (cI 144 P)) hh) hh := okA_new hA1 (by rw [List.length_set]; exact hl) (by rw [List.length_set]; omega)
            refine x_cv (pc' := 136) (rest := []) dm_X3_groups_133 rfl (g_invs (As := [.ref (h.length + 1)]) (S := []) rfl rfl rfl) rfl rfl rfl (c_nest (A := newA A (h.set 18 (cI 144 P)) hh) (e := e + 1) (n := grN v) (g := V) (ch := grV v) (q := hh.length) (by omega) (by omega) rfl (fun z => by have z1 := hAh _ z; omega) (gfl_arr hg) (by omega) (by omega) (by omega) hS (gfl_kid hg hl hvm (Nat.le_refl _) hG)) ?_
            rintro _ _ ⟨rfl, rfl⟩
            refine y_ret (r := some (.ref hh.length)) dm_X3_groups_136 rfl rfl rfl ?_
            refine ⟨_, rfl, (h.set 18 (cI 144 P)), hs1, actH_18 hH _, ?_⟩
            rw [show m_grp v = .inr (vnest (grN v) (grV v)) by unfold m_grp; rw [if_neg (by omega), if_neg (by omega)]]
            exact gfl_end hg hl hvm (by omega) he hG hS (by omega) (by omega)
          · refine me1 (pc' := 57) (L' := [(0, .ref 17), (1, .ref p), (2, ii ((grN v : Nat) : Int)), (3, .ref h.length), (4, .ref (h.length + 1)), (5, ii ((sumN t (grC v) : Nat) : Int)), (6, ii ((t : Nat) : Int))]) (S' := [ii ((sumN t (grC v) : Nat) : Int)]) dm_X3_groups_55 rfl rfl rfl rfl ?_
            refine me1 (pc' := 59) (L' := [(7, ii ((sumN t (grC v) : Nat) : Int)), (0, .ref 17), (1, .ref p), (2, ii ((grN v : Nat) : Int)), (3, .ref h.length), (4, .ref (h.length + 1)), (5, ii ((sumN t (grC v) : Nat) : Int)), (6, ii ((t : Nat) : Int))]) (S' := []) dm_X3_groups_57 rfl rfl rfl rfl ?_
            refine me0 (pc' := 60) (S' := [ii 0]) dm_X3_groups_59 rfl rfl rfl rfl ?_
            refine me1 (pc' := 62) (L' := [(8, ii 0), (7, ii ((sumN t (grC v) : Nat) : Int)), (0, .ref 17), (1, .ref p), (2, ii ((grN v : Nat) : Int)), (3, .ref h.length), (4, .ref (h.length + 1)), (5, ii ((sumN t (grC v) : Nat) : Int)), (6, ii ((t : Nat) : Int))]) (S' := []) dm_X3_groups_60 rfl rfl rfl rfl ?_
            have lp62 : ∀ (n62 : Nat) (i : Nat) (F : Nat → Int64), vm v - i = n62 → (i ≤ vm v) → (∀ j, j < t → ∀ k, k < grC v j → F (sumN j (grC v) + k) = Int64.ofInt (((flt (grF v j) (vm v)).2 k : Nat) : Int)) → (∀ k, k < (flt (grF v t) i).1 → F (sumN t (grC v) + k) = Int64.ofInt (((flt (grF v t) i).2 k : Nat) : Int)) → pgE xt (d - 1) 3 9 false (Option.some (Jvm.ClassFile.FieldType.object "ArrayCalculator$Value")) (mj_dec prog_5_method_9_code) 62 [(0, .ref 17), (1, .ref p), (2, ii ((grN v : Nat) : Int)), (3, .ref h.length), (4, .ref (h.length + 1)), (5, ii ((sumN t (grC v) + (flt (grF v t) i).1 : Nat) : Int)), (6, ii ((t : Nat) : Int)), (7, ii ((sumN t (grC v) : Nat) : Int)), (8, ii ((i : Nat) : Int))] [] ((hh).set h.length (cJ (vm v) F)) (fun r h' => ∃ x, r = some x ∧ aact A h (e + 2) (m_grp v) (grN v + 3) (vm v + 10 * grN v + 9) x h') := by
              intro n62
              induction n62 using Nat.strongRecOn with
              | ind n62 ih62 =>
                intro i F hm62 hi hF1 hF2
                refine me1 (pc' := 64) (L' := [(0, .ref 17), (1, .ref p), (2, ii ((grN v : Nat) : Int)), (3, .ref h.length), (4, .ref (h.length + 1)), (5, ii ((sumN t (grC v) + (flt (grF v t) i).1 : Nat) : Int)), (6, ii ((t : Nat) : Int)), (7, ii ((sumN t (grC v) : Nat) : Int)), (8, ii ((i : Nat) : Int))]) (S' := [ii ((i : Nat) : Int)]) dm_X3_groups_62 rfl rfl rfl rfl ?_
                refine me1 (pc' := 65) (L' := [(0, .ref 17), (1, .ref p), (2, ii ((grN v : Nat) : Int)), (3, .ref h.length), (4, .ref (h.length + 1)), (5, ii ((sumN t (grC v) + (flt (grF v t) i).1 : Nat) : Int)), (6, ii ((t : Nat) : Int)), (7, ii ((sumN t (grC v) : Nat) : Int)), (8, ii ((i : Nat) : Int))]) (S' := [.ref p, ii ((i : Nat) : Int)]) dm_X3_groups_64 rfl rfl rfl rfl ?_
                refine me3 (pc' := 68) (S' := [ii (vm v : Int), ii ((i : Nat) : Int)]) dm_X3_groups_65 (g_get (v := ii (vm v : Int)) (hl_ne (by omega) (gfl_get hg (hl_ne (by omega) hp))) rfl rfl (by omega)) rfl rfl rfl ?_
                refine y_2ge (a := ((i : Nat) : Int)) (b := (vm v : Int)) (t := 108) (pc' := 71) dm_X3_groups_68 rfl rfl (by omega) (fun hb4 => ?_) (fun hb4 => ?_)
                · have him : i = vm v := by omega
                  have hle9 := gr_le (v := v) (t := t) (i := i) (by omega) (by omega)
                  have hcc : (flt (grF v t) i).1 = grC v t := by rw [him]; rfl
                  refine me1 (pc' := 110) (L' := [(0, .ref 17), (1, .ref p), (2, ii ((grN v : Nat) : Int)), (3, .ref h.length), (4, .ref (h.length + 1)), (5, ii ((sumN t (grC v) + (flt (grF v t) i).1 : Nat) : Int)), (6, ii ((t : Nat) : Int)), (7, ii ((sumN t (grC v) : Nat) : Int)), (8, ii ((i : Nat) : Int))]) (S' := [.ref (h.length + 1)]) dm_X3_groups_108 rfl rfl rfl rfl ?_
                  refine me1 (pc' := 112) (L' := [(0, .ref 17), (1, .ref p), (2, ii ((grN v : Nat) : Int)), (3, .ref h.length), (4, .ref (h.length + 1)), (5, ii ((sumN t (grC v) + (flt (grF v t) i).1 : Nat) : Int)), (6, ii ((t : Nat) : Int)), (7, ii ((sumN t (grC v) : Nat) : Int)), (8, ii ((i : Nat) : Int))]) (S' := [ii ((t : Nat) : Int), .ref (h.length + 1)]) dm_X3_groups_110 rfl rfl rfl rfl ?_
                  refine me0 (pc' := 113) (S' := [ii 4, ii ((t : Nat) : Int), .ref (h.length + 1)]) dm_X3_groups_112 rfl rfl rfl rfl ?_
                  refine me1 (pc' := 114) (L' := [(0, .ref 17), (1, .ref p), (2, ii ((grN v : Nat) : Int)), (3, .ref h.length), (4, .ref (h.length + 1)), (5, ii ((sumN t (grC v) + (flt (grF v t) i).1 : Nat) : Int)), (6, ii ((t : Nat) : Int)), (7, ii ((sumN t (grC v) : Nat) : Int)), (8, ii ((i : Nat) : Int))]) (S' := [.ref h.length, ii 4, ii ((t : Nat) : Int), .ref (h.length + 1)]) dm_X3_groups_113 rfl rfl rfl rfl ?_
                  refine me1 (pc' := 116) (L' := [(0, .ref 17), (1, .ref p), (2, ii ((grN v : Nat) : Int)), (3, .ref h.length), (4, .ref (h.length + 1)), (5, ii ((sumN t (grC v) + (flt (grF v t) i).1 : Nat) : Int)), (6, ii ((t : Nat) : Int)), (7, ii ((sumN t (grC v) : Nat) : Int)), (8, ii ((i : Nat) : Int))]) (S' := [ii ((sumN t (grC v) : Nat) : Int), .ref h.length, ii 4, ii ((t : Nat) : Int), .ref (h.length + 1)]) dm_X3_groups_114 rfl rfl rfl rfl ?_
                  refine me1 (pc' := 118) (L' := [(0, .ref 17), (1, .ref p), (2, ii ((grN v : Nat) : Int)), (3, .ref h.length), (4, .ref (h.length + 1)), (5, ii ((sumN t (grC v) + (flt (grF v t) i).1 : Nat) : Int)), (6, ii ((t : Nat) : Int)), (7, ii ((sumN t (grC v) : Nat) : Int)), (8, ii ((i : Nat) : Int))]) (S' := [ii ((sumN t (grC v) + (flt (grF v t) i).1 : Nat) : Int), ii ((sumN t (grC v) : Nat) : Int), .ref h.length, ii 4, ii ((t : Nat) : Int), .ref (h.length + 1)]) dm_X3_groups_116 rfl rfl rfl rfl ?_
                  refine me1 (pc' := 120) (L' := [(0, .ref 17), (1, .ref p), (2, ii ((grN v : Nat) : Int)), (3, .ref h.length), (4, .ref (h.length + 1)), (5, ii ((sumN t (grC v) + (flt (grF v t) i).1 : Nat) : Int)), (6, ii ((t : Nat) : Int)), (7, ii ((sumN t (grC v) : Nat) : Int)), (8, ii ((i : Nat) : Int))]) (S' := [ii ((sumN t (grC v) : Nat) : Int), ii ((sumN t (grC v) + (flt (grF v t) i).1 : Nat) : Int), ii ((sumN t (grC v) : Nat) : Int), .ref h.length, ii 4, ii ((t : Nat) : Int), .ref (h.length + 1)]) dm_X3_groups_118 rfl rfl rfl rfl ?_
                  refine y_isub (a := ((sumN t (grC v) + (flt (grF v t) i).1 : Nat) : Int)) (b := ((sumN t (grC v) : Nat) : Int)) dm_X3_groups_120 (pc' := 121) rfl ?_
                  refine pg_st0 (S' := [ii ((grC v t : Nat) : Int), ii ((sumN t (grC v) : Nat) : Int), .ref h.length, ii 4, ii ((t : Nat) : Int), .ref (h.length + 1)]) (congrArg (fun z => ii z :: [ii ((sumN t (grC v) : Nat) : Int), .ref h.length, ii 4, ii ((t : Nat) : Int), .ref (h.length + 1)]) (by rw [← hcc]; push_cast; omega)) ?_
                  refine x_cv (pc' := 124) (rest := [ii ((t : Nat) : Int), .ref (h.length + 1)]) dm_X3_groups_121 rfl (g_invs (As := [ii 4, .ref h.length, ii ((sumN t (grC v) : Nat) : Int), ii ((grC v t : Nat) : Int)]) (S := [ii ((t : Nat) : Int), .ref (h.length + 1)]) rfl rfl rfl) rfl rfl rfl (c_rowAt (q := hh.length) (by omega) (by simp; omega) (by simp) (by omega) (by omega) (by omega)) ?_
                  rintro _ _ ⟨rfl, rfl⟩
                  refine me3 (pc' := 125) (S' := []) (h1 := (((hh).set h.length (cJ (vm v) F)) ++ [cO 10 [ii 4, .long 0, .ref h.length, .null, ii ((sumN t (grC v) : Nat) : Int), ii ((grC v t : Nat) : Int), ii 0, ii (csz 4 ((grC v t : Nat) : Int) 0), ii (clv 4)]]).set (h.length + 1) (cA 4 (grN v) (va_up V t (some hh.length)))) dm_X3_groups_124 (yh_aasr (j := ((t : Nat) : Int)) rfl (hl_app (hl_ne (by omega) (gfl_arr hg))) (hl_newa (by simp)) (by omega) (by omega) (by omega) (by omega) (by omega)) rfl rfl rfl ?_
                  rw [show ((sumN t (grC v) + (flt (grF v t) i).1 : Nat) : Int) = ((sumN (t + 1) (grC v) : Nat) : Int) by rw [hcc]; rfl]
                  refine y_iinc (pc' := 128) (L' := [(6, ii (((t : Nat) : Int) + 1)), (0, .ref 17), (1, .ref p), (2, ii ((grN v : Nat) : Int)), (3, .ref h.length), (4, .ref (h.length + 1)), (5, ii ((sumN (t + 1) (grC v) : Nat) : Int)), (7, ii ((sumN t (grC v) : Nat) : Int)), (8, ii ((i : Nat) : Int))]) dm_X3_groups_125 (y_incp (a := ((t : Nat) : Int)) (c := 1) rfl rfl (by decide)) rfl ?_
                  refine me2 (pc' := 49) (S' := []) dm_X3_groups_128 rfl rfl rfl ?_
                  exact pg_sub (L := [(0, .ref 17), (1, .ref p), (2, ii ((grN v : Nat) : Int)), (3, .ref h.length), (4, .ref (h.length + 1)), (5, ii ((sumN (t + 1) (grC v) : Nat) : Int)), (6, ii (((t + 1) : Nat) : Int))]) rfl rfl rfl (ih49 (grN v - (t + 1)) (by omega) (t + 1) ((((hh).set h.length (cJ (vm v) F)) ++ [cO 10 [ii 4, .long 0, .ref h.length, .null, ii ((sumN t (grC v) : Nat) : Int), ii ((grC v t : Nat) : Int), ii 0, ii (csz 4 ((grC v t : Nat) : Int) 0), ii (clv 4)]]).set (h.length + 1) (cA 4 (grN v) (va_up V t (some hh.length)))) F (va_up V t (some hh.length)) rfl (by omega) (gfl_s hg) (fun j hj k hk => by by_cases z : j = t; (subst z; exact him ▸ hF2 k (by rw [him]; exact hk)); exact hF1 j (by omega) k hk))
                · have hot := hul t (by omega)
                  have hPt := hP t (by omega)
                  have hv9 : cv (A) (hh.set h.length (cJ (vm v) F)) (e + 1) p v := cv_keep (fun x c hx hg0 => ⟨hx, hl_ne (fun z => by have := hA x hx; omega) (gfl_get hg (hl_ne (fun z => nA hA (Or.inl (by decide)) (z ▸ hx)) hg0))⟩) hv
                  refine me1 (pc' := 72) (L' := [(0, .ref 17), (1, .ref p), (2, ii ((grN v : Nat) : Int)), (3, .ref h.length), (4, .ref (h.length + 1)), (5, ii ((sumN t (grC v) + (flt (grF v t) i).1 : Nat) : Int)), (6, ii ((t : Nat) : Int)), (7, ii ((sumN t (grC v) : Nat) : Int)), (8, ii ((i : Nat) : Int))]) (S' := [.ref p]) dm_X3_groups_71 rfl rfl rfl rfl ?_
                  refine me1 (pc' := 74) (L' := [(0, .ref 17), (1, .ref p), (2, ii ((grN v : Nat) : Int)), (3, .ref h.length), (4, .ref (h.length + 1)), (5, ii ((sumN t (grC v) + (flt (grF v t) i).1 : Nat) : Int)), (6, ii ((t : Nat) : Int)), (7, ii ((sumN t (grC v) : Nat) : Int)), (8, ii ((i : Nat) : Int))]) (S' := [ii ((i : Nat) : Int), .ref p]) dm_X3_groups_72 rfl rfl rfl rfl ?_
                  refine x_cp (pc' := 77) (v := .long (vn v (i))) (rest := []) dm_X3_groups_74 rfl (g_inv (As := [ii ((i : Nat) : Int)]) (S := []) (hl_ne (by omega) (gfl_get hg (hl_ne (by omega) hp))) rfl rfl rfl (by omega)) rfl rfl rfl ((show pgP xt (d - 1) _ _ _ (.long (vn v (i))) from vnum_q (v := v) (k := i) hv.1 (by omega) (by omega) ▸ c_numberAt (i := ((i : Nat) : Int)) hx1 (by omega) hv9 (by omega))) ?_
                  refine me1 (pc' := 78) (L' := [(0, .ref 17), (1, .ref p), (2, ii ((grN v : Nat) : Int)), (3, .ref h.length), (4, .ref (h.length + 1)), (5, ii ((sumN t (grC v) + (flt (grF v t) i).1 : Nat) : Int)), (6, ii ((t : Nat) : Int)), (7, ii ((sumN t (grC v) : Nat) : Int)), (8, ii ((i : Nat) : Int))]) (S' := [.ref p, .long (vn v (i))]) dm_X3_groups_77 rfl rfl rfl rfl ?_
                  refine me1 (pc' := 79) (L' := [(0, .ref 17), (1, .ref p), (2, ii ((grN v : Nat) : Int)), (3, .ref h.length), (4, .ref (h.length + 1)), (5, ii ((sumN t (grC v) + (flt (grF v t) i).1 : Nat) : Int)), (6, ii ((t : Nat) : Int)), (7, ii ((sumN t (grC v) : Nat) : Int)), (8, ii ((i : Nat) : Int))]) (S' := [.ref 17, .ref p, .long (vn v (i))]) dm_X3_groups_78 rfl rfl rfl rfl ?_
                  refine me3 (pc' := 82) (S' := [.ref 18, .ref p, .long (vn v (i))]) dm_X3_groups_79 (g_get (v := .ref 18) (hl_ne (by omega) (gfl_get hg (hl_ne (by decide) h17))) rfl rfl (by decide)) rfl rfl rfl ?_
                  refine me1 (pc' := 84) (L' := [(0, .ref 17), (1, .ref p), (2, ii ((grN v : Nat) : Int)), (3, .ref h.length), (4, .ref (h.length + 1)), (5, ii ((sumN t (grC v) + (flt (grF v t) i).1 : Nat) : Int)), (6, ii ((t : Nat) : Int)), (7, ii ((sumN t (grC v) : Nat) : Int)), (8, ii ((i : Nat) : Int))]) (S' := [ii ((t : Nat) : Int), .ref 18, .ref p, .long (vn v (i))]) dm_X3_groups_82 rfl rfl rfl rfl ?_
                  refine me3 (pc' := 85) (S' := [ii (P t), .ref p, .long (vn v (i))]) dm_X3_groups_84 (yh_iald (v := P t) (hl_ne (by omega) (gfl_get hg (hl_set (hl_lt h18)))) (by omega) (by omega) (by omega) (by decide) rfl) rfl rfl rfl ?_
                  refine pg_st0 (S' := [ii ((grO v t : Nat) : Int), .ref p, .long (vn v (i))]) (congrArg (fun z => ii z :: [.ref p, .long (vn v (i))]) (hPt)) ?_
                  refine x_cp (pc' := 88) (v := .long (vn v (grO v t))) (rest := [.long (vn v (i))]) dm_X3_groups_85 rfl (g_inv (As := [ii ((grO v t : Nat) : Int)]) (S := [.long (vn v (i))]) (hl_ne (by omega) (gfl_get hg (hl_ne (by omega) hp))) rfl rfl rfl (by omega)) rfl rfl rfl ((show pgP xt (d - 1) _ _ _ (.long (vn v (grO v t))) from vnum_q (v := v) (k := grO v t) hv.1 (by omega) (by omega) ▸ c_numberAt (i := ((grO v t : Nat) : Int)) hx1 (by omega) hv9 (by omega))) ?_
                  refine y_lne (x := vn v (i)) (y := vn v (grO v t)) (t := 102) (pc1 := 89) (pc' := 92) dm_X3_groups_88 rfl dm_X3_groups_89 rfl rfl (fun hb5 => ?_) (fun hb5 => ?_)
                  · have hf : grF v t i = false := decide_eq_false hb5
                    rw [show ((sumN t (grC v) + (flt (grF v t) i).1 : Nat) : Int) = ((sumN t (grC v) + (flt (grF v t) (i + 1)).1 : Nat) : Int) by rw [flt_n hf]]
                    refine y_iinc (pc' := 105) (L' := [(8, ii (((i : Nat) : Int) + 1)), (0, .ref 17), (1, .ref p), (2, ii ((grN v : Nat) : Int)), (3, .ref h.length), (4, .ref (h.length + 1)), (5, ii ((sumN t (grC v) + (flt (grF v t) (i + 1)).1 : Nat) : Int)), (6, ii ((t : Nat) : Int)), (7, ii ((sumN t (grC v) : Nat) : Int))]) dm_X3_groups_102 (y_incp (a := ((i : Nat) : Int)) (c := 1) rfl rfl (by decide)) rfl ?_
                    refine me2 (pc' := 62) (S' := []) dm_X3_groups_105 rfl rfl rfl ?_
                    exact pg_sub (L := [(0, .ref 17), (1, .ref p), (2, ii ((grN v : Nat) : Int)), (3, .ref h.length), (4, .ref (h.length + 1)), (5, ii ((sumN t (grC v) + (flt (grF v t) (i + 1)).1 : Nat) : Int)), (6, ii ((t : Nat) : Int)), (7, ii ((sumN t (grC v) : Nat) : Int)), (8, ii (((i + 1) : Nat) : Int))]) rfl rfl rfl (ih62 (vm v - (i + 1)) (by omega) (i + 1) F rfl (by omega) hF1 (by rw [flt_n hf]; exact hF2))
                  · have hf : grF v t i = true := decide_eq_true hb5
                    have hbd := gr_bd (v := v) (t := t) (i := i) (by omega) (by omega) hf
                    refine me1 (pc' := 93) (L' := [(0, .ref 17), (1, .ref p), (2, ii ((grN v : Nat) : Int)), (3, .ref h.length), (4, .ref (h.length + 1)), (5, ii ((sumN t (grC v) + (flt (grF v t) i).1 : Nat) : Int)), (6, ii ((t : Nat) : Int)), (7, ii ((sumN t (grC v) : Nat) : Int)), (8, ii ((i : Nat) : Int))]) (S' := [.ref h.length]) dm_X3_groups_92 rfl rfl rfl rfl ?_
                    refine me1 (pc' := 95) (L' := [(0, .ref 17), (1, .ref p), (2, ii ((grN v : Nat) : Int)), (3, .ref h.length), (4, .ref (h.length + 1)), (5, ii ((sumN t (grC v) + (flt (grF v t) i).1 : Nat) : Int)), (6, ii ((t : Nat) : Int)), (7, ii ((sumN t (grC v) : Nat) : Int)), (8, ii ((i : Nat) : Int))]) (S' := [ii ((sumN t (grC v) + (flt (grF v t) i).1 : Nat) : Int), .ref h.length]) dm_X3_groups_93 rfl rfl rfl rfl ?_
                    refine me1 (pc' := 97) (L' := [(0, .ref 17), (1, .ref p), (2, ii ((grN v : Nat) : Int)), (3, .ref h.length), (4, .ref (h.length + 1)), (5, ii ((sumN t (grC v) + (flt (grF v t) i).1 : Nat) : Int)), (6, ii ((t : Nat) : Int)), (7, ii ((sumN t (grC v) : Nat) : Int)), (8, ii ((i : Nat) : Int))]) (S' := [ii ((i : Nat) : Int), ii ((sumN t (grC v) + (flt (grF v t) i).1 : Nat) : Int), .ref h.length]) dm_X3_groups_95 rfl rfl rfl rfl ?_
                    refine y_i2l (a := ((i : Nat) : Int)) dm_X3_groups_97 (pc' := 98) rfl (by omega) (by omega) ?_
                    refine me3 (pc' := 99) (S' := []) (h1 := (hh).set h.length (cJ (vm v) (va_up F (sumN t (grC v) + (flt (grF v t) i).1) (Int64.ofInt ((i : Nat) : Int))))) dm_X3_groups_98 (y_hs (yh_last (j := ((sumN t (grC v) + (flt (grF v t) i).1 : Nat) : Int)) (hl_set (hl_lt (gfl_row hg))) (by omega) (by omega) (by omega) (by omega)) (by rw [show ((sumN t (grC v) + (flt (grF v t) i).1 : Nat) : Int).toNat = sumN t (grC v) + (flt (grF v t) i).1 from rfl]; rw [List.set_set])) rfl rfl rfl ?_
                    refine y_iinc (pc' := 102) (L' := [(5, ii (((sumN t (grC v) + (flt (grF v t) i).1 : Nat) : Int) + 1)), (0, .ref 17), (1, .ref p), (2, ii ((grN v : Nat) : Int)), (3, .ref h.length), (4, .ref (h.length + 1)), (6, ii ((t : Nat) : Int)), (7, ii ((sumN t (grC v) : Nat) : Int)), (8, ii ((i : Nat) : Int))]) dm_X3_groups_99 (y_incp (a := ((sumN t (grC v) + (flt (grF v t) i).1 : Nat) : Int)) (c := 1) rfl rfl (by decide)) rfl ?_
                    rw [show ((sumN t (grC v) + (flt (grF v t) i).1 : Nat) : Int) + 1 = ((sumN t (grC v) + (flt (grF v t) (i + 1)).1 : Nat) : Int) by rw [flt_s hf]; push_cast; omega]
                    refine y_iinc (pc' := 105) (L' := [(8, ii (((i : Nat) : Int) + 1)), (5, ii ((sumN t (grC v) + (flt (grF v t) (i + 1)).1 : Nat) : Int)), (0, .ref 17), (1, .ref p), (2, ii ((grN v : Nat) : Int)), (3, .ref h.length), (4, .ref (h.length + 1)), (6, ii ((t : Nat) : Int)), (7, ii ((sumN t (grC v) : Nat) : Int))]) dm_X3_groups_102 (y_incp (a := ((i : Nat) : Int)) (c := 1) rfl rfl (by decide)) rfl ?_
                    refine me2 (pc' := 62) (S' := []) dm_X3_groups_105 rfl rfl rfl ?_
                    exact pg_sub (L := [(0, .ref 17), (1, .ref p), (2, ii ((grN v : Nat) : Int)), (3, .ref h.length), (4, .ref (h.length + 1)), (5, ii ((sumN t (grC v) + (flt (grF v t) (i + 1)).1 : Nat) : Int)), (6, ii ((t : Nat) : Int)), (7, ii ((sumN t (grC v) : Nat) : Int)), (8, ii (((i + 1) : Nat) : Int))]) rfl rfl rfl (ih62 (vm v - (i + 1)) (by omega) (i + 1) (va_up F (sumN t (grC v) + (flt (grF v t) i).1) (Int64.ofInt (i : Int))) rfl (by omega) (fun j hj k hk => by rw [up_ne _ _ (by have := sumN_seg (f := grC v) hj hk; omega)]; exact hF1 j hj k hk) (fun k hk => by rw [flt_s hf] at hk ⊢; have hk2 : k < (flt (grF v t) i).1 + 1 := hk; show _ = Int64.ofInt ((va_up (flt (grF v t) i).2 (flt (grF v t) i).1 i k : Nat) : Int); rw [up_at, up_at]; by_cases z : k = (flt (grF v t) i).1; (rw [if_pos z, if_pos (by omega)]); (rw [if_neg z, if_neg (by omega)]; exact hF2 k (by omega))))
            refine pg_cast (h2 := (hh).set h.length (cJ (vm v) G)) (hl_self (gfl_row hg)).symm ?_
            exact pg_sub (L := [(0, .ref 17), (1, .ref p), (2, ii ((grN v : Nat) : Int)), (3, .ref h.length), (4, .ref (h.length + 1)), (5, ii ((sumN t (grC v) + (flt (grF v t) 0).1 : Nat) : Int)), (6, ii ((t : Nat) : Int)), (7, ii ((sumN t (grC v) : Nat) : Int)), (8, ii ((0 : Nat) : Int))]) rfl rfl rfl (lp62 _ 0 G rfl (Nat.zero_le _) hG (fun k hk => absurd hk (Nat.not_lt_zero k)))
      exact pg_sub (L := [(0, .ref 17), (1, .ref p), (2, ii ((grN v : Nat) : Int)), (3, .ref h.length), (4, .ref (h.length + 1)), (5, ii ((sumN 0 (grC v) : Nat) : Int)), (6, ii ((0 : Nat) : Int))]) rfl rfl rfl (lp49 _ 0 ((((h).set 18 (cI 144 P)) ++ [cJ ((vm v : Int).toNat) (fun _ => 0)]) ++ [cA 4 (grN v) (fun _ => none)]) (fun _ => 0) (fun _ => none) rfl (Nat.zero_le _) (gfl_0 (by simp)) (fun j hj => absurd hj (Nat.not_lt_zero j)))
    · refine me0 (pc' := 26) (S' := [ii 8]) dm_X3_groups_24 rfl rfl rfl rfl ?_
      refine x_cv (pc' := 29) (rest := []) dm_X3_groups_26 rfl (g_invs (As := [ii 8]) (S := []) rfl rfl rfl) rfl rfl rfl (c_fault (q := h.length) (by omega) (by simp; omega) (by simp) (by omega)) ?_
      rintro _ _ ⟨rfl, rfl⟩
      refine y_ret (r := some (.ref h.length)) dm_X3_groups_29 rfl rfl rfl ?_
      refine ⟨_, rfl, (h.set 18 (cI 144 P)), hs1, actH_18 hH _, ?_⟩
      rw [show m_grp v = .inl 8 by unfold m_grp; rw [if_neg (by omega), if_pos (by omega)]]
      exact ares_fq 8 hs1.1 (by rw [hs1.1]; omega) (by omega) (by omega)
  · replace hb1 := dF hb1
    refine me0 (pc' := 8) (S' := [ii 3]) dm_X3_groups_7 rfl rfl rfl rfl ?_
    refine x_cv (pc' := 11) (rest := []) dm_X3_groups_8 rfl (g_invs (As := [ii 3]) (S := []) rfl rfl rfl) rfl rfl rfl (c_fault (q := h.length) (by omega) (by omega) rfl (by omega)) ?_
    rintro _ _ ⟨rfl, rfl⟩
    refine y_ret (r := some (.ref h.length)) dm_X3_groups_11 rfl rfl rfl ?_
    exact ⟨_, rfl, h, scrS_rf h, hH, by rw [show m_grp v = .inl 3 by unfold m_grp; rw [if_pos (by omega)]]; exact ares_f 3 (by omega) (by omega) (by omega)⟩
