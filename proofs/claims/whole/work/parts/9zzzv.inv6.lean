/-! WORK only falls -/
theorem dTk_W {cp : Option Int} {W n : Nat} {pl : Int} {K : Nat → DR} (h : ∀ W', W' ≤ W → (K W').1 ≤ W) : (dTk cp W n pl K).1 ≤ W := by
  unfold dTk
  by_cases z : W < n
  · rw [if_pos z]; exact Nat.le_refl _
  · rw [if_neg z]; exact h _ (Nat.sub_le _ _)
theorem dMk_W {cp : Option Int} {W p : Nat} {v : VV} {pl : Int} : (dMk cp W p v pl).1 ≤ W := by
  unfold dMk
  by_cases z : 1000 < vS v ∨ 5 < vL v
  · rw [if_pos z]; exact Nat.le_refl _
  · rw [if_neg z]; exact dTk_W (fun W' h => h)
theorem dAc_W {cp : Option Int} {W c : Nat} {o : Nat ⊕ VV} {pl : Int} : (dAc cp W c o pl).1 ≤ W := by
  unfold dAc
  refine dTk_W (fun W' h => ?_)
  rcases o with e | v
  · exact h
  · exact Nat.le_trans dMk_W h
theorem dGa_W {cp : Option Int} {W n : Nat} {ch : Nat → VV} {pl : Int} : (dGa cp W n ch pl).1 ≤ W := by
  unfold dGa
  rcases gaV n ch with e | v
  · exact Nat.le_refl _
  · exact dMk_W
theorem dB_W {r : DR} {W : Nat} {K : Nat → VV → DR} (h1 : r.1 ≤ W) (h2 : ∀ W' v, W' ≤ W → (K W' v).1 ≤ W) : (dB r K).1 ≤ W := by
  obtain ⟨W1, e | v⟩ := r
  · exact h1
  · exact h2 W1 v h1
theorem dLp_W {f : Nat → Nat → DR} {K : Nat → (Nat → VV) → DR} (hf : ∀ j W, (f j W).1 ≤ W) (hK : ∀ W ch, (K W ch).1 ≤ W) : ∀ r j ch W, (dLp f K r j ch W).1 ≤ W := by
  intro r
  induction r with
  | zero => intro j ch W; exact hK W ch
  | succ r ih => intro j ch W; exact dB_W (hf j W) (fun W' v h => Nat.le_trans (ih _ _ _) h)
theorem dFo_W {f : Nat → VV → Nat → DR} {K : Nat → VV → (Nat → VV) → DR} (hf : ∀ j v W, (f j v W).1 ≤ W) (hK : ∀ W v ch, (K W v ch).1 ≤ W) : ∀ r j m v ch W, (dFo f K r j m v ch W).1 ≤ W := by
  intro r
  induction r with
  | zero => intro j m v ch W; exact hK W v ch
  | succ r ih => intro j m v ch W; exact dB_W (hf j v W) (fun W' u h => Nat.le_trans (ih _ _ _ _ _) h)
theorem dNm_W {Nv : Int → Option VV} {x y : Option VV} {cp : Option Int} {c pl : Int} {W : Nat} : (dNm Nv x y cp c pl W).1 ≤ W := by
  unfold dNm
  rcases (if c = 24 then x else if c = 25 then y else Nv c) with _ | v
  · exact Nat.le_refl _
  · exact Nat.le_refl _
section does
variable {call : CF} {T : Nat → Tok} {Nv : Int → Option VV} {x y : Option VV} {cp : Option Int}
theorem dAp_W (hc : ∀ key l w pl cp W, (call key l w pl cp W).1 ≤ W) {i : Nat} : ∀ k l w W, (dAp call T i cp k l w W).1 ≤ W := by
  intro k
  induction k with
  | zero =>
    intro l w W
    show (if tqS (T i) = 4 then call (tqD (T i)) l w (tqP (T i) : Int) cp W else (match l with
      | none => dOne cp W (tqD (T i)) w (tqP (T i) : Int)
      | some l => dTwo cp W (tqD (T i)) l w (tqP (T i) : Int) : DR)).1 ≤ W
    by_cases z : tqS (T i) = 4
    · rw [if_pos z]; exact hc _ _ _ _ _ _
    · rw [if_neg z]
      rcases l with _ | l
      · exact dAc_W
      · exact dAc_W
  | succ k ih =>
    intro l w W
    have g47 : ∀ (W : Nat) (v : VV) (n : Nat) (ch : Nat → VV), ((if tqD (T (i + 1 + k)) = 47 then (W, .inr v) else dGa cp W n ch (tqP (T i) : Int)) : DR).1 ≤ W := fun W v n ch => by
      by_cases z : tqD (T (i + 1 + k)) = 47
      · rw [if_pos z]; exact Nat.le_refl _
      · rw [if_neg z]; exact dGa_W
    refine dTk_W (fun W' h => Nat.le_trans ?_ h)
    by_cases z : tqD (T (i + 1 + k)) = 39
    · rw [if_pos z]
      rcases l with _ | l
      · exact dLp_W (fun j W => ih _ _ _) (fun W ch => dGa_W) _ _ _ _
      · show (if ¬ vk l ≤ 1 ∧ ¬ vk w ≤ 1 ∧ vm l ≠ vm w then dEr cp W' 4 (tqP (T i) : Int) else _ : DR).1 ≤ W'
        by_cases y : ¬ vk l ≤ 1 ∧ ¬ vk w ≤ 1 ∧ vm l ≠ vm w
        · rw [if_pos y]; exact Nat.le_refl _
        · rw [if_neg y]
          exact dLp_W (fun j W => ih _ _ _) (fun W ch => dGa_W) _ _ _ _
    · rw [if_neg z]
      rcases l with _ | l
      · show (if vm w = 0 then dEr cp W' 4 (tqP (T i) : Int) else _ : DR).1 ≤ W'
        by_cases y : vm w = 0
        · rw [if_pos y]; exact Nat.le_refl _
        · rw [if_neg y]
          exact dFo_W (fun j v W => ih _ _ _) (fun W v ch => g47 W v _ ch) _ _ _ _ _ _
      · exact dFo_W (fun j v W => ih _ _ _) (fun W v ch => g47 W v _ ch) _ _ _ _ _ _
theorem eE_q0 {f o i : Nat} {Bq : Nat → DR} {W : Nat} : eE call T Nv x y cp (f + 1) 0 o i Bq W = (if isDs T i then dB (eE call T Nv x y cp f 0 o (dsE T i) (fun W => (W, .inl (1, 0))) W) (fun W w => dAp call T i cp (avM T i) none w W) else
    match pR T f 1 o i with
    | .inl _ => (W, .inl (1, 0))
    | .inr j => if isDs T j then dB (eE call T Nv x y cp f 0 o (dsE T j) (fun W => (W, .inl (1, 0))) W) (fun W w => dB (eE call T Nv x y cp f 1 o i (fun W => (W, .inl (1, 0))) W) (fun W l => dAp call T j cp (avM T j) (some l) w W))
      else eE call T Nv x y cp f 1 o i (fun W => (W, .inl (1, 0))) W) := rfl
theorem eE_q1 {f o i : Nat} {Bq : Nat → DR} {W : Nat} : eE call T Nv x y cp (f + 1) 1 o i Bq W = (match pR T f 3 o i with
    | .inl _ => (W, .inl (1, 0))
    | .inr j => eE call T Nv x y cp f 2 o j (fun W => eE call T Nv x y cp f 3 o i (fun W => (W, .inl (1, 0))) W) W) := rfl
theorem eE_q2 {f o j : Nat} {Bq : Nat → DR} {W : Nat} : eE call T Nv x y cp (f + 1) 2 o j Bq W = (if isIx T j then
      match pR T f 0 (o + 1) (j + 2) with
      | .inl _ => (W, .inl (1, 0))
      | .inr k => eE call T Nv x y cp f 2 o (k + 1) (fun W => dB (eE call T Nv x y cp f 0 (o + 1) (j + 2) (fun W => (W, .inl (1, 0))) W) (fun W w => dB (Bq W) (fun W l => dTwo cp W 64 l w (tqP (T j) : Int)))) W
    else Bq W) := rfl
theorem eE_q3 {f o i : Nat} {Bq : Nat → DR} {W : Nat} : eE call T Nv x y cp (f + 1) 3 o i Bq W = (if tqS (T i) = 1 then (W, .inr (nuV T i (soN T 1 201 i))) else
    if tqS (T i) = 2 then (W, .inr (txV T i)) else
    if tqS (T i) = 3 then dNm Nv x y cp (tqD (T i)) (tqP (T i) : Int) W else
    if isMk T i 40 then (if isMk T (i + 1) 41 then dGa cp W 0 (fun _ => vnest 0 (fun _ => v1 0 0)) (tqP (T i) : Int)
      else dB (eE call T Nv x y cp f 4 (o + 1) (i + 1) (fun W => (W, .inl (1, 0))) W) (fun W r => if plN T f (o + 1) (i + 1) = 1 then (W, .inr (vd r 0)) else dGa cp W (plN T f (o + 1) (i + 1)) (vd r) (tqP (T i) : Int))) else
    match pR T f 0 (o + 1) (i + 1) with
    | .inl _ => (W, .inl (1, 0))
    | .inr j => match pR T f 0 (o + 1) (j + 1) with
      | .inl _ => (W, .inl (1, 0))
      | .inr k => dB (eE call T Nv x y cp f 0 (o + 1) (i + 1) (fun W => (W, .inl (1, 0))) W) (fun W c => if vk c ≠ 0 then dEr cp W 5 (tqP (T i) : Int) else if vn c 0 = 0 then eE call T Nv x y cp f 0 (o + 1) (k + 1) (fun W => (W, .inl (1, 0))) W else eE call T Nv x y cp f 0 (o + 1) (j + 1) (fun W => (W, .inl (1, 0))) W)) := rfl
theorem eE_q4 {f md o i : Nat} {Bq : Nat → DR} {W : Nat} : eE call T Nv x y cp (f + 1) (md + 4) o i Bq W = (match pR T f 0 o i with
    | .inl _ => (W, .inl (1, 0))
    | .inr j => if isMk T j 59 then dB (eE call T Nv x y cp f 4 o (j + 1) (fun W => (W, .inl (1, 0))) W) (fun W r => dB (eE call T Nv x y cp f 0 o i (fun W => (W, .inl (1, 0))) W) (fun W v => (W, .inr (vnest (vm r + 1) (fun k => if k = 0 then v else vd r (k - 1))))))
      else dB (eE call T Nv x y cp f 0 o i (fun W => (W, .inl (1, 0))) W) (fun W v => (W, .inr (vnest 1 (fun _ => v))))) := rfl
theorem eE_W (hc : ∀ key l w pl cp W, (call key l w pl cp W).1 ≤ W) : ∀ f md o i Bq W, (∀ W, (Bq W).1 ≤ W) → (eE call T Nv x y cp f md o i Bq W).1 ≤ W := by
  have z0 : ∀ W : Nat, ((fun W => (W, .inl (1, 0)) : Nat → DR) W).1 ≤ W := fun W => Nat.le_refl _
  intro f
  induction f with
  | zero => intro md o i Bq W hB; rcases md with _ | _ | _ | _ | md <;> exact Nat.le_refl _
  | succ f ih =>
    intro md o i Bq W hB
    have up : ∀ {W' : Nat} (md o i : Nat), W' ≤ W → (eE call T Nv x y cp f md o i (fun W => (W, .inl (1, 0))) W').1 ≤ W := fun md o i h => Nat.le_trans (ih md o i _ _ z0) h
    rcases md with _ | _ | _ | _ | md
    · rw [eE_q0]
      by_cases z : isDs T i
      · rw [if_pos z]
        exact dB_W (ih _ _ _ _ _ z0) (fun W' v h => Nat.le_trans (dAp_W hc _ _ _ _) h)
      · rw [if_neg z]
        rcases e : pR T f 1 o i with p | j
        · exact Nat.le_refl _
        · show (if isDs T j then dB (eE call T Nv x y cp f 0 o (dsE T j) (fun W => (W, .inl (1, 0))) W) (fun W w => dB (eE call T Nv x y cp f 1 o i (fun W => (W, .inl (1, 0))) W) (fun W l => dAp call T j cp (avM T j) (some l) w W)) else eE call T Nv x y cp f 1 o i (fun W => (W, .inl (1, 0))) W : DR).1 ≤ W
          by_cases y : isDs T j
          · rw [if_pos y]
            exact dB_W (ih _ _ _ _ _ z0) (fun W' v h => Nat.le_trans (dB_W (ih _ _ _ _ _ z0) (fun W'' v h => Nat.le_trans (dAp_W hc _ _ _ _) h)) h)
          · rw [if_neg y]; exact ih _ _ _ _ _ z0
    · rw [show (0 + 1 : Nat) = 1 from rfl, eE_q1]
      rcases e : pR T f 3 o i with p | j
      · exact Nat.le_refl _
      · exact ih _ _ _ _ _ (fun W => ih _ _ _ _ _ z0)
    · rw [show (0 + 1 + 1 : Nat) = 2 from rfl, eE_q2]
      by_cases z : isIx T i
      · rw [if_pos z]
        rcases e : pR T f 0 (o + 1) (i + 2) with p | k
        · exact Nat.le_refl _
        · exact ih _ _ _ _ _ (fun W => dB_W (ih _ _ _ _ _ z0) (fun W' v h => Nat.le_trans (dB_W (hB _) (fun W'' v h => Nat.le_trans dAc_W h)) h))
      · rw [if_neg z]; exact hB W
    · rw [show (0 + 1 + 1 + 1 : Nat) = 3 from rfl, eE_q3]
      by_cases h1 : tqS (T i) = 1
      · rw [if_pos h1]; exact Nat.le_refl _
      rw [if_neg h1]
      by_cases h2 : tqS (T i) = 2
      · rw [if_pos h2]; exact Nat.le_refl _
      rw [if_neg h2]
      by_cases h3 : tqS (T i) = 3
      · rw [if_pos h3]; exact dNm_W
      rw [if_neg h3]
      by_cases h4 : isMk T i 40
      · rw [if_pos h4]
        by_cases h5 : isMk T (i + 1) 41
        · rw [if_pos h5]; exact dGa_W
        · rw [if_neg h5]
          refine dB_W (ih _ _ _ _ _ z0) (fun W' v h => ?_)
          by_cases h6 : plN T f (o + 1) (i + 1) = 1
          · rw [if_pos h6]; exact h
          · rw [if_neg h6]; exact Nat.le_trans dGa_W h
      rw [if_neg h4]
      rcases e1 : pR T f 0 (o + 1) (i + 1) with p | j
      · exact Nat.le_refl _
      · show (match pR T f 0 (o + 1) (j + 1) with
          | .inl _ => (W, .inl (1, 0))
          | .inr k => dB (eE call T Nv x y cp f 0 (o + 1) (i + 1) (fun W => (W, .inl (1, 0))) W) (fun W c => if vk c ≠ 0 then dEr cp W 5 (tqP (T i) : Int) else if vn c 0 = 0 then eE call T Nv x y cp f 0 (o + 1) (k + 1) (fun W => (W, .inl (1, 0))) W else eE call T Nv x y cp f 0 (o + 1) (j + 1) (fun W => (W, .inl (1, 0))) W) : DR).1 ≤ W
        rcases e2 : pR T f 0 (o + 1) (j + 1) with p | k
        · exact Nat.le_refl _
        · refine dB_W (ih _ _ _ _ _ z0) (fun W' c h => ?_)
          by_cases h5 : vk c ≠ 0
          · rw [if_pos h5]; exact h
          · rw [if_neg h5]
            by_cases h6 : vn c 0 = 0
            · rw [if_pos h6]; exact up _ _ _ h
            · rw [if_neg h6]; exact up _ _ _ h
    · rw [show (md + 1 + 1 + 1 + 1 : Nat) = md + 4 from rfl, eE_q4]
      rcases e : pR T f 0 o i with p | j
      · exact Nat.le_refl _
      · show (if isMk T j 59 then dB (eE call T Nv x y cp f 4 o (j + 1) (fun W => (W, .inl (1, 0))) W) (fun W r => dB (eE call T Nv x y cp f 0 o i (fun W => (W, .inl (1, 0))) W) (fun W v => (W, .inr (vnest (vm r + 1) (fun k => if k = 0 then v else vd r (k - 1)))))) else dB (eE call T Nv x y cp f 0 o i (fun W => (W, .inl (1, 0))) W) (fun W v => (W, .inr (vnest 1 (fun _ => v)))) : DR).1 ≤ W
        by_cases y : isMk T j 59
        · rw [if_pos y]
          exact dB_W (ih _ _ _ _ _ z0) (fun W' v h => dB_W (up _ _ _ h) (fun W'' v h => h))
        · rw [if_neg y]
          exact dB_W (ih _ _ _ _ _ z0) (fun W'' v h => h)
theorem eC_W {Fn : Int → Option (Nat → Tok)} : ∀ k key l w pl cp W, (eC Nv Fn k key l w pl cp W).1 ≤ W := by
  have z0 : ∀ W : Nat, ((fun W => (W, .inl (1, 0)) : Nat → DR) W).1 ≤ W := fun W => Nat.le_refl _
  intro k
  induction k with
  | zero =>
    intro key l w pl cp W
    show (match Fn key with
      | none => dEr cp W 2 pl
      | some _ => dEr cp W 9 pl : DR).1 ≤ W
    rcases Fn key with _ | T
    · exact Nat.le_refl _
    · exact Nat.le_refl _
  | succ k ih =>
    intro key l w pl cp W
    show (match Fn key with
      | none => dEr cp W 2 pl
      | some T => dTk cp W 5 pl (fun W => eE (eC Nv Fn k) T Nv (some (l.getD w)) (l.map (fun _ => w)) (some (dPl cp pl)) fuR 0 1 3 (fun W => (W, .inl (1, 0))) W) : DR).1 ≤ W
    rcases Fn key with _ | T
    · exact Nat.le_refl _
    · exact dTk_W (fun W' h => Nat.le_trans (eE_W ih _ _ _ _ _ _ z0) h)
theorem lnD_W {Fn : Int → Option (Nat → Tok)} {a W : Nat} : (lnD Nv Fn T a W).1 ≤ W := by
  have z0 : ∀ W : Nat, (zB W).1 ≤ W := fun W => Nat.le_refl _
  unfold lnD
  by_cases z : liS T = 3
  · rw [if_pos z]
    unfold dAL
    refine dB_W (eE_W (eC_W 10) _ _ _ _ _ _ z0) (fun W1 u h1 => dB_W (Nat.le_trans (eE_W (eC_W 10) _ _ _ _ _ _ z0) h1) (fun W2 w h2 => dB_W (Nat.le_trans dNm_W h2) (fun W3 l h3 => Nat.le_trans dAc_W h3)))
  · rw [if_neg z]
    exact eE_W (eC_W 10) _ _ _ _ _ _ z0
end does
