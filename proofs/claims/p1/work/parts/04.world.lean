/-! mj: the heap as a list of cells, and the kit's world that it stands for -/
def mj_a (ad : List Nat) (a : vp_A) : vp_A := (a.1, match a.2 with
  | .inl f => .inl f
  | .inr (.inl f) => .inr (.inl f)
  | .inr (.inr (.inl f)) => .inr (.inr (.inl f))
  | .inr (.inr (.inr (.inl f))) => .inr (.inr (.inr (.inl f)))
  | .inr (.inr (.inr (.inr f))) => .inr (.inr (.inr (.inr (fun i => (f i).map (fun k => ad.getD k 0))))))
def mj_e (tys : List (ClassId × FieldType)) (ad : List Nat) (e : mj_E) : va_E := match e with
  | .inl (t, a) => .inl ((tys.getD t (0, .int)).1, mj_a ad a)
  | .inr (ci, fs) => .inr (ci, mj_vs ad fs)
def mj_W (tys : List (ClassId × FieldType)) (ad : List Nat) (h : mj_H) : va_W := ad.zip (h.map (mj_e tys ad))
def mj_eok (n : Nat) (e : mj_E) : Prop := match e with
  | .inl (_, _, .inr (.inr (.inr (.inr f)))) => ∀ i k, f i = some k → k < n
  | .inl _ => True
  | .inr (_, fs) => mj_sok n fs
def mj_hok (n : Nat) (h : mj_H) : Prop := ∀ e ∈ h, mj_eok n e
theorem mj_eok_mono {n n' : Nat} (hn : n ≤ n') {e : mj_E} (h : mj_eok n e) : mj_eok n' e := by
  match e, h with
  | .inl (_, _, .inr (.inr (.inr (.inr f)))), h => exact fun i k hk => Nat.lt_of_lt_of_le (h i k hk) hn
  | .inl (_, _, .inl _), _ => trivial
  | .inl (_, _, .inr (.inl _)), _ => trivial
  | .inl (_, _, .inr (.inr (.inl _))), _ => trivial
  | .inl (_, _, .inr (.inr (.inr (.inl _)))), _ => trivial
  | .inr (_, fs), h => exact mj_sok_mono hn h
theorem mj_e_app {tys : List (ClassId × FieldType)} {ad b : List Nat} {e : mj_E} (h : mj_eok ad.length e) : mj_e tys (ad ++ b) e = mj_e tys ad e := by
  match e, h with
  | .inl (_, _, .inr (.inr (.inr (.inr f)))), h =>
    show Sum.inl (_, _, Sum.inr (Sum.inr (Sum.inr (Sum.inr _)))) = Sum.inl (_, _, Sum.inr (Sum.inr (Sum.inr (Sum.inr _))))
    congr 7
    funext i
    cases hf : f i with
    | none => rfl
    | some k =>
      show some ((ad ++ b).getD k 0) = some (ad.getD k 0)
      rw [List.getD_eq_getElem?_getD, List.getD_eq_getElem?_getD, List.getElem?_append_left (h i k hf)]
  | .inl (_, _, .inl _), _ => rfl
  | .inl (_, _, .inr (.inl _)), _ => rfl
  | .inl (_, _, .inr (.inr (.inl _))), _ => rfl
  | .inl (_, _, .inr (.inr (.inr (.inl _)))), _ => rfl
  | .inr (_, fs), h => exact congrArg (fun z => Sum.inr (_, z)) (mj_vs_app h)
theorem mj_W_get {tys : List (ClassId × FieldType)} {ad : List Nat} {h : mj_H} (hl : ad.length = h.length) {k : Nat} {e : mj_E} (he : h[k]? = some e) : (mj_W tys ad h)[k]? = some (ad.getD k 0, mj_e tys ad e) := by
  have hk : k < h.length := (List.getElem?_eq_some_iff.mp he).1
  have hk2 : k < ad.length := by omega
  unfold mj_W
  rw [List.getElem?_zip_eq_some]
  refine ⟨?_, ?_⟩
  · rw [List.getD_eq_getElem?_getD, List.getElem?_eq_getElem hk2]; rfl
  · rw [List.getElem?_map, he]; rfl
theorem mj_W_len {tys : List (ClassId × FieldType)} {ad : List Nat} {h : mj_H} (hl : ad.length = h.length) : (mj_W tys ad h).length = h.length := by
  unfold mj_W
  rw [List.length_zip, List.length_map, hl, Nat.min_self]
theorem mj_W_inv {tys : List (ClassId × FieldType)} {ad : List Nat} {h : mj_H} (hl : ad.length = h.length) {k : Nat} {q : Nat × va_E} (hq : (mj_W tys ad h)[k]? = some q) : ∃ e, h[k]? = some e ∧ q = (ad.getD k 0, mj_e tys ad e) := by
  have hk : k < (mj_W tys ad h).length := (List.getElem?_eq_some_iff.mp hq).1
  rw [mj_W_len hl] at hk
  have he : h[k]? = some h[k] := List.getElem?_eq_getElem hk
  refine ⟨h[k], he, ?_⟩
  rw [mj_W_get hl he] at hq
  exact (Option.some.inj hq).symm
theorem mj_W_set {tys : List (ClassId × FieldType)} {ad : List Nat} {h : mj_H} (hl : ad.length = h.length) {k : Nat} (e : mj_E) : (mj_W tys ad h).set k (ad.getD k 0, mj_e tys ad e) = mj_W tys ad (h.set k e) := by
  apply List.ext_getElem?
  intro j
  have hl' : ad.length = (h.set k e).length := by rw [List.length_set]; exact hl
  by_cases hj : j < h.length
  · by_cases hjk : k = j
    · subst hjk
      rw [List.getElem?_set_self (by rw [mj_W_len hl]; exact hj)]
      rw [mj_W_get hl' (e := e) (List.getElem?_set_self hj)]
    · rw [List.getElem?_set_ne hjk]
      have he : h[j]? = some h[j] := List.getElem?_eq_getElem hj
      rw [mj_W_get hl he, mj_W_get hl' (e := h[j]) (by rw [List.getElem?_set_ne hjk]; exact he)]
  · rw [List.getElem?_eq_none (by rw [List.length_set, mj_W_len hl]; omega), List.getElem?_eq_none (by rw [mj_W_len hl', List.length_set]; omega)]
theorem mj_W_push {tys : List (ClassId × FieldType)} {ad : List Nat} {h : mj_H} (hl : ad.length = h.length) (hok : mj_hok h.length h) {q : Nat} {e : mj_E} (he : mj_eok h.length e) : mj_W tys (ad ++ [q]) (h ++ [e]) = mj_W tys ad h ++ [(q, mj_e tys ad e)] := by
  unfold mj_W
  rw [List.map_append, List.zip_append (by rw [List.length_map]; exact hl)]
  congr 1
  · congr 1
    exact List.map_congr_left fun x hx => mj_e_app (by rw [hl]; exact hok x hx)
  · show [(q, mj_e tys (ad ++ [q]) e)] = _
    rw [mj_e_app (by rw [hl]; exact he)]
/-- the small machine's heap h, its cells at the addresses ad, is the heap H; of the first c0 numbers (arrays from without) only the addresses count -/
def mj_I (D : va_G) (cl : List vw_C) (tys : List (ClassId × FieldType)) (A : Nat → Prop) (c0 : Nat) (H0 : Heap) (ad : List Nat) (h : mj_H) (H : Heap) (locs : List Loc) : Prop :=
  ad.length = h.length ∧ c0 ≤ h.length ∧ mj_hok h.length h ∧ va_P D cl ((mj_W tys ad h).drop c0) H ∧ va_D A ((mj_W tys ad h).drop c0) ∧ va_S A H0 H locs ∧ True
section MJ4
variable {D : va_G} {cl : List vw_C} {tys : List (ClassId × FieldType)} {A : Nat → Prop} {c0 : Nat} {H0 : Heap} {ad : List Nat} {h : mj_H} {H : Heap} {locs : List Loc}
theorem mj_I_drop (hI : mj_I D cl tys A c0 H0 ad h H locs) : va_P D cl ((mj_W tys ad h).drop c0) H := hI.2.2.2.1
theorem mj_I_dget (hI : mj_I D cl tys A c0 H0 ad h H locs) {k : Nat} {e : mj_E} (hk : c0 ≤ k) (he : h[k]? = some e) : ((mj_W tys ad h).drop c0)[k - c0]? = some (ad.getD k 0, mj_e tys ad e) := by
  rw [List.getElem?_drop, show c0 + (k - c0) = k by omega]
  exact mj_W_get hI.1 he
theorem mj_I_at (hI : mj_I D cl tys A c0 H0 ad h H locs) {k : Nat} {e : mj_E} (hk : c0 ≤ k) (he : h[k]? = some e) : va_P D cl [(ad.getD k 0, mj_e tys ad e)] H := by
  intro j q hq
  have hj : j < 1 := (List.getElem?_eq_some_iff.mp hq).1
  rw [show j = 0 by omega] at hq
  cases hq
  exact hI.2.2.2.1 (k - c0) _ (mj_I_dget hI hk he)
theorem mj_I_put (hI : mj_I D cl tys A c0 H0 ad h H locs) {k : Nat} (hk : c0 ≤ k) {e' : mj_E} (he' : mj_eok h.length e') {H1 : Heap} {locs1 : List Loc}
    (hP1 : va_P D cl (((mj_W tys ad h).drop c0).set (k - c0) (ad.getD k 0, mj_e tys ad e')) H1) (hD1 : va_D A (((mj_W tys ad h).drop c0).set (k - c0) (ad.getD k 0, mj_e tys ad e'))) (hS1 : va_S A H0 H1 locs1) : mj_I D cl tys A c0 H0 ad (h.set k e') H1 locs1 := by
  have e1 : ((mj_W tys ad h).drop c0).set (k - c0) (ad.getD k 0, mj_e tys ad e') = (mj_W tys ad (h.set k e')).drop c0 := by
    rw [List.set_drop, show c0 + (k - c0) = k by omega, mj_W_set hI.1]
  rw [e1] at hP1 hD1
  refine ⟨by rw [List.length_set]; exact hI.1, by rw [List.length_set]; exact hI.2.1, ?_, hP1, hD1, hS1, trivial⟩
  intro x hx
  rw [List.length_set]
  rcases List.mem_or_eq_of_mem_set hx with hx | rfl
  · exact hI.2.2.1 x hx
  · exact he'
theorem mj_I_new (hI : mj_I D cl tys A c0 H0 ad h H locs) {q : Nat} {e' : mj_E} (he' : mj_eok h.length e') {H1 : Heap} {locs1 : List Loc}
    (hP1 : va_P D cl ((mj_W tys ad h).drop c0 ++ [(q, mj_e tys ad e')]) H1) (hD1 : va_D A ((mj_W tys ad h).drop c0 ++ [(q, mj_e tys ad e')])) (hS1 : va_S A H0 H1 locs1) : mj_I D cl tys A c0 H0 (ad ++ [q]) (h ++ [e']) H1 locs1 := by
  have e1 : (mj_W tys ad h).drop c0 ++ [(q, mj_e tys ad e')] = (mj_W tys (ad ++ [q]) (h ++ [e'])).drop c0 := by
    rw [mj_W_push hI.1 hI.2.2.1 he', List.drop_append_of_le_length (by rw [mj_W_len hI.1]; exact hI.2.1)]
  rw [e1] at hP1 hD1
  refine ⟨by rw [List.length_append, List.length_append, hI.1]; rfl, by rw [List.length_append]; exact Nat.le_trans hI.2.1 (Nat.le_add_right _ _), ?_, hP1, hD1, hS1, trivial⟩
  intro x hx
  rw [List.length_append]
  rcases List.mem_append.mp hx with hx | hx
  · exact mj_eok_mono (Nat.le_add_right _ _) (hI.2.2.1 x hx)
  · rw [List.mem_singleton.mp hx]
    exact mj_eok_mono (Nat.le_add_right _ _) he'
end MJ4
theorem mj_RA_uniq {U : State} {a b : ClassId} {ty : FieldType} (h1 : va_RA U a ty) (h2 : va_RA U b ty) : a = b := by
  cases ty with
  | object C =>
    obtain ⟨_, _, _, _, _, h4⟩ := h1
    obtain ⟨_, _, _, _, _, g4⟩ := h2
    exact Option.some.inj (h4.symm.trans g4)
  | _ => exact Option.some.inj (Eq.trans (Eq.symm h1) h2)
