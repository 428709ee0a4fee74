/-! mj: what is known at a start -/
theorem mj_known {c5 : List mj_Q} {s : State} {args : Array Value} {Ts : List Cond} (hts : ∀ w ∈ Ts, w.before args s = true) (hQ : ∀ q ∈ c5, (∀ w ∈ u_ws q.1 q.2.1 q.2.2.1, w ∈ Ts) ∧ Cond.instantiable q.1 q.2.2.1 ∈ Ts) : ∃ D : va_G, ∀ (ci : Nat) (q : vw_C), (mj_cl c5)[ci]? = some q → u_Kn s q.1 q.2.1 q.2.2 (D.1 ci) (D.2 ci) := by
  have h1 : ∀ ci : Nat, ∃ z : ClassId × (Nat → Nat), ∀ q, (mj_cl c5)[ci]? = some q → u_Kn s q.1 q.2.1 q.2.2 z.1 z.2 := by
    intro ci
    cases hc : c5[ci]? with
    | none =>
      refine ⟨(0, fun _ => 0), fun q hq => ?_⟩
      unfold mj_cl at hq
      rw [List.getElem?_map, hc] at hq
      cases hq
    | some q =>
      obtain ⟨a1, a2⟩ := hQ q (List.mem_of_getElem? hc)
      obtain ⟨cC, iS, hK⟩ := u_known (C := q.1) (T := q.2.1) (N := q.2.2.1) (n := q.2.2.1) hts a1 (hts _ a2)
      refine ⟨(cC, iS), fun q2 hq => ?_⟩
      rw [mj_cl_get hc] at hq
      cases hq
      exact hK
  exact ⟨(fun ci => (Classical.choose (h1 ci)).1, fun ci => (Classical.choose (h1 ci)).2), fun ci q hq => Classical.choose_spec (h1 ci) q hq⟩
/-- an array type's own word -/
def mj_aw (ty : FieldType) : Cond := match ty with
  | .object C => Cond.arrayOver (.object C)
  | ty => Cond.arrayClass ty
theorem mj_arrs {s : State} {args : Array Value} : ∀ tl : List (FieldType × Nat), (∀ q ∈ tl, (mj_aw q.1).before args s = true) → ∃ tys : List (ClassId × FieldType), tys.map (fun q => q.2) = tl.map (fun q => q.1) ∧ ∀ (k : Nat) (q : ClassId × FieldType), tys[k]? = some q → ArrOfT s q.1 q.2 ∧ va_RA s q.1 q.2 := by
  intro tl
  induction tl with
  | nil => exact fun _ => ⟨[], rfl, fun k q h => by simp at h⟩
  | cons z tl ih =>
    intro h
    obtain ⟨tys, e1, e2⟩ := ih (fun q hq => h q (List.mem_cons_of_mem _ hq))
    have h1 := h z List.mem_cons_self
    have h2 : ∃ cA, ArrOfT s cA z.1 ∧ va_RA s cA z.1 := by
      obtain ⟨ty, ci⟩ := z
      cases ty with
      | object C =>
        obtain ⟨comp, cA, kA, g1, -, g2, g3, g4⟩ := Cond.arrayOver_spec h1
        exact ⟨cA, fun N z => ⟨(fun k h => by cases h), kA, g2, comp, g3⟩, kA, comp, g2, g3, g1, g4⟩
      | _ =>
        obtain ⟨cA, kA, comp, g1, g2, g3⟩ := Cond.arrayClass_spec h1
        exact ⟨cA, fun N z => ⟨(fun k h => by cases h), kA, g2, comp, g3⟩, g1⟩
    obtain ⟨cA, a1, a2⟩ := h2
    refine ⟨(cA, z.1) :: tys, by rw [List.map_cons, List.map_cons, e1], fun k q hq => ?_⟩
    cases k with
    | zero => cases hq; exact ⟨a1, a2⟩
    | succ k => exact e2 k q hq
