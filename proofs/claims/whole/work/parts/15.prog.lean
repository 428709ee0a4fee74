/-! mj: a program out of its lists -/
def mj_e0 : String × mj_TL := ("", [], [], [], [], [], [], [])
def mj_TTof (TL : List (String × mj_TL)) (o : Nat) : mj_T × mj_C := mj_tab (TL.getD o mj_e0).2
def mj_nmof (TL : List (String × mj_TL)) (o : Nat) : String := (TL.getD o mj_e0).1
/-- statics: the number from without, class, name, type -/
def mj_Zof (zl : List (Nat × String × String × String)) (xa : Nat → Nat) (X : List (String × String × String × Value)) (E : List (String × Nat × String × Nat) × (Nat × List Nat × List (List Int32) × (Nat → Nat) × (Nat → Nat)) × (Nat × Nat)) : mj_Z := ((zl.map fun z => (z.2.1, z.2.2.1, z.2.2.2, .ref (xa z.1))) ++ X, E)
theorem mj_okP_of {c5 : List mj_Q} {tl : List (FieldType × Nat)} {zl : List (Nat × String × String × String)} {c0 : Nat} {host : String} {ms : List mj_MS} {TL : List (String × mj_TL)} {Tg Ns : List Cond} (xa : Nat → Nat) (X : List (String × String × String × Value)) (E : List (String × Nat × String × Nat) × (Nat × List Nat × List (List Int32) × (Nat → Nat) × (Nat → Nat)) × (Nat × Nat)) (hTs : ∀ w ∈ mj_Ts c5 tl zl ms host TL, w ∈ Tg ++ Ns) (hg : mj_good Tg) (hNx : ∀ w ∈ Ns, mj_xw w = true) (hQ : c5.all mj_chQ2 = true) (hT : mj_chtl c5 tl = true) (hm : ms.all (mj_chM c5 TL) = true) (hL : TL.all (mj_chT1 c5 tl zl ms c0) = true) :
    mj_okP Tg Ns (mj_Zof zl xa X E) (mj_cl c5) tl c0 xa (mj_mmof ms) (mj_TTof TL) (mj_nmof TL) := by
  generalize hTe : Tg ++ Ns = Ts at hTs
  have w0 : ∀ w ∈ mj_w0, w ∈ Ts := fun w h => hTs w (List.mem_append_left _ h)
  have wQ : ∀ q ∈ c5, ∀ w ∈ u_ws q.1 q.2.1 q.2.2.1, w ∈ Ts := fun q hq w h => hTs w (List.mem_append_right _ (List.mem_append_left _ (List.mem_flatMap.mpr ⟨q, hq, h⟩)))
  have wM : ∀ q ∈ ms, ∀ w ∈ mj_wM c5 q, w ∈ Ts := fun q hq w h => hTs w (List.mem_append_right _ (List.mem_append_right _ (List.mem_append_left _ (List.mem_flatMap.mpr ⟨q, hq, h⟩))))
  have wT : ∀ q ∈ TL, ∀ w ∈ mj_wT c5 tl zl ms host q, w ∈ Ts := fun q hq w h => hTs w (List.mem_append_right _ (List.mem_append_right _ (List.mem_append_right _ (List.mem_flatMap.mpr ⟨q, hq, h⟩))))
  have okQ : ∀ q ∈ c5, (∀ k, k < q.2.2.1 → parseFieldDescriptor (q.2.1 k).2.2.1 = some (q.2.2.2 k)) ∧ ∀ a, a < q.2.2.1 → ∀ b, b < q.2.2.1 → a ≠ b → (q.2.1 a).2.1 ≠ (q.2.1 b).2.1 := by
    intro q hq
    have h4 := List.all_eq_true.mp hQ q hq
    unfold mj_chQ2 at h4
    rw [Bool.and_eq_true] at h4
    refine ⟨fun k hk => of_decide_eq_true (List.all_eq_true.mp h4.1 k (List.mem_range.mpr hk)), fun a ha b hb hab => ?_⟩
    have h5 := List.all_eq_true.mp (List.all_eq_true.mp h4.2 a (List.mem_range.mpr ha)) b (List.mem_range.mpr hb)
    rw [Bool.or_eq_true, decide_eq_true_eq, decide_eq_true_eq] at h5
    exact h5.elim (fun z => absurd z hab) id
  have okMs : ∀ k M, ms[k]? = some M → Cond.code M.1.1 M.1.2.1 M.1.2.2.1 M.1.2.2.2.1 ∈ Ts ∧ Cond.initialized M.1.1.cls ∈ Ts ∧ mj_chM c5 TL M = true := fun k M h => ⟨wM M (List.mem_of_getElem? h) _ List.mem_cons_self, wM M (List.mem_of_getElem? h) _ (List.mem_cons_of_mem _ List.mem_cons_self), List.all_eq_true.mp hm M (List.mem_of_getElem? h)⟩
  have okA23 : (∀ (t : Nat) (C : String) (ci : Nat), tl[t]? = some (FieldType.object C, ci) → ∃ r : vw_C, (mj_cl c5)[ci]? = some r ∧ r.1 = C) ∧ ∀ aty : ArrayType, mj_na aty ≠ none → Cond.arrayClass (newarray.typeOf aty) ∈ Ts := by
    refine ⟨fun t C ci ht => ?_, fun aty ha => ?_⟩
    · have h3 := List.all_eq_true.mp hT _ (List.mem_of_getElem? ht)
      dsimp only at h3
      cases hc : c5[ci]? with
      | none => rw [hc] at h3; cases h3
      | some c =>
        rw [hc] at h3
        exact ⟨_, mj_cl_get hc, of_decide_eq_true h3⟩
    · cases aty <;> first | exact absurd rfl ha | exact w0 _ (by simp [mj_w0, newarray.typeOf])
  have one : ∀ q : String × mj_TL, (∀ w ∈ mj_wT c5 tl zl ms host q, w ∈ Ts) → mj_chT1 c5 tl zl ms c0 q = true → mj_okF Ts (mj_cl c5) q.1 (mj_tab q.2).1 ∧ mj_okC Ts q.1 (mj_tab q.2).1 ∧ mj_okN Ts (mj_cl c5) q.1 (mj_tab q.2).1 ∧ mj_okA Ts (mj_cl c5) tl q.1 (mj_tab q.2).1 ∧ mj_okS0 c0 (mj_tab q.2).1 ∧ mj_okSt Ts (mj_Zof zl xa X E) c0 xa q.1 (mj_tab q.2).1 ∧ mj_okM Ts (mj_cl c5) q.1 (mj_tab q.2).2 (mj_mmof ms) := by
    intro q hw hch
    unfold mj_wT at hw
    simp only [List.mem_append] at hw
    unfold mj_chT1 at hch
    simp only [Bool.and_eq_true] at hch
    obtain ⟨c1, c2, c3, c4, c5'⟩ := hch
    have okSt : mj_okSt Ts (mj_Zof zl xa X E) c0 xa q.1 (mj_tab q.2).1 := by
      intro x v hx
      obtain ⟨z, hz, rfl⟩ := mj_map_spec hx
      have hm := mj_look_mem hz
      have h3 := List.all_eq_true.mp c4 _ hm
      unfold mj_chS at h3
      rw [Bool.and_eq_true, decide_eq_true_eq] at h3
      obtain ⟨z2, hz2⟩ := Option.isSome_iff_exists.mp h3.2
      refine ⟨z.1, rfl, h3.1, _, List.mem_append_left _ (List.mem_map.mpr ⟨(z.1, z2), mj_look_mem hz2, rfl⟩), rfl, ?_⟩
      have h5 : ∀ w ∈ mj_wS zl q.1 host (x, z), w ∈ Ts := fun w h => hw w (Or.inr (Or.inr (Or.inr (Or.inr (Or.inr (Or.inl (List.mem_flatMap.mpr ⟨_, hm, h⟩)))))))
      unfold mj_wS at h5
      dsimp only at h5 hz2
      rw [hz2] at h5
      dsimp only at h5
      split at h5
      · exact Or.inr ⟨host, h5 _ List.mem_cons_self⟩
      · exact Or.inl (h5 _ List.mem_cons_self)
    refine ⟨?_, ⟨?_, ?_⟩, ?_, ⟨?_, okA23⟩, ?_, okSt, ?_⟩
    · intro x ci k ty fin hx
      have hm := mj_look_mem hx
      have h3 := List.all_eq_true.mp c1 _ hm
      have h5 : ∀ w ∈ mj_wF c5 q.1 (x, ci, k, ty, fin), w ∈ Ts := fun w h => hw w (Or.inl (List.mem_flatMap.mpr ⟨_, hm, h⟩))
      unfold mj_chF at h3
      unfold mj_wF at h5
      dsimp only at h3 h5
      cases hc : c5[ci]? with
      | none => rw [hc] at h3; cases h3
      | some c =>
        rw [hc] at h3 h5
        simp only [Bool.and_eq_true, decide_eq_true_eq] at h3
        obtain ⟨a1, a2, a3⟩ := h3
        obtain ⟨b2, b3⟩ := okQ c (List.mem_of_getElem? hc)
        refine ⟨c.1, c.2.1, c.2.2.1, c.2.2.2, mj_cl_get hc, a1, wQ c (List.mem_of_getElem? hc), b2, b3, a2, ?_, fun z => ?_, fun z => ?_, Or.inl (h5 _ List.mem_cons_self)⟩
        · split at a3 <;> first | omega | cases a3
        · subst z; simpa using a3
        · subst z; simpa [Bool.and_eq_true] using a3
    · intro x v hx
      exact hw _ (Or.inr (Or.inl (List.mem_map.mpr ⟨_, mj_look_mem hx, rfl⟩)))
    · intro x v hx
      exact hw _ (Or.inr (Or.inr (Or.inl (List.mem_map.mpr ⟨_, mj_look_mem hx, rfl⟩))))
    · intro x ci fs hx
      have hm := mj_look_mem hx
      have h3 := List.all_eq_true.mp c2 _ hm
      have h5 : ∀ w ∈ mj_wN c5 q.1 (x, ci, fs), w ∈ Ts := fun w h => hw w (Or.inr (Or.inr (Or.inr (Or.inl (List.mem_flatMap.mpr ⟨_, hm, h⟩)))))
      unfold mj_chN at h3
      unfold mj_wN at h5
      dsimp only at h3 h5
      cases hc : c5[ci]? with
      | none => rw [hc] at h3; cases h3
      | some c =>
        rw [hc] at h3 h5
        simp only [Bool.and_eq_true, decide_eq_true_eq] at h3
        obtain ⟨a4, a5, a6⟩ := h3
        obtain ⟨b2, b3⟩ := okQ c (List.mem_of_getElem? hc)
        refine ⟨c.1, c.2.1, c.2.2.1, c.2.2.2, mj_cl_get hc, wQ c (List.mem_of_getElem? hc), b2, h5 _ (by simp), h5 _ (by simp), h5 _ (by simp), fun j hj => ?_, a4, fun v hv k z => ?_⟩
        · exact of_decide_eq_true (List.all_eq_true.mp a6 j (List.mem_range.mpr hj))
        · have h4 := List.all_eq_true.mp a5 v hv
          rw [z] at h4
          cases h4
    · intro x t hx
      have hm := mj_look_mem hx
      have h3 := List.all_eq_true.mp c3 _ hm
      have h5 : ∀ w ∈ mj_wA tl q.1 (x, t), w ∈ Ts := fun w h => hw w (Or.inr (Or.inr (Or.inr (Or.inr (Or.inl (List.mem_flatMap.mpr ⟨_, hm, h⟩))))))
      unfold mj_chA at h3
      unfold mj_wA at h5
      dsimp only at h3 h5
      split at h3
      · rename_i C ci hC
        rw [hC] at h5
        exact ⟨C, ci, hC, h5 _ (by simp), h5 _ (by simp)⟩
      · cases h3
    · intro x v hx
      obtain ⟨k, rfl, hk, -⟩ := okSt x v hx
      intro j hj
      cases hj
      exact hk
    · intro x kd k n ci hx
      obtain ⟨z, hz, h4⟩ := mj_map_spec hx
      have hm := mj_look_mem hz
      have h3 := List.all_eq_true.mp c5' _ hm
      have h5 : ∀ w ∈ mj_wL ms q.1 host (x, z), w ∈ Ts := fun w h => hw w (Or.inr (Or.inr (Or.inr (Or.inr (Or.inr (Or.inr (List.mem_flatMap.mpr ⟨_, hm, h⟩)))))))
      obtain ⟨z1, z2⟩ := z
      cases h4
      unfold mj_chL at h3
      unfold mj_wL at h5
      dsimp only at h3 h5
      refine ⟨fun y => ?_, fun y => ?_, fun y y4 => ?_⟩
      · subst y
        exact ⟨h5 _ List.mem_cons_self, w0 _ (by simp [mj_w0]), w0 _ (by simp [mj_w0])⟩
      · subst y
        exact h5
      · split at h3
        · exact absurd rfl y
        · exact absurd rfl y4
        · split at h5
          · exact absurd rfl y
          · exact absurd rfl y4
          · cases hM : ms[k]? with
            | none => rw [hM] at h3; cases h3
            | some M =>
              rw [hM] at h3 h5
              simp only [Bool.and_eq_true, decide_eq_true_eq] at h3
              obtain ⟨e1, e2, e3⟩ := h3
              obtain ⟨f1, f2, f3⟩ := okMs k M hM
              have wMM := wM M (List.mem_of_getElem? hM)
              unfold mj_chM at f3
              simp only [Bool.and_eq_true, decide_eq_true_eq] at f3
              obtain ⟨g1, g2, g3, g4, g5, g6, g7, g8⟩ := f3
              rw [e2] at g3
              refine ⟨mj_mk M, by unfold mj_mmof; rw [hM]; rfl, f1, f2, ⟨g1, g2, g3⟩, g4, ?_, fun u => ?_, fun u => ?_, fun u => ?_⟩
              · dsimp only at h5
                split at h5
                · exact Or.inr ⟨host, h5 _ List.mem_cons_self⟩
                · exact Or.inl (h5 _ List.mem_cons_self)
              · rw [e1, u] at g8
                rw [e3] at g8
                obtain ⟨c, hc⟩ := Option.isSome_iff_exists.mp g8
                unfold mj_wM at wMM
                rw [e1, u, e3, hc] at wMM
                exact ⟨wMM _ (by simp [mj_mk]), _, mj_cl_get hc, wMM _ (by simp [mj_mk])⟩
              · unfold mj_wM at wMM
                rw [e1, u] at wMM
                exact wMM _ (by simp [mj_mk])
              · rw [e1, u] at g8
                unfold mj_wM at wMM
                rw [e1, u] at wMM
                simp only [Bool.and_eq_true, decide_eq_true_eq] at g8
                exact ⟨wMM _ (by simp [mj_mk]), g8.1, g8.2⟩
  refine ⟨⟨hg, hNx⟩, fun o => ?_, fun k M hM => ?_⟩
  · have h3 : (∀ w ∈ mj_wT c5 tl zl ms host (TL.getD o mj_e0), w ∈ Ts) ∧ mj_chT1 c5 tl zl ms c0 (TL.getD o mj_e0) = true := by
      rw [List.getD_eq_getElem?_getD]
      cases hq : TL[o]? with
      | none => exact ⟨(fun w h => by cases h), rfl⟩
      | some q => exact ⟨wT q (List.mem_of_getElem? hq), List.all_eq_true.mp hL q (List.mem_of_getElem? hq)⟩
    rw [hTe]
    exact one _ h3.1 h3.2
  · obtain ⟨q, hq, rfl⟩ := mj_map_spec hM
    obtain ⟨-, -, f3⟩ := okMs k q hq
    unfold mj_chM at f3
    simp only [Bool.and_eq_true, decide_eq_true_eq, Bool.or_eq_true, Bool.not_eq_true'] at f3
    obtain ⟨-, -, -, -, g5, g6, g7, -⟩ := f3
    refine ⟨g5, ?_, fun z => ?_, fun pc i len h => mj_dec_ok h⟩
    · obtain ⟨t, ht, ht2⟩ := mj_map_spec g6
      show q.1.1.cls = (TL.getD q.1.2.2.2.2.1 mj_e0).1
      rw [List.getD_eq_getElem?_getD, ht, ← ht2]
      rfl
    · rcases g7 with g7 | g7
      · exact absurd (g7.symm.trans z) (by decide)
      · exact g7
