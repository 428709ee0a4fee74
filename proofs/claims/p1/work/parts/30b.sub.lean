/-! mj: fewer locals known: the same run -/
/-- what L knows, L' knows -/
def mj_sub (L L' : mj_L) : Prop := ∀ i v, mj_get L i = some v → mj_get L' i = some v
theorem mj_get_cons (q : Nat × Value) (L : mj_L) (i : Nat) : mj_get (q :: L) i = if q.1 = i then some q.2 else mj_get L i := by
  unfold mj_get
  rw [List.find?_cons]
  by_cases h : q.1 = i
  · have h1 : (q.1 == i) = true := by simpa using h
    rw [h1, if_pos h]; rfl
  · have h1 : (q.1 == i) = false := by simpa using h
    rw [h1, if_neg h]
theorem mj_get_filter {L : mj_L} {i : Nat} (f : Nat × Value → Bool) (hf : ∀ q ∈ L, q.1 = i → mj_get L i = some q.2 → f q = true → True) {v : Value} (h : mj_get (L.filter f) i = some v) : ∃ q ∈ L, q.1 = i ∧ q.2 = v ∧ f q = true := by
  have h1 := mj_get_mem h
  obtain ⟨h2, h3⟩ := List.mem_filter.mp h1
  exact ⟨_, h2, rfl, rfl, h3⟩
/-- each local is listed once -/
def mj_one (L : mj_L) : Prop := ∀ p ∈ L, ∀ q ∈ L, p.1 = q.1 → p.2 = q.2
theorem mj_get_in {L : mj_L} (h1 : mj_one L) {i : Nat} {v : Value} (h : (i, v) ∈ L) : mj_get L i = some v := by
  unfold mj_get
  cases hf : L.find? (fun q => q.1 == i) with
  | none =>
    have := List.find?_eq_none.mp hf _ h
    simp at this
  | some q =>
    have h2 := List.find?_some hf
    have h3 : q.1 = i := by simpa using h2
    rw [Option.map_some, h1 q (List.mem_of_find?_eq_some hf) (i, v) h h3]
theorem mj_one_put1 {L : mj_L} (h : mj_one L) (i : Nat) (v : Value) : mj_one (mj_put1 L i v) := by
  intro p hp q hq e
  unfold mj_put1 at hp hq
  rcases List.mem_cons.mp hp with rfl | hp <;> rcases List.mem_cons.mp hq with rfl | hq
  · rfl
  · have := (List.mem_filter.mp hq).2
    simp [← e] at this
  · have := (List.mem_filter.mp hp).2
    simp [e] at this
  · exact h p (List.mem_filter.mp hp).1 q (List.mem_filter.mp hq).1 e
theorem mj_one_put2 {L : mj_L} (h : mj_one L) (i : Nat) (v : Value) : mj_one (mj_put2 L i v) := by
  intro p hp q hq e
  unfold mj_put2 at hp hq
  rcases List.mem_cons.mp hp with rfl | hp <;> rcases List.mem_cons.mp hq with rfl | hq
  · rfl
  · have := (List.mem_filter.mp hq).2
    simp [← e] at this
  · have := (List.mem_filter.mp hp).2
    simp [e] at this
  · exact h p (List.mem_filter.mp hp).1 q (List.mem_filter.mp hq).1 e
theorem mj_sub_put1 {L L' : mj_L} (h : mj_sub L L') (h1 : mj_one L) (h1' : mj_one L') (i : Nat) (v : Value) : mj_sub (mj_put1 L i v) (mj_put1 L' i v) := by
  intro j w hj
  have hm := mj_get_mem hj
  unfold mj_put1 at hm
  apply mj_get_in (mj_one_put1 h1' i v)
  unfold mj_put1
  rcases List.mem_cons.mp hm with e | hm
  · rw [e]; exact List.mem_cons_self
  · obtain ⟨a, b⟩ := List.mem_filter.mp hm
    exact List.mem_cons_of_mem _ (List.mem_filter.mpr ⟨mj_get_mem (h j w (mj_get_in h1 a)), b⟩)
theorem mj_sub_put2 {L L' : mj_L} (h : mj_sub L L') (h1 : mj_one L) (h1' : mj_one L') (i : Nat) (v : Value) : mj_sub (mj_put2 L i v) (mj_put2 L' i v) := by
  intro j w hj
  have hm := mj_get_mem hj
  unfold mj_put2 at hm
  apply mj_get_in (mj_one_put2 h1' i v)
  unfold mj_put2
  rcases List.mem_cons.mp hm with e | hm
  · rw [e]; exact List.mem_cons_self
  · obtain ⟨a, b⟩ := List.mem_filter.mp hm
    exact List.mem_cons_of_mem _ (List.mem_filter.mpr ⟨mj_get_mem (h j w (mj_get_in h1 a)), b⟩)
theorem mj_loc_sub {nL : Nat} {i : Instr} {L L' L1 : mj_L} {S S1 : List Value} (h : mj_sub L L') (h1 : mj_one L) (h1' : mj_one L') (hs : mj_loc nL i L S = some (L1, S1)) : ∃ L1', mj_loc nL i L' S = some (L1', S1) ∧ mj_sub L1 L1' ∧ mj_one L1 ∧ mj_one L1' := by
  have q1 : ∀ {k}, mj_ldi L S k = some (L1, S1) → ∃ L1', mj_ldi L' S k = some (L1', S1) ∧ mj_sub L1 L1' ∧ mj_one L1 ∧ mj_one L1' := fun hs => by
    obtain ⟨x, hg, rfl, rfl⟩ := mj_ldi_spec hs
    exact ⟨L', by unfold mj_ldi; rw [h _ _ hg], h, h1, h1'⟩
  have q2 : ∀ {k}, mj_ldl L S k = some (L1, S1) → ∃ L1', mj_ldl L' S k = some (L1', S1) ∧ mj_sub L1 L1' ∧ mj_one L1 ∧ mj_one L1' := fun hs => by
    obtain ⟨x, hg, rfl, rfl⟩ := mj_ldl_spec hs
    exact ⟨L', by unfold mj_ldl; rw [h _ _ hg], h, h1, h1'⟩
  have q3 : ∀ {k}, mj_lda L S k = some (L1, S1) → ∃ L1', mj_lda L' S k = some (L1', S1) ∧ mj_sub L1 L1' ∧ mj_one L1 ∧ mj_one L1' := fun hs => by
    obtain ⟨rfl, ⟨x, hg, rfl⟩ | ⟨hg, rfl⟩⟩ := mj_lda_spec hs
    · exact ⟨L', by unfold mj_lda; rw [h _ _ hg], h, h1, h1'⟩
    · exact ⟨L', by unfold mj_lda; rw [h _ _ hg], h, h1, h1'⟩
  have q4 : ∀ {k}, mj_sti nL L S k = some (L1, S1) → ∃ L1', mj_sti nL L' S k = some (L1', S1) ∧ mj_sub L1 L1' ∧ mj_one L1 ∧ mj_one L1' := fun hs => by
    obtain ⟨x, rfl, hk, rfl⟩ := mj_sti_spec hs
    exact ⟨_, by unfold mj_sti; dsimp only; rw [if_pos hk], mj_sub_put1 h h1 h1' _ _, mj_one_put1 h1 _ _, mj_one_put1 h1' _ _⟩
  have q5 : ∀ {k}, mj_stl nL L S k = some (L1, S1) → ∃ L1', mj_stl nL L' S k = some (L1', S1) ∧ mj_sub L1 L1' ∧ mj_one L1 ∧ mj_one L1' := fun hs => by
    obtain ⟨x, rfl, hk, rfl⟩ := mj_stl_spec hs
    exact ⟨_, by unfold mj_stl; dsimp only; rw [if_pos hk], mj_sub_put2 h h1 h1' _ _, mj_one_put2 h1 _ _, mj_one_put2 h1' _ _⟩
  have q6 : ∀ {k}, mj_sta nL L S k = some (L1, S1) → ∃ L1', mj_sta nL L' S k = some (L1', S1) ∧ mj_sub L1 L1' ∧ mj_one L1 ∧ mj_one L1' := fun hs => by
    obtain ⟨hk, ⟨x, rfl, rfl⟩ | ⟨rfl, rfl⟩⟩ := mj_sta_spec hs
    · exact ⟨_, by unfold mj_sta; dsimp only; rw [if_pos hk], mj_sub_put1 h h1 h1' _ _, mj_one_put1 h1 _ _, mj_one_put1 h1' _ _⟩
    · exact ⟨_, by unfold mj_sta; dsimp only; rw [if_pos hk], mj_sub_put1 h h1 h1' _ _, mj_one_put1 h1 _ _, mj_one_put1 h1' _ _⟩
  unfold mj_loc at hs ⊢
  split at hs
  all_goals first
    | exact q1 hs
    | exact q2 hs
    | exact q3 hs
    | exact q4 hs
    | exact q5 hs
    | exact q6 hs
    | skip
  · obtain ⟨x, hg, hk, rfl, rfl⟩ := mj_inc_spec hs
    exact ⟨_, by unfold mj_inc; rw [h _ _ hg]; dsimp only; rw [if_pos hk], mj_sub_put1 h h1 h1' _ _, mj_one_put1 h1 _ _, mj_one_put1 h1' _ _⟩
  · cases hs
set_option maxHeartbeats 4000000 in
theorem mj_run_sub {call : Nat → List Value → mj_H → mj_R} {T : mj_T} {mt : mj_C} {xt : mj_X} {tl : List (FieldType × Nat)} {c0 nL dep : Nat} {ini : Bool} {ret : Option FieldType} {code : Nat → Option (Instr × Nat)} : ∀ (n pc : Nat) (L L' : mj_L) (S : List Value) (h : mj_H) (r : Option Value × mj_H), mj_sub L L' → mj_one L → mj_one L' → mj_run call T mt xt tl c0 nL dep ini ret code n pc L S h = some r → mj_run call T mt xt tl c0 nL dep ini ret code n pc L' S h = some r := by
  intro n
  induction n with
  | zero => intro pc L L' S h r _ _ _ hr; cases hr
  | succ n ih =>
    intro pc L L' S h r hs h1 h1' hr
    unfold mj_run at hr ⊢
    cases hc : code pc with
    | none => rw [hc] at hr; cases hr
    | some q =>
      obtain ⟨i, len⟩ := q
      rw [hc] at hr
      dsimp only at hr ⊢
      split at hr
      · rename_i hl
        rw [if_pos hl]
        split at hr
        · split at hr
          · rename_i S1 he
            first | exact ih _ _ _ _ _ _ hs h1 h1' hr | (rw [he]; exact ih _ _ _ _ _ _ hs h1 h1' hr)
          · cases hr
        · cases he : mj_loc nL i L S with
          | none => rw [he] at hr; cases hr
          | some q =>
            obtain ⟨L1, S1⟩ := q
            rw [he] at hr
            obtain ⟨L1', e1, e2, e3, e4⟩ := mj_loc_sub hs h1 h1' he
            rw [e1]
            exact ih _ _ _ _ _ _ e2 e3 e4 hr
        · split at hr
          · rename_i t S1 he
            first | exact ih _ _ _ _ _ _ hs h1 h1' hr | (rw [he]; exact ih _ _ _ _ _ _ hs h1 h1' hr)
          · cases hr
        · split at hr
          · rename_i S1 g1 he
            first | exact ih _ _ _ _ _ _ hs h1 h1' hr | (rw [he]; exact ih _ _ _ _ _ _ hs h1 h1' hr)
          · cases hr
        · cases he : mj_prim mt tl c0 i S h with
          | some q =>
            obtain ⟨S1, g1⟩ := q
            rw [he] at hr
            dsimp only at hr ⊢
            split at hr
            · rename_i hd
              rw [if_pos hd]
              exact ih _ _ _ _ _ _ hs h1 h1' hr
            · cases hr
          | none =>
            rw [he] at hr
            dsimp only at hr ⊢
            cases hi : mj_inv mt c0 i S h with
            | none => rw [hi] at hr; cases hr
            | some q =>
              obtain ⟨k, As, rest⟩ := q
              rw [hi] at hr
              cases k with
              | zero =>
                dsimp only at hr ⊢
                split at hr
                · rename_i hd
                  rw [if_pos hd]
                  exact ih _ _ _ _ _ _ hs h1 h1' hr
                · cases hr
              | succ k =>
                dsimp only at hr ⊢
                cases hcl : call k As h with
                | none => rw [hcl] at hr; cases hr
                | some q =>
                  obtain ⟨r1, g1⟩ := q
                  rw [hcl] at hr
                  exact ih _ _ _ _ _ _ hs h1 h1' hr
        · exact hr
      · cases hr
def mj_nd : List Nat → Bool
  | [] => true
  | a :: l => !l.contains a && mj_nd l
theorem mj_nd_ok : ∀ {l : List Nat}, mj_nd l = true → l.Nodup
  | [], _ => List.nodup_nil
  | a :: l, h => by
    unfold mj_nd at h
    rw [Bool.and_eq_true] at h
    refine List.nodup_cons.mpr ⟨fun z => ?_, mj_nd_ok h.2⟩
    have h1 := h.1
    rw [List.contains_iff_mem.mpr z] at h1
    cases h1
/-- at a loop's head: fewer locals, in the head's own order -/
theorem mjR_sub {call : Nat → Nat → List Value → mj_H → mj_R} {T : mj_T} {mt : mj_C} {xt : mj_X} {tl : List (FieldType × Nat)} {c0 nL dep : Nat} {ini : Bool} {ret : Option FieldType} {code : Nat → Option (Instr × Nat)} {pc : Nat} {L L' : mj_L} {S : List Value} {h h' : mj_H} {r : Option Value} (hg : L.map (fun q => mj_get L' q.1) = L.map (fun q => some q.2)) (h1 : mj_nd (L.map (fun q => q.1)) = true) (h1' : mj_nd (L'.map (fun q => q.1)) = true) (k : mjR call T mt xt tl c0 nL dep ini ret code pc L S h r h') : mjR call T mt xt tl c0 nL dep ini ret code pc L' S h r h' := by
  have one : ∀ (L : mj_L), (L.map (fun q => q.1)).Nodup → mj_one L := by
    intro L
    induction L with
    | nil => intro _ p hp; cases hp
    | cons a L ih =>
      intro hn
      rw [List.map_cons, List.nodup_cons] at hn
      intro p hp q hq e
      rcases List.mem_cons.mp hp with hp2 | hp2 <;> rcases List.mem_cons.mp hq with hq2 | hq2
      · rw [hp2, hq2]
      · exact absurd (List.mem_map.mpr ⟨q, hq2, by rw [← hp2, e]⟩) hn.1
      · exact absurd (List.mem_map.mpr ⟨p, hp2, by rw [← hq2, e]⟩) hn.1
      · exact ih hn.2 p hp2 q hq2 e
  obtain ⟨N0, hk⟩ := k
  refine ⟨N0, fun N n g1 g2 => mj_run_sub n pc L L' S h _ ?_ (one L (mj_nd_ok h1)) (one L' (mj_nd_ok h1')) (hk N n g1 g2)⟩
  intro i v hv
  have hm := mj_get_mem hv
  obtain ⟨j, hj⟩ := List.getElem?_of_mem hm
  have h2 : (L.map (fun q => mj_get L' q.1))[j]? = (L.map (fun q => some q.2))[j]? := by rw [hg]
  rw [List.getElem?_map, List.getElem?_map, hj] at h2
  exact Option.some.inj h2
