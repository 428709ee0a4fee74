/-! mj: all steps on the heap in one; what they keep -/
/-- statics: values that are from without -/
def mj_okS0 (c0 : Nat) (T : mj_T) : Prop := ∀ x v, T.2.2.2.2.2 x = some v → mj_vok c0 v
theorem mj_hp_ok {T : mj_T} {xt : mj_X} {tl : List (FieldType × Nat)} {c0 : Nat} {ini : Bool} {i : Instr} {S S' : List Value} {h h' : mj_H} (hs : mj_hp T xt tl c0 ini i S h = some (S', h')) (hS0 : mj_okS0 c0 T) (hN : ∀ x ci fs, T.2.2.2.1 x = some (ci, fs) → ∀ v ∈ fs, ∀ k, v ≠ .ref k) (hc : c0 ≤ h.length) (hh : mj_hok h.length h) (hS : mj_sok h.length S) :
    h.length ≤ h'.length ∧ mj_sl h ≤ mj_sl h' ∧ mj_hok h'.length h' ∧ mj_sok h'.length S' := by
  have q1 : ∀ {x}, mj_gf T c0 x S h = some (S', h') → h.length ≤ h'.length ∧ mj_sl h ≤ mj_sl h' ∧ mj_hok h'.length h' ∧ mj_sok h'.length S' := fun hs => by
    unfold mj_gf at hs
    split at hs
    · split at hs
      · split at hs
        · rename_i c1 fs he
          split at hs
          · obtain ⟨v, hv, h2⟩ := mj_map_spec hs
            obtain ⟨rfl, rfl⟩ := Prod.mk.inj h2
            exact ⟨Nat.le_refl _, Nat.le_refl _, hh, mj_sok_cons.mpr ⟨hh _ (List.mem_of_getElem? he) v (List.mem_of_getElem? hv), (mj_sok_cons.mp hS).2⟩⟩
          · cases hs
        · cases hs
      · cases hs
    · cases hs
  have put : ∀ {a : Nat} {e e' : mj_E} {S0 : List Value}, h[a]? = some e → mj_sl1 e' = mj_sl1 e → mj_eok h.length e' → mj_sok h.length S0 → h.length ≤ (h.set a e').length ∧ mj_sl h ≤ mj_sl (h.set a e') ∧ mj_hok (h.set a e').length (h.set a e') ∧ mj_sok (h.set a e').length S0 := fun he h1 h2 h3 => by
    rw [List.length_set]
    refine ⟨Nat.le_refl _, by rw [mj_sl_set he h1]; exact Nat.le_refl _, fun z hz => ?_, h3⟩
    rcases List.mem_or_eq_of_mem_set hz with hz | rfl
    · exact hh z hz
    · exact h2
  have q2 : ∀ {x}, mj_pf T c0 ini x S h = some (S', h') → h.length ≤ h'.length ∧ mj_sl h ≤ mj_sl h' ∧ mj_hok h'.length h' ∧ mj_sok h'.length S' := fun hs => by
    unfold mj_pf at hs
    split at hs
    · rename_i v a S0
      split at hs
      · split at hs
        · rename_i c1 fs he
          split at hs
          · obtain ⟨rfl, rfl⟩ := Prod.mk.inj (Option.some.inj hs)
            refine put he (by show (List.set fs _ _).length = fs.length; rw [List.length_set]) ?_ (mj_sok_cons.mp (mj_sok_cons.mp hS).2).2
            intro z hz
            rcases List.mem_or_eq_of_mem_set hz with hz | rfl
            · exact hh _ (List.mem_of_getElem? he) z hz
            · exact (mj_sok_cons.mp hS).1
          · cases hs
        · cases hs
      · cases hs
    · cases hs
  have q3 : mj_ald xt tl c0 i S h = some (S', h') → h.length ≤ h'.length ∧ mj_sl h ≤ mj_sl h' ∧ mj_hok h'.length h' ∧ mj_sok h'.length S' := fun hs => by
    unfold mj_ald at hs
    split at hs
    · have hS2 := (mj_sok_cons.mp (mj_sok_cons.mp hS).2).2
      split at hs
      · unfold mj_alx at hs
        split at hs
        · split at hs
          · cases hs
          · split at hs
            · obtain ⟨rfl, rfl⟩ := Prod.mk.inj (Option.some.inj hs); exact ⟨Nat.le_refl _, Nat.le_refl _, hh, mj_sok_cons.mpr ⟨mj_vok_int _ _, hS2⟩⟩
            · obtain ⟨rfl, rfl⟩ := Prod.mk.inj (Option.some.inj hs); exact ⟨Nat.le_refl _, Nat.le_refl _, hh, mj_sok_cons.mpr ⟨mj_vok_long _ _, hS2⟩⟩
            · obtain ⟨rfl, rfl⟩ := Prod.mk.inj (Option.some.inj hs); exact ⟨Nat.le_refl _, Nat.le_refl _, hh, mj_sok_cons.mpr ⟨mj_vok_int _ _, hS2⟩⟩
            · cases hs
        · cases hs
      · split at hs
        · split at hs
          · cases hs
          · split at hs
            all_goals first
              | (obtain ⟨rfl, rfl⟩ := Prod.mk.inj (Option.some.inj hs); exact ⟨Nat.le_refl _, Nat.le_refl _, hh, mj_sok_cons.mpr ⟨mj_vok_int _ _, hS2⟩⟩)
              | cases hs
        · split at hs
          · cases hs
          · split at hs
            all_goals first
              | (obtain ⟨rfl, rfl⟩ := Prod.mk.inj (Option.some.inj hs); exact ⟨Nat.le_refl _, Nat.le_refl _, hh, mj_sok_cons.mpr ⟨mj_vok_long _ _, hS2⟩⟩)
              | cases hs
        · rename_i t n f he
          split at hs
          · cases hs
          · split at hs
            · obtain ⟨rfl, rfl⟩ := Prod.mk.inj (Option.some.inj hs)
              refine ⟨Nat.le_refl _, Nat.le_refl _, hh, mj_sok_cons.mpr ⟨?_, hS2⟩⟩
              intro k hk
              have hf : ∀ i k, f i = some k → k < h.length := hh _ (List.mem_of_getElem? he)
              cases hfj : f (Int32.toNatClampNeg ‹Int32›) with
              | none => rw [hfj] at hk; cases hk
              | some z => rw [hfj] at hk; cases hk; exact hf _ _ hfj
            · cases hs
        · cases hs
    · cases hs
  have q4 : mj_ast tl c0 i S h = some (S', h') → h.length ≤ h'.length ∧ mj_sl h ≤ mj_sl h' ∧ mj_hok h'.length h' ∧ mj_sok h'.length S' := fun hs => by
    unfold mj_ast at hs
    split at hs
    · rename_i v j a S0
      have hS2 := (mj_sok_cons.mp (mj_sok_cons.mp (mj_sok_cons.mp hS).2).2).2
      split at hs
      · cases hs
      · split at hs
        · rename_i t n f he
          split at hs
          · cases hs
          · split at hs
            all_goals first
              | (obtain ⟨rfl, rfl⟩ := Prod.mk.inj (Option.some.inj hs); exact put he rfl trivial hS2)
              | cases hs
        · rename_i t n f he
          split at hs
          · cases hs
          · split at hs
            all_goals first
              | (obtain ⟨rfl, rfl⟩ := Prod.mk.inj (Option.some.inj hs); exact put he rfl trivial hS2)
              | cases hs
        · rename_i t n f he
          have hfo : ∀ i k, f i = some k → k < h.length := hh _ (List.mem_of_getElem? he)
          split at hs
          · cases hs
          · split at hs
            · obtain ⟨rfl, rfl⟩ := Prod.mk.inj (Option.some.inj hs)
              refine put he rfl ?_ hS2
              intro i k hik
              unfold va_up at hik
              split at hik
              · cases hik
              · exact hfo i k hik
            · split at hs
              · rename_i c1 vs hb1
                split at hs
                · obtain ⟨rfl, rfl⟩ := Prod.mk.inj (Option.some.inj hs)
                  refine put he rfl ?_ hS2
                  intro i k hik
                  unfold va_up at hik
                  split at hik
                  · cases hik; exact (List.getElem?_eq_some_iff.mp hb1).1
                  · exact hfo i k hik
                · cases hs
              · cases hs
            · cases hs
        · cases hs
    · cases hs
  have push : ∀ {e' : mj_E} {S0 : List Value}, mj_eok h.length e' → mj_sok h.length S0 → h.length ≤ (h ++ [e']).length ∧ mj_sl h ≤ mj_sl (h ++ [e']) ∧ mj_hok (h ++ [e']).length (h ++ [e']) ∧ mj_sok (h ++ [e']).length (.ref h.length :: S0) := fun h1 h2 => by
    rw [mj_sl_push]
    have hl : (h ++ [‹mj_E›]).length = h.length + 1 := by rw [List.length_append]; rfl
    rw [hl]
    refine ⟨Nat.le_succ _, Nat.le_add_right _ _, fun z hz => ?_, mj_sok_cons.mpr ⟨fun k hk => ?_, mj_sok_mono (Nat.le_succ _) h2⟩⟩
    · rcases List.mem_append.mp hz with hz | hz
      · exact mj_eok_mono (Nat.le_succ _) (hh z hz)
      · rw [List.mem_singleton.mp hz]; exact mj_eok_mono (Nat.le_succ _) h1
    · cases hk; exact Nat.lt_succ_self _
  unfold mj_hp at hs
  split at hs
  case h_1 => exact q1 hs
  case h_2 => exact q2 hs
  case h_3 => exact q3 hs
  case h_4 => exact q3 hs
  case h_5 => exact q3 hs
  case h_6 => exact q3 hs
  case h_7 => exact q4 hs
  case h_8 => exact q4 hs
  case h_9 => exact q4 hs
  case h_10 => exact q4 hs
  case h_11 =>
    unfold mj_aln at hs
    split at hs
    · split at hs
      · obtain ⟨q, hq, h2⟩ := mj_map_spec hs
        obtain ⟨rfl, rfl⟩ := Prod.mk.inj h2
        exact ⟨Nat.le_refl _, Nat.le_refl _, hh, mj_sok_cons.mpr ⟨mj_vok_int _ _, (mj_sok_cons.mp hS).2⟩⟩
      · split at hs
        · split at hs
          · obtain ⟨rfl, rfl⟩ := Prod.mk.inj (Option.some.inj hs)
            exact ⟨Nat.le_refl _, Nat.le_refl _, hh, mj_sok_cons.mpr ⟨mj_vok_int _ _, (mj_sok_cons.mp hS).2⟩⟩
          · cases hs
        · cases hs
    · cases hs
  case h_12 aty =>
    unfold mj_nwa at hs
    split at hs
    · split at hs
      · rename_i t f hna
        split at hs
        · cases hs
        · obtain ⟨rfl, rfl⟩ := Prod.mk.inj (Option.some.inj hs)
          refine push ?_ (mj_sok_cons.mp hS).2
          cases aty <;> first | (cases hna; done) | (obtain ⟨rfl, rfl⟩ := Prod.mk.inj (Option.some.inj hna); trivial)
      · cases hs
    · cases hs
  case h_13 =>
    unfold mj_nwq at hs
    split at hs
    · split at hs
      · split at hs
        · cases hs
        · obtain ⟨rfl, rfl⟩ := Prod.mk.inj (Option.some.inj hs)
          refine push ?_ (mj_sok_cons.mp hS).2
          intro i k hk
          cases hk
      · cases hs
    · cases hs
  case h_14 =>
    unfold mj_nw at hs
    split at hs
    · rename_i ci fs hT
      obtain ⟨rfl, rfl⟩ := Prod.mk.inj (Option.some.inj hs)
      refine push ?_ hS
      intro v hv k hk
      exact absurd hk (hN _ _ _ hT v hv k)
    · cases hs
  case h_15 => obtain ⟨v, -, h2⟩ := mj_map_spec hs; obtain ⟨rfl, rfl⟩ := Prod.mk.inj h2; exact ⟨Nat.le_refl _, Nat.le_refl _, hh, mj_sok_cons.mpr ⟨mj_vok_int _ _, hS⟩⟩
  case h_16 => obtain ⟨v, -, h2⟩ := mj_map_spec hs; obtain ⟨rfl, rfl⟩ := Prod.mk.inj h2; exact ⟨Nat.le_refl _, Nat.le_refl _, hh, mj_sok_cons.mpr ⟨mj_vok_int _ _, hS⟩⟩
  case h_17 => obtain ⟨v, -, h2⟩ := mj_map_spec hs; obtain ⟨rfl, rfl⟩ := Prod.mk.inj h2; exact ⟨Nat.le_refl _, Nat.le_refl _, hh, mj_sok_cons.mpr ⟨mj_vok_long _ _, hS⟩⟩
  case h_18 => obtain ⟨v, hv, h2⟩ := mj_map_spec hs; obtain ⟨rfl, rfl⟩ := Prod.mk.inj h2; exact ⟨Nat.le_refl _, Nat.le_refl _, hh, mj_sok_cons.mpr ⟨mj_vok_mono hc (hS0 _ _ hv), hS⟩⟩
  case h_19 => cases hs
