def pg_Tg : List Cond := pg_Ts.filter goodWord
def pg_Ns : List Cond := pg_Ts.filter mj_xw
theorem pg_gx : (pg_Ts.all fun w => goodWord w || mj_xw w) = true := by decide +kernel
theorem pg_Tgn : ∀ w ∈ pg_Ts, w ∈ pg_Tg ++ pg_Ns := by
  intro w hw
  have h := List.all_eq_true.mp pg_gx w hw
  rw [Bool.or_eq_true] at h
  exact h.elim (fun z => List.mem_append_left _ (List.mem_filter.mpr ⟨hw, z⟩)) (fun z => List.mem_append_right _ (List.mem_filter.mpr ⟨hw, z⟩))
theorem pg_okQ : pg_c5.all mj_chQ2 = true := by decide +kernel
theorem pg_oktl : mj_chtl pg_c5 pg_tl = true := by decide +kernel
theorem pg_okM : pg_ms.all (mj_chM pg_c5 pg_TL) = true := by decide +kernel
theorem pg_okL : pg_TL.all (mj_chT1 pg_c5 pg_tl pg_zl pg_ms 2) = true := by decide +kernel
theorem pg_okP (xa : Nat → Nat) : mj_okP pg_Tg pg_Ns (mj_Zof pg_zl xa) (mj_cl pg_c5) pg_tl 2 xa (mj_mmof pg_ms) (mj_TTof pg_TL) (mj_nmof pg_TL) := mj_okP_of xa pg_Tgn (fun w hw => good_of_word (List.mem_filter.mp hw).2) (fun w hw => (List.mem_filter.mp hw).2) pg_okQ pg_oktl pg_okM pg_okL
