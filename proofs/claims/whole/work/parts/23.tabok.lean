set_option maxRecDepth 100000 in
theorem pg_wsb : sb_ws = ([764, 768, 772, 778, 782, 197, 762, 766, 770, 776, 780, 763, 767, 771, 777, 781, 761, 765, 769, 775, 779, 783, 773, 2271, 2272, 242, 243, 385, 1796, 211, 212, 785, 198, 784, 788, 198, 787, 795, 198, 794, 786, 789, 790, 196, 791, 792, 690, 196, 691, 793] : List Nat).filterMap (fun i => lw_tbl[i]?) := rfl
def pg_Tx : List Cond := pg_Ts ++ sb_ws
theorem pg_Tx_in : ∀ w ∈ pg_Tx, w ∈ lw_tbl := fun w hw => (List.mem_append.mp hw).elim (pg_Ts_in w) (pg_in pg_wsb w)
def pg_Tg : List Cond := pg_Tx.filter goodWord
theorem pg_sbT : ∀ w ∈ sb_ws, w ∈ pg_Tg := fun w hw => List.mem_filter.mpr ⟨List.mem_append_right _ hw, sb_wg hw⟩
def pg_Ns : List Cond := pg_Ts.filter mj_xw
theorem pg_gx : (pg_Ts.all fun w => goodWord w || mj_xw w) = true := by decide +kernel
theorem pg_Tgn : ∀ w ∈ pg_Ts, w ∈ pg_Tg ++ pg_Ns := by
  intro w hw
  have h := List.all_eq_true.mp pg_gx w hw
  rw [Bool.or_eq_true] at h
  exact h.elim (fun z => List.mem_append_left _ (List.mem_filter.mpr ⟨List.mem_append_left _ hw, z⟩)) (fun z => List.mem_append_right _ (List.mem_filter.mpr ⟨hw, z⟩))
theorem pg_okQ : pg_c5.all mj_chQ2 = true := by decide +kernel
theorem pg_oktl : mj_chtl pg_c5 pg_tl = true := by decide +kernel
theorem pg_okM : pg_ms.all (mj_chM pg_c5 pg_TL) = true := by decide +kernel
theorem pg_okL : pg_TL.all (mj_chT1 pg_c5 pg_tl pg_zl pg_ms 2) = true := by decide +kernel
theorem pg_okP (xa : Nat → Nat) (X : List (String × String × String × Value)) (E : List (String × Nat × String × Nat) × (Nat × List Nat × List (List Int32) × (Nat → Nat) × (Nat → Nat)) × (Nat × Nat)) : mj_okP pg_Tg pg_Ns (mj_Zof pg_zl xa X E) (mj_cl pg_c5) pg_tl 2 xa (mj_mmof pg_ms) (mj_TTof pg_TL) (mj_nmof pg_TL) := mj_okP_of xa X E pg_Tgn (fun w hw => good_of_word (List.mem_filter.mp hw).2) (fun w hw => (List.mem_filter.mp hw).2) pg_okQ pg_oktl pg_okM pg_okL
