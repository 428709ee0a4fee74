/-! Arrays.copyOf of a whole array: its clone -/
theorem dm_J7_copyOf_c38d5_6 : mj_dec prog_23_method_124_code 6 = some (.aload_n 0, 1) := by decide +kernel
theorem dm_J7_copyOf_c38d5_7 : mj_dec prog_23_method_124_code 7 = some (.invokevirtual 319, 3) := by decide +kernel
theorem dm_J7_copyOf_c38d5_10 : mj_dec prog_23_method_124_code 10 = some (.checkcast 320, 3) := by decide +kernel
theorem dm_J7_copyOf_c38d5_13 : mj_dec prog_23_method_124_code 13 = some (.areturn, 1) := by decide +kernel
theorem p_clone {h : mj_H} {b n : Nat} {f : Nat → Int64} (hb : h[b]? = some (cJ n f)) (hb2 : 2 ≤ b) : mj_prim (mj_TTof pg_TL 15).2 pg_tl 2 (.invokevirtual 319) [.ref b] h = some ([.ref h.length], h ++ [cJ n (va_cpy f (fun _ => 0) 0 0 n)]) := by
  have hm : (mj_TTof pg_TL 15).2 319 = some (4, 8, 0, 0) := rfl
  unfold mj_prim
  simp only [hm, hb]
  rw [if_pos ⟨by decide, hb2, by decide, by decide⟩]
theorem p_castA {h : mj_H} {b n : Nat} {f : Nat → Int64} (hb : h[b]? = some (cJ n f)) (hb2 : 2 ≤ b) : mj_prim (mj_TTof pg_TL 15).2 pg_tl 2 (.checkcast 320) [.ref b] h = some ([.ref b], h) := by
  have hm : (mj_TTof pg_TL 15).2 320 = some (4, 9, 0, 0) := rfl
  unfold mj_prim
  simp only [hm, hb]
  rw [if_pos ⟨hb2, by decide, by decide⟩]
theorem clone_ok (xt : mj_X) : cloneOK xt := by
  intro d b n q h f hd hl hq hb_ hb2 hn
  subst hq
  refine x_enter pm_J7_copyOf_c38d5 (L0 := [(0, .ref b), (1, ii (n : Int))]) rfl (Nat.le_of_ble_eq_true rfl) (by omega) ?_
  refine me1 (pc' := 1) (L' := [(0, .ref b), (1, ii (n : Int))]) (S' := [ii (n : Int)]) dm_J7_copyOf_c38d5_0 rfl rfl rfl rfl ?_
  refine me1 (pc' := 2) (L' := [(0, .ref b), (1, ii (n : Int))]) (S' := [.ref b, ii (n : Int)]) dm_J7_copyOf_c38d5_1 rfl rfl rfl rfl ?_
  refine me3 (pc' := 3) (S' := [ii (n : Int), ii (n : Int)]) dm_J7_copyOf_c38d5_2 (yh_len (n := n) rfl hb_ hb2) rfl rfl rfl ?_
  refine y_2ne (a := (n : Int)) (b := (n : Int)) (t := 14) (pc' := 6) dm_J7_copyOf_c38d5_3 rfl rfl (by omega) (fun hb1 => absurd rfl hb1) (fun _ => ?_)
  refine me1 (pc' := 7) (L' := [(0, .ref b), (1, ii (n : Int))]) (S' := [.ref b]) dm_J7_copyOf_c38d5_6 rfl rfl rfl rfl ?_
  refine me4p (pc' := 10) (S' := [.ref h.length]) (h1 := h ++ [cJ n (va_cpy f (fun _ => 0) 0 0 n)]) dm_J7_copyOf_c38d5_7 (p_clone hb_ hb2) (by omega) rfl rfl rfl ?_
  refine me4p (pc' := 13) (S' := [.ref h.length]) (h1 := h ++ [cJ n (va_cpy f (fun _ => 0) 0 0 n)]) dm_J7_copyOf_c38d5_10 (p_castA hl_new (by omega)) (by omega) rfl rfl rfl ?_
  refine y_ret (r := some (.ref h.length)) dm_J7_copyOf_c38d5_13 rfl rfl rfl ?_
  exact ⟨_, rfl, rfl, rfl⟩
