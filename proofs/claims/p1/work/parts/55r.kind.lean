set_option maxRecDepth 100000 in
set_option maxHeartbeats 40000000 in
theorem r_kind {xt : mj_X} {d : Nat} {h W : mj_H} (hn : h.length = 102) {P : Option Value → mj_H → Prop}  (k : ∀ U, U.length = 25 → mj_sl U ≤ 3000000 → P (some (.int (0 : Int32))) (h ++ (U ++ W))) : pgE xt (d + 20) 12 1 false (Option.some FieldType.int) (mj_dec prog_14_method_114_code) 0 [(0, .ref 102)] [] (h ++ (rT ++ W)) P := by
  refine me1 (pc' := 1) dm_X12_kind_0 rfl rfl rfl rfl ?_
  refine me1 (pc' := 2) dm_X12_kind_1 rfl rfl rfl rfl ?_
  refine me3 (pc' := 5) dm_X12_kind_2 (g_get (v := .int (3 : Int32)) (lu (n := 102) (j := 0) hn rfl) rfl rfl (Nat.le_of_ble_eq_true rfl)) rfl rfl rfl ?_
  refine me4 (pc' := 8) (L0 := [(0, .ref 102), (1, .int (3 : Int32))]) dm_X12_kind_5 rfl (g_inv (As := [.int (3 : Int32)]) (lu (n := 102) (j := 0) hn rfl) rfl rfl rfl (Nat.le_of_ble_eq_true rfl)) pm_X12_kindOf rfl (Nat.le_of_ble_eq_true rfl) rfl rfl rfl ?_
  refine me1 (pc' := 1) dm_X12_kindOf_0 rfl rfl rfl rfl ?_
  refine me3 (pc' := 4) dm_X12_kindOf_1 (g_get (v := .ref 105) (lu (n := 102) (j := 0) hn rfl) rfl rfl (Nat.le_of_ble_eq_true rfl)) rfl rfl rfl ?_
  refine me1 (pc' := 5) dm_X12_kindOf_4 rfl rfl rfl rfl ?_
  refine me3 (pc' := 6) dm_X12_kindOf_5 (g_iald (v := (8 : Int32)) (lu (n := 102) (j := 3) hn rfl) rfl (by decide) rfl (Nat.le_of_ble_eq_true rfl)) rfl rfl rfl ?_
  refine me0 (pc' := 8) (S' := .int (7 : Int32) :: _) dm_X12_kindOf_6 rfl rfl rfl rfl ?_
  refine me0 (pc' := 9) (S' := .int (0 : Int32) :: _) dm_X12_kindOf_8 rfl rfl rfl rfl ?_
  refine me5 dm_X12_kindOf_9 rfl rfl rfl ?_
  refine me5 dm_X12_kind_8 rfl rfl rfl ?_
  exact k _ rfl (Nat.le_of_ble_eq_true rfl)
