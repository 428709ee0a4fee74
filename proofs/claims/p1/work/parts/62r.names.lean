set_option maxRecDepth 100000 in
set_option maxHeartbeats 40000000 in
theorem r_names_lt {xt : mj_X} {d : Nat} {h W : mj_H} (hn : h.length = 102) {P : Option Value → mj_H → Prop} {p0 : Int32} (hh0 : p0.toInt ≤ -1) (k : ∀ U, U.length = 25 → mj_sl U ≤ 3000000 → P (some (.int (-1 : Int32))) (h ++ (U ++ W))) : pgE xt (d + 20) 12 2 false (Option.some FieldType.int) (mj_dec prog_14_method_121_code) 0 [(0, .ref 102), (1, .int p0)] [] (h ++ (rT ++ W)) P := by
  refine me1 (pc' := 1) dm_X12_names_0 rfl rfl rfl rfl ?_
  refine me_1t (pc' := 11) dm_X12_names_1 rfl (cn_t_ne (c := 0) rfl (by omega)) ?_
  refine me1 (pc' := 12) dm_X12_names_11 rfl rfl rfl rfl ?_
  refine me0 (pc' := 13) (S' := .int (1 : Int32) :: _) dm_X12_names_12 rfl rfl rfl rfl ?_
  refine me_2t (pc' := 23) dm_X12_names_13 rfl (cn_t_ne (c := 1) rfl (by omega)) ?_
  refine me0 (pc' := 24) (S' := .int (-1 : Int32) :: _) dm_X12_names_23 rfl rfl rfl rfl ?_
  refine me5 dm_X12_names_24 rfl rfl rfl ?_
  exact k _ rfl (Nat.le_of_ble_eq_true rfl)
set_option maxRecDepth 100000 in
set_option maxHeartbeats 40000000 in
theorem r_names_v0 {xt : mj_X} {d : Nat} {h W : mj_H} (hn : h.length = 102) {P : Option Value → mj_H → Prop}  (k : ∀ U, U.length = 25 → mj_sl U ≤ 3000000 → P (some (.int (0 : Int32))) (h ++ (U ++ W))) : pgE xt (d + 20) 12 2 false (Option.some FieldType.int) (mj_dec prog_14_method_121_code) 0 [(0, .ref 102), (1, .int (0 : Int32))] [] (h ++ (rT ++ W)) P := by
  refine me1 (pc' := 1) dm_X12_names_0 rfl rfl rfl rfl ?_
  refine me_1f (pc' := 4) dm_X12_names_1 rfl (by decide) rfl ?_
  refine me1 (pc' := 5) dm_X12_names_4 rfl rfl rfl rfl ?_
  refine me3 (pc' := 8) dm_X12_names_5 (g_get (v := .int (0 : Int32)) (lu (n := 102) (j := 0) hn rfl) rfl rfl (Nat.le_of_ble_eq_true rfl)) rfl rfl rfl ?_
  refine me2 (pc' := 24) dm_X12_names_8 rfl rfl rfl ?_
  refine me5 dm_X12_names_24 rfl rfl rfl ?_
  exact k _ rfl (Nat.le_of_ble_eq_true rfl)
set_option maxRecDepth 100000 in
set_option maxHeartbeats 40000000 in
theorem r_names_v1 {xt : mj_X} {d : Nat} {h W : mj_H} (hn : h.length = 102) {P : Option Value → mj_H → Prop}  (k : ∀ U, U.length = 25 → mj_sl U ≤ 3000000 → P (some (.int (0 : Int32))) (h ++ (U ++ W))) : pgE xt (d + 20) 12 2 false (Option.some FieldType.int) (mj_dec prog_14_method_121_code) 0 [(0, .ref 102), (1, .int (1 : Int32))] [] (h ++ (rT ++ W)) P := by
  refine me1 (pc' := 1) dm_X12_names_0 rfl rfl rfl rfl ?_
  refine me_1t (pc' := 11) dm_X12_names_1 rfl rfl ?_
  refine me1 (pc' := 12) dm_X12_names_11 rfl rfl rfl rfl ?_
  refine me0 (pc' := 13) (S' := .int (1 : Int32) :: _) dm_X12_names_12 rfl rfl rfl rfl ?_
  refine me_2f (pc' := 16) dm_X12_names_13 rfl (by decide) rfl ?_
  refine me1 (pc' := 17) dm_X12_names_16 rfl rfl rfl rfl ?_
  refine me3 (pc' := 20) dm_X12_names_17 (g_get (v := .int (0 : Int32)) (lu (n := 102) (j := 0) hn rfl) rfl rfl (Nat.le_of_ble_eq_true rfl)) rfl rfl rfl ?_
  refine me2 (pc' := 24) dm_X12_names_20 rfl rfl rfl ?_
  refine me5 dm_X12_names_24 rfl rfl rfl ?_
  exact k _ rfl (Nat.le_of_ble_eq_true rfl)
set_option maxRecDepth 100000 in
set_option maxHeartbeats 40000000 in
theorem r_names_ge {xt : mj_X} {d : Nat} {h W : mj_H} (hn : h.length = 102) {P : Option Value → mj_H → Prop} {p0 : Int32} (hl0 : 2 ≤ p0.toInt) (k : ∀ U, U.length = 25 → mj_sl U ≤ 3000000 → P (some (.int (-1 : Int32))) (h ++ (U ++ W))) : pgE xt (d + 20) 12 2 false (Option.some FieldType.int) (mj_dec prog_14_method_121_code) 0 [(0, .ref 102), (1, .int p0)] [] (h ++ (rT ++ W)) P := by
  refine me1 (pc' := 1) dm_X12_names_0 rfl rfl rfl rfl ?_
  refine me_1t (pc' := 11) dm_X12_names_1 rfl (cn_t_ne (c := 0) rfl (by omega)) ?_
  refine me1 (pc' := 12) dm_X12_names_11 rfl rfl rfl rfl ?_
  refine me0 (pc' := 13) (S' := .int (1 : Int32) :: _) dm_X12_names_12 rfl rfl rfl rfl ?_
  refine me_2t (pc' := 23) dm_X12_names_13 rfl (cn_t_ne (c := 1) rfl (by omega)) ?_
  refine me0 (pc' := 24) (S' := .int (-1 : Int32) :: _) dm_X12_names_23 rfl rfl rfl rfl ?_
  refine me5 dm_X12_names_24 rfl rfl rfl ?_
  exact k _ rfl (Nat.le_of_ble_eq_true rfl)
