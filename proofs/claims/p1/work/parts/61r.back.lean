set_option maxRecDepth 100000 in
set_option maxHeartbeats 40000000 in
theorem r_back_lt {xt : mj_X} {d : Nat} {h W : mj_H} (hn : h.length = 102) {P : Option Value → mj_H → Prop} {p0 : Int32} (hh0 : p0.toInt ≤ -1) (k : ∀ U, U.length = 25 → mj_sl U ≤ 3000000 → P (some (.int (0 : Int32))) (h ++ (U ++ W))) : pgE xt (d + 20) 12 3 false (Option.some FieldType.boolean) (mj_dec prog_14_method_120_code) 0 [(0, .ref 102), (1, .int p0)] [] (h ++ (rT ++ W)) P := by
  refine me1 (pc' := 1) dm_X12_back_0 rfl rfl rfl rfl ?_
  refine me_1t (pc' := 18) dm_X12_back_1 rfl (cn_t_lt (c := 0) rfl (by omega)) ?_
  refine me0 (pc' := 19) (S' := .int (0 : Int32) :: _) dm_X12_back_18 rfl rfl rfl rfl ?_
  refine me5 dm_X12_back_19 rfl rfl rfl ?_
  exact k _ rfl (Nat.le_of_ble_eq_true rfl)
set_option maxRecDepth 100000 in
set_option maxHeartbeats 40000000 in
theorem r_back_v0 {xt : mj_X} {d : Nat} {h W : mj_H} (hn : h.length = 102) {P : Option Value → mj_H → Prop}  (k : ∀ U, U.length = 25 → mj_sl U ≤ 3000000 → P (some (.int (0 : Int32))) (h ++ (U ++ W))) : pgE xt (d + 20) 12 3 false (Option.some FieldType.boolean) (mj_dec prog_14_method_120_code) 0 [(0, .ref 102), (1, .int (0 : Int32))] [] (h ++ (rT ++ W)) P := by
  refine me1 (pc' := 1) dm_X12_back_0 rfl rfl rfl rfl ?_
  refine me_1f (pc' := 4) dm_X12_back_1 rfl (by decide) rfl ?_
  refine me1 (pc' := 5) dm_X12_back_4 rfl rfl rfl rfl ?_
  refine me0 (pc' := 6) (S' := .int (3 : Int32) :: _) dm_X12_back_5 rfl rfl rfl rfl ?_
  refine me_2f (pc' := 9) dm_X12_back_6 rfl (by decide) rfl ?_
  refine me1 (pc' := 10) dm_X12_back_9 rfl rfl rfl rfl ?_
  refine me3 (pc' := 13) dm_X12_back_10 (g_get (v := .ref 118) (lu (n := 102) (j := 0) hn rfl) rfl rfl (Nat.le_of_ble_eq_true rfl)) rfl rfl rfl ?_
  refine me1 (pc' := 14) dm_X12_back_13 rfl rfl rfl rfl ?_
  refine me3 (pc' := 15) dm_X12_back_14 (g_zald (v := (0 : Int32)) (lu (n := 102) (j := 16) hn rfl) rfl (by decide) rfl (Nat.le_of_ble_eq_true rfl)) rfl rfl rfl ?_
  refine me_1f (pc' := 18) dm_X12_back_15 rfl (by decide) rfl ?_
  refine me0 (pc' := 19) (S' := .int (0 : Int32) :: _) dm_X12_back_18 rfl rfl rfl rfl ?_
  refine me5 dm_X12_back_19 rfl rfl rfl ?_
  exact k _ rfl (Nat.le_of_ble_eq_true rfl)
set_option maxRecDepth 100000 in
set_option maxHeartbeats 40000000 in
theorem r_back_v1 {xt : mj_X} {d : Nat} {h W : mj_H} (hn : h.length = 102) {P : Option Value → mj_H → Prop}  (k : ∀ U, U.length = 25 → mj_sl U ≤ 3000000 → P (some (.int (0 : Int32))) (h ++ (U ++ W))) : pgE xt (d + 20) 12 3 false (Option.some FieldType.boolean) (mj_dec prog_14_method_120_code) 0 [(0, .ref 102), (1, .int (1 : Int32))] [] (h ++ (rT ++ W)) P := by
  refine me1 (pc' := 1) dm_X12_back_0 rfl rfl rfl rfl ?_
  refine me_1f (pc' := 4) dm_X12_back_1 rfl (by decide) rfl ?_
  refine me1 (pc' := 5) dm_X12_back_4 rfl rfl rfl rfl ?_
  refine me0 (pc' := 6) (S' := .int (3 : Int32) :: _) dm_X12_back_5 rfl rfl rfl rfl ?_
  refine me_2f (pc' := 9) dm_X12_back_6 rfl (by decide) rfl ?_
  refine me1 (pc' := 10) dm_X12_back_9 rfl rfl rfl rfl ?_
  refine me3 (pc' := 13) dm_X12_back_10 (g_get (v := .ref 118) (lu (n := 102) (j := 0) hn rfl) rfl rfl (Nat.le_of_ble_eq_true rfl)) rfl rfl rfl ?_
  refine me1 (pc' := 14) dm_X12_back_13 rfl rfl rfl rfl ?_
  refine me3 (pc' := 15) dm_X12_back_14 (g_zald (v := (0 : Int32)) (lu (n := 102) (j := 16) hn rfl) rfl (by decide) rfl (Nat.le_of_ble_eq_true rfl)) rfl rfl rfl ?_
  refine me_1f (pc' := 18) dm_X12_back_15 rfl (by decide) rfl ?_
  refine me0 (pc' := 19) (S' := .int (0 : Int32) :: _) dm_X12_back_18 rfl rfl rfl rfl ?_
  refine me5 dm_X12_back_19 rfl rfl rfl ?_
  exact k _ rfl (Nat.le_of_ble_eq_true rfl)
set_option maxRecDepth 100000 in
set_option maxHeartbeats 40000000 in
theorem r_back_v2 {xt : mj_X} {d : Nat} {h W : mj_H} (hn : h.length = 102) {P : Option Value → mj_H → Prop}  (k : ∀ U, U.length = 25 → mj_sl U ≤ 3000000 → P (some (.int (0 : Int32))) (h ++ (U ++ W))) : pgE xt (d + 20) 12 3 false (Option.some FieldType.boolean) (mj_dec prog_14_method_120_code) 0 [(0, .ref 102), (1, .int (2 : Int32))] [] (h ++ (rT ++ W)) P := by
  refine me1 (pc' := 1) dm_X12_back_0 rfl rfl rfl rfl ?_
  refine me_1f (pc' := 4) dm_X12_back_1 rfl (by decide) rfl ?_
  refine me1 (pc' := 5) dm_X12_back_4 rfl rfl rfl rfl ?_
  refine me0 (pc' := 6) (S' := .int (3 : Int32) :: _) dm_X12_back_5 rfl rfl rfl rfl ?_
  refine me_2f (pc' := 9) dm_X12_back_6 rfl (by decide) rfl ?_
  refine me1 (pc' := 10) dm_X12_back_9 rfl rfl rfl rfl ?_
  refine me3 (pc' := 13) dm_X12_back_10 (g_get (v := .ref 118) (lu (n := 102) (j := 0) hn rfl) rfl rfl (Nat.le_of_ble_eq_true rfl)) rfl rfl rfl ?_
  refine me1 (pc' := 14) dm_X12_back_13 rfl rfl rfl rfl ?_
  refine me3 (pc' := 15) dm_X12_back_14 (g_zald (v := (0 : Int32)) (lu (n := 102) (j := 16) hn rfl) rfl (by decide) rfl (Nat.le_of_ble_eq_true rfl)) rfl rfl rfl ?_
  refine me_1f (pc' := 18) dm_X12_back_15 rfl (by decide) rfl ?_
  refine me0 (pc' := 19) (S' := .int (0 : Int32) :: _) dm_X12_back_18 rfl rfl rfl rfl ?_
  refine me5 dm_X12_back_19 rfl rfl rfl ?_
  exact k _ rfl (Nat.le_of_ble_eq_true rfl)
set_option maxRecDepth 100000 in
set_option maxHeartbeats 40000000 in
theorem r_back_v3 {xt : mj_X} {d : Nat} {h W : mj_H} (hn : h.length = 102) {P : Option Value → mj_H → Prop}  (k : ∀ U, U.length = 25 → mj_sl U ≤ 3000000 → P (some (.int (0 : Int32))) (h ++ (U ++ W))) : pgE xt (d + 20) 12 3 false (Option.some FieldType.boolean) (mj_dec prog_14_method_120_code) 0 [(0, .ref 102), (1, .int (3 : Int32))] [] (h ++ (rT ++ W)) P := by
  refine me1 (pc' := 1) dm_X12_back_0 rfl rfl rfl rfl ?_
  refine me_1f (pc' := 4) dm_X12_back_1 rfl (by decide) rfl ?_
  refine me1 (pc' := 5) dm_X12_back_4 rfl rfl rfl rfl ?_
  refine me0 (pc' := 6) (S' := .int (3 : Int32) :: _) dm_X12_back_5 rfl rfl rfl rfl ?_
  refine me_2f (pc' := 9) dm_X12_back_6 rfl (by decide) rfl ?_
  refine me1 (pc' := 10) dm_X12_back_9 rfl rfl rfl rfl ?_
  refine me3 (pc' := 13) dm_X12_back_10 (g_get (v := .ref 118) (lu (n := 102) (j := 0) hn rfl) rfl rfl (Nat.le_of_ble_eq_true rfl)) rfl rfl rfl ?_
  refine me1 (pc' := 14) dm_X12_back_13 rfl rfl rfl rfl ?_
  refine me3 (pc' := 15) dm_X12_back_14 (g_zald (v := (0 : Int32)) (lu (n := 102) (j := 16) hn rfl) rfl (by decide) rfl (Nat.le_of_ble_eq_true rfl)) rfl rfl rfl ?_
  refine me_1f (pc' := 18) dm_X12_back_15 rfl (by decide) rfl ?_
  refine me0 (pc' := 19) (S' := .int (0 : Int32) :: _) dm_X12_back_18 rfl rfl rfl rfl ?_
  refine me5 dm_X12_back_19 rfl rfl rfl ?_
  exact k _ rfl (Nat.le_of_ble_eq_true rfl)
set_option maxRecDepth 100000 in
set_option maxHeartbeats 40000000 in
theorem r_back_ge {xt : mj_X} {d : Nat} {h W : mj_H} (hn : h.length = 102) {P : Option Value → mj_H → Prop} {p0 : Int32} (hl0 : 4 ≤ p0.toInt) (k : ∀ U, U.length = 25 → mj_sl U ≤ 3000000 → P (some (.int (0 : Int32))) (h ++ (U ++ W))) : pgE xt (d + 20) 12 3 false (Option.some FieldType.boolean) (mj_dec prog_14_method_120_code) 0 [(0, .ref 102), (1, .int p0)] [] (h ++ (rT ++ W)) P := by
  refine me1 (pc' := 1) dm_X12_back_0 rfl rfl rfl rfl ?_
  refine me_1f (pc' := 4) dm_X12_back_1 rfl (cn_f_lt (c := 0) rfl (by omega)) rfl ?_
  refine me1 (pc' := 5) dm_X12_back_4 rfl rfl rfl rfl ?_
  refine me0 (pc' := 6) (S' := .int (3 : Int32) :: _) dm_X12_back_5 rfl rfl rfl rfl ?_
  refine me_2t (pc' := 18) dm_X12_back_6 rfl (cn_t_gt (c := 3) rfl (by omega)) ?_
  refine me0 (pc' := 19) (S' := .int (0 : Int32) :: _) dm_X12_back_18 rfl rfl rfl rfl ?_
  refine me5 dm_X12_back_19 rfl rfl rfl ?_
  exact k _ rfl (Nat.le_of_ble_eq_true rfl)
