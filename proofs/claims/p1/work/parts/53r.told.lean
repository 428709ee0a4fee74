set_option maxRecDepth 100000 in
set_option maxHeartbeats 40000000 in
theorem r_told_lt {xt : mj_X} {d : Nat} {h W : mj_H} (hn : h.length = 102) {P : Option Value → mj_H → Prop} {p0 : Int32} (hh0 : p0.toInt ≤ -1) (k : ∀ U, U.length = 25 → mj_sl U ≤ 3000000 → P (some (.int (-1 : Int32))) (h ++ (U ++ W))) : pgE xt (d + 20) 12 2 false (Option.some FieldType.int) (mj_dec prog_14_method_112_code) 0 [(0, .ref 102), (1, .int p0)] [] (h ++ (rT ++ W)) P := by
  refine me1 (pc' := 1) dm_X12_told_0 rfl rfl rfl rfl ?_
  refine me2 (pc' := 52) dm_X12_told_1 (sw_tdef [0, 1, 2, 3] rfl rfl rfl ⟨(cn_f_eq (c := 0) rfl (by omega)), (cn_f_eq (c := 1) rfl (by omega)), (cn_f_eq (c := 2) rfl (by omega)), (cn_f_eq (c := 3) rfl (by omega)), trivial⟩) rfl rfl ?_
  refine me0 (pc' := 53) (S' := .int (-1 : Int32) :: _) dm_X12_told_52 rfl rfl rfl rfl ?_
  refine me5 dm_X12_told_53 rfl rfl rfl ?_
  exact k _ rfl (Nat.le_of_ble_eq_true rfl)
set_option maxRecDepth 100000 in
set_option maxHeartbeats 40000000 in
theorem r_told_v0 {xt : mj_X} {d : Nat} {h W : mj_H} (hn : h.length = 102) {P : Option Value → mj_H → Prop}  (k : ∀ U, U.length = 25 → mj_sl U ≤ 3000000 → P (some (.int (0 : Int32))) (h ++ (U ++ W))) : pgE xt (d + 20) 12 2 false (Option.some FieldType.int) (mj_dec prog_14_method_112_code) 0 [(0, .ref 102), (1, .int (0 : Int32))] [] (h ++ (rT ++ W)) P := by
  refine me1 (pc' := 1) dm_X12_told_0 rfl rfl rfl rfl ?_
  refine me2 (pc' := 32) dm_X12_told_1 rfl rfl rfl ?_
  refine me1 (pc' := 33) dm_X12_told_32 rfl rfl rfl rfl ?_
  refine me3 (pc' := 36) dm_X12_told_33 (g_get (v := .int (0 : Int32)) (lu (n := 102) (j := 0) hn rfl) rfl rfl (Nat.le_of_ble_eq_true rfl)) rfl rfl rfl ?_
  refine me5 dm_X12_told_36 rfl rfl rfl ?_
  exact k _ rfl (Nat.le_of_ble_eq_true rfl)
set_option maxRecDepth 100000 in
set_option maxHeartbeats 40000000 in
theorem r_told_v1 {xt : mj_X} {d : Nat} {h W : mj_H} (hn : h.length = 102) {P : Option Value → mj_H → Prop}  (k : ∀ U, U.length = 25 → mj_sl U ≤ 3000000 → P (some (.int (-1 : Int32))) (h ++ (U ++ W))) : pgE xt (d + 20) 12 2 false (Option.some FieldType.int) (mj_dec prog_14_method_112_code) 0 [(0, .ref 102), (1, .int (1 : Int32))] [] (h ++ (rT ++ W)) P := by
  refine me1 (pc' := 1) dm_X12_told_0 rfl rfl rfl rfl ?_
  refine me2 (pc' := 37) dm_X12_told_1 rfl rfl rfl ?_
  refine me1 (pc' := 38) dm_X12_told_37 rfl rfl rfl rfl ?_
  refine me3 (pc' := 41) dm_X12_told_38 (g_get (v := .int (-1 : Int32)) (lu (n := 102) (j := 0) hn rfl) rfl rfl (Nat.le_of_ble_eq_true rfl)) rfl rfl rfl ?_
  refine me5 dm_X12_told_41 rfl rfl rfl ?_
  exact k _ rfl (Nat.le_of_ble_eq_true rfl)
set_option maxRecDepth 100000 in
set_option maxHeartbeats 40000000 in
theorem r_told_v2 {xt : mj_X} {d : Nat} {h W : mj_H} (hn : h.length = 102) {P : Option Value → mj_H → Prop}  (k : ∀ U, U.length = 25 → mj_sl U ≤ 3000000 → P (some (.int (0 : Int32))) (h ++ (U ++ W))) : pgE xt (d + 20) 12 2 false (Option.some FieldType.int) (mj_dec prog_14_method_112_code) 0 [(0, .ref 102), (1, .int (2 : Int32))] [] (h ++ (rT ++ W)) P := by
  refine me1 (pc' := 1) dm_X12_told_0 rfl rfl rfl rfl ?_
  refine me2 (pc' := 42) dm_X12_told_1 rfl rfl rfl ?_
  refine me1 (pc' := 43) dm_X12_told_42 rfl rfl rfl rfl ?_
  refine me3 (pc' := 46) dm_X12_told_43 (g_get (v := .int (0 : Int32)) (lu (n := 102) (j := 0) hn rfl) rfl rfl (Nat.le_of_ble_eq_true rfl)) rfl rfl rfl ?_
  refine me5 dm_X12_told_46 rfl rfl rfl ?_
  exact k _ rfl (Nat.le_of_ble_eq_true rfl)
set_option maxRecDepth 100000 in
set_option maxHeartbeats 40000000 in
theorem r_told_v3 {xt : mj_X} {d : Nat} {h W : mj_H} (hn : h.length = 102) {P : Option Value → mj_H → Prop}  (k : ∀ U, U.length = 25 → mj_sl U ≤ 3000000 → P (some (.int (500000 : Int32))) (h ++ (U ++ W))) : pgE xt (d + 20) 12 2 false (Option.some FieldType.int) (mj_dec prog_14_method_112_code) 0 [(0, .ref 102), (1, .int (3 : Int32))] [] (h ++ (rT ++ W)) P := by
  refine me1 (pc' := 1) dm_X12_told_0 rfl rfl rfl rfl ?_
  refine me2 (pc' := 47) dm_X12_told_1 rfl rfl rfl ?_
  refine me1 (pc' := 48) dm_X12_told_47 rfl rfl rfl rfl ?_
  refine me3 (pc' := 51) dm_X12_told_48 (g_get (v := .int (500000 : Int32)) (lu (n := 102) (j := 0) hn rfl) rfl rfl (Nat.le_of_ble_eq_true rfl)) rfl rfl rfl ?_
  refine me5 dm_X12_told_51 rfl rfl rfl ?_
  exact k _ rfl (Nat.le_of_ble_eq_true rfl)
set_option maxRecDepth 100000 in
set_option maxHeartbeats 40000000 in
theorem r_told_ge {xt : mj_X} {d : Nat} {h W : mj_H} (hn : h.length = 102) {P : Option Value → mj_H → Prop} {p0 : Int32} (hl0 : 4 ≤ p0.toInt) (k : ∀ U, U.length = 25 → mj_sl U ≤ 3000000 → P (some (.int (-1 : Int32))) (h ++ (U ++ W))) : pgE xt (d + 20) 12 2 false (Option.some FieldType.int) (mj_dec prog_14_method_112_code) 0 [(0, .ref 102), (1, .int p0)] [] (h ++ (rT ++ W)) P := by
  refine me1 (pc' := 1) dm_X12_told_0 rfl rfl rfl rfl ?_
  refine me2 (pc' := 52) dm_X12_told_1 (sw_tdef [0, 1, 2, 3] rfl rfl rfl ⟨(cn_f_eq (c := 0) rfl (by omega)), (cn_f_eq (c := 1) rfl (by omega)), (cn_f_eq (c := 2) rfl (by omega)), (cn_f_eq (c := 3) rfl (by omega)), trivial⟩) rfl rfl ?_
  refine me0 (pc' := 53) (S' := .int (-1 : Int32) :: _) dm_X12_told_52 rfl rfl rfl rfl ?_
  refine me5 dm_X12_told_53 rfl rfl rfl ?_
  exact k _ rfl (Nat.le_of_ble_eq_true rfl)
