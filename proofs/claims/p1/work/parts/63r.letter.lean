set_option maxRecDepth 100000 in
set_option maxHeartbeats 40000000 in
theorem r_letter_lt_lt_lt {xt : mj_X} {d : Nat} {h W : mj_H} (hn : h.length = 102) {P : Option Value → mj_H → Prop} {p0 : Int32} {p1 : Int32} {p2 : Int32} (hh0 : p0.toInt ≤ -1) (hh1 : p1.toInt ≤ -1) (hh2 : p2.toInt ≤ -1) (k : ∀ U, U.length = 25 → mj_sl U ≤ 3000000 → P (some (.int (-1 : Int32))) (h ++ (U ++ W))) : pgE xt (d + 20) 12 7 false (Option.some FieldType.int) (mj_dec prog_14_method_122_code) 0 [(0, .ref 102), (1, .int p0), (2, .int p1), (3, .int p2)] [] (h ++ (rT ++ W)) P := by
  refine me1 (pc' := 1) dm_X12_letter_0 rfl rfl rfl rfl ?_
  refine me_1t (pc' := 36) dm_X12_letter_1 rfl (cn_t_lt (c := 0) rfl (by omega)) ?_
  refine me0 (pc' := 37) (S' := .int (-1 : Int32) :: _) dm_X12_letter_36 rfl rfl rfl rfl ?_
  refine me5 dm_X12_letter_37 rfl rfl rfl ?_
  exact k _ rfl (Nat.le_of_ble_eq_true rfl)
set_option maxRecDepth 100000 in
set_option maxHeartbeats 40000000 in
theorem r_letter_lt_lt_v0 {xt : mj_X} {d : Nat} {h W : mj_H} (hn : h.length = 102) {P : Option Value → mj_H → Prop} {p0 : Int32} {p1 : Int32} (hh0 : p0.toInt ≤ -1) (hh1 : p1.toInt ≤ -1) (k : ∀ U, U.length = 25 → mj_sl U ≤ 3000000 → P (some (.int (-1 : Int32))) (h ++ (U ++ W))) : pgE xt (d + 20) 12 7 false (Option.some FieldType.int) (mj_dec prog_14_method_122_code) 0 [(0, .ref 102), (1, .int p0), (2, .int p1), (3, .int (0 : Int32))] [] (h ++ (rT ++ W)) P := by
  refine me1 (pc' := 1) dm_X12_letter_0 rfl rfl rfl rfl ?_
  refine me_1t (pc' := 36) dm_X12_letter_1 rfl (cn_t_lt (c := 0) rfl (by omega)) ?_
  refine me0 (pc' := 37) (S' := .int (-1 : Int32) :: _) dm_X12_letter_36 rfl rfl rfl rfl ?_
  refine me5 dm_X12_letter_37 rfl rfl rfl ?_
  exact k _ rfl (Nat.le_of_ble_eq_true rfl)
set_option maxRecDepth 100000 in
set_option maxHeartbeats 40000000 in
theorem r_letter_lt_lt_v1 {xt : mj_X} {d : Nat} {h W : mj_H} (hn : h.length = 102) {P : Option Value → mj_H → Prop} {p0 : Int32} {p1 : Int32} (hh0 : p0.toInt ≤ -1) (hh1 : p1.toInt ≤ -1) (k : ∀ U, U.length = 25 → mj_sl U ≤ 3000000 → P (some (.int (-1 : Int32))) (h ++ (U ++ W))) : pgE xt (d + 20) 12 7 false (Option.some FieldType.int) (mj_dec prog_14_method_122_code) 0 [(0, .ref 102), (1, .int p0), (2, .int p1), (3, .int (1 : Int32))] [] (h ++ (rT ++ W)) P := by
  refine me1 (pc' := 1) dm_X12_letter_0 rfl rfl rfl rfl ?_
  refine me_1t (pc' := 36) dm_X12_letter_1 rfl (cn_t_lt (c := 0) rfl (by omega)) ?_
  refine me0 (pc' := 37) (S' := .int (-1 : Int32) :: _) dm_X12_letter_36 rfl rfl rfl rfl ?_
  refine me5 dm_X12_letter_37 rfl rfl rfl ?_
  exact k _ rfl (Nat.le_of_ble_eq_true rfl)
set_option maxRecDepth 100000 in
set_option maxHeartbeats 40000000 in
theorem r_letter_lt_lt_v2 {xt : mj_X} {d : Nat} {h W : mj_H} (hn : h.length = 102) {P : Option Value → mj_H → Prop} {p0 : Int32} {p1 : Int32} (hh0 : p0.toInt ≤ -1) (hh1 : p1.toInt ≤ -1) (k : ∀ U, U.length = 25 → mj_sl U ≤ 3000000 → P (some (.int (-1 : Int32))) (h ++ (U ++ W))) : pgE xt (d + 20) 12 7 false (Option.some FieldType.int) (mj_dec prog_14_method_122_code) 0 [(0, .ref 102), (1, .int p0), (2, .int p1), (3, .int (2 : Int32))] [] (h ++ (rT ++ W)) P := by
  refine me1 (pc' := 1) dm_X12_letter_0 rfl rfl rfl rfl ?_
  refine me_1t (pc' := 36) dm_X12_letter_1 rfl (cn_t_lt (c := 0) rfl (by omega)) ?_
  refine me0 (pc' := 37) (S' := .int (-1 : Int32) :: _) dm_X12_letter_36 rfl rfl rfl rfl ?_
  refine me5 dm_X12_letter_37 rfl rfl rfl ?_
  exact k _ rfl (Nat.le_of_ble_eq_true rfl)
set_option maxRecDepth 100000 in
set_option maxHeartbeats 40000000 in
theorem r_letter_lt_lt_v3 {xt : mj_X} {d : Nat} {h W : mj_H} (hn : h.length = 102) {P : Option Value → mj_H → Prop} {p0 : Int32} {p1 : Int32} (hh0 : p0.toInt ≤ -1) (hh1 : p1.toInt ≤ -1) (k : ∀ U, U.length = 25 → mj_sl U ≤ 3000000 → P (some (.int (-1 : Int32))) (h ++ (U ++ W))) : pgE xt (d + 20) 12 7 false (Option.some FieldType.int) (mj_dec prog_14_method_122_code) 0 [(0, .ref 102), (1, .int p0), (2, .int p1), (3, .int (3 : Int32))] [] (h ++ (rT ++ W)) P := by
  refine me1 (pc' := 1) dm_X12_letter_0 rfl rfl rfl rfl ?_
  refine me_1t (pc' := 36) dm_X12_letter_1 rfl (cn_t_lt (c := 0) rfl (by omega)) ?_
  refine me0 (pc' := 37) (S' := .int (-1 : Int32) :: _) dm_X12_letter_36 rfl rfl rfl rfl ?_
  refine me5 dm_X12_letter_37 rfl rfl rfl ?_
  exact k _ rfl (Nat.le_of_ble_eq_true rfl)
set_option maxRecDepth 100000 in
set_option maxHeartbeats 40000000 in
theorem r_letter_lt_lt_v4 {xt : mj_X} {d : Nat} {h W : mj_H} (hn : h.length = 102) {P : Option Value → mj_H → Prop} {p0 : Int32} {p1 : Int32} (hh0 : p0.toInt ≤ -1) (hh1 : p1.toInt ≤ -1) (k : ∀ U, U.length = 25 → mj_sl U ≤ 3000000 → P (some (.int (-1 : Int32))) (h ++ (U ++ W))) : pgE xt (d + 20) 12 7 false (Option.some FieldType.int) (mj_dec prog_14_method_122_code) 0 [(0, .ref 102), (1, .int p0), (2, .int p1), (3, .int (4 : Int32))] [] (h ++ (rT ++ W)) P := by
  refine me1 (pc' := 1) dm_X12_letter_0 rfl rfl rfl rfl ?_
  refine me_1t (pc' := 36) dm_X12_letter_1 rfl (cn_t_lt (c := 0) rfl (by omega)) ?_
  refine me0 (pc' := 37) (S' := .int (-1 : Int32) :: _) dm_X12_letter_36 rfl rfl rfl rfl ?_
  refine me5 dm_X12_letter_37 rfl rfl rfl ?_
  exact k _ rfl (Nat.le_of_ble_eq_true rfl)
set_option maxRecDepth 100000 in
set_option maxHeartbeats 40000000 in
theorem r_letter_lt_lt_v5 {xt : mj_X} {d : Nat} {h W : mj_H} (hn : h.length = 102) {P : Option Value → mj_H → Prop} {p0 : Int32} {p1 : Int32} (hh0 : p0.toInt ≤ -1) (hh1 : p1.toInt ≤ -1) (k : ∀ U, U.length = 25 → mj_sl U ≤ 3000000 → P (some (.int (-1 : Int32))) (h ++ (U ++ W))) : pgE xt (d + 20) 12 7 false (Option.some FieldType.int) (mj_dec prog_14_method_122_code) 0 [(0, .ref 102), (1, .int p0), (2, .int p1), (3, .int (5 : Int32))] [] (h ++ (rT ++ W)) P := by
  refine me1 (pc' := 1) dm_X12_letter_0 rfl rfl rfl rfl ?_
  refine me_1t (pc' := 36) dm_X12_letter_1 rfl (cn_t_lt (c := 0) rfl (by omega)) ?_
  refine me0 (pc' := 37) (S' := .int (-1 : Int32) :: _) dm_X12_letter_36 rfl rfl rfl rfl ?_
  refine me5 dm_X12_letter_37 rfl rfl rfl ?_
  exact k _ rfl (Nat.le_of_ble_eq_true rfl)
set_option maxRecDepth 100000 in
set_option maxHeartbeats 40000000 in
theorem r_letter_lt_lt_v6 {xt : mj_X} {d : Nat} {h W : mj_H} (hn : h.length = 102) {P : Option Value → mj_H → Prop} {p0 : Int32} {p1 : Int32} (hh0 : p0.toInt ≤ -1) (hh1 : p1.toInt ≤ -1) (k : ∀ U, U.length = 25 → mj_sl U ≤ 3000000 → P (some (.int (-1 : Int32))) (h ++ (U ++ W))) : pgE xt (d + 20) 12 7 false (Option.some FieldType.int) (mj_dec prog_14_method_122_code) 0 [(0, .ref 102), (1, .int p0), (2, .int p1), (3, .int (6 : Int32))] [] (h ++ (rT ++ W)) P := by
  refine me1 (pc' := 1) dm_X12_letter_0 rfl rfl rfl rfl ?_
  refine me_1t (pc' := 36) dm_X12_letter_1 rfl (cn_t_lt (c := 0) rfl (by omega)) ?_
  refine me0 (pc' := 37) (S' := .int (-1 : Int32) :: _) dm_X12_letter_36 rfl rfl rfl rfl ?_
  refine me5 dm_X12_letter_37 rfl rfl rfl ?_
  exact k _ rfl (Nat.le_of_ble_eq_true rfl)
set_option maxRecDepth 100000 in
set_option maxHeartbeats 40000000 in
theorem r_letter_lt_lt_v7 {xt : mj_X} {d : Nat} {h W : mj_H} (hn : h.length = 102) {P : Option Value → mj_H → Prop} {p0 : Int32} {p1 : Int32} (hh0 : p0.toInt ≤ -1) (hh1 : p1.toInt ≤ -1) (k : ∀ U, U.length = 25 → mj_sl U ≤ 3000000 → P (some (.int (-1 : Int32))) (h ++ (U ++ W))) : pgE xt (d + 20) 12 7 false (Option.some FieldType.int) (mj_dec prog_14_method_122_code) 0 [(0, .ref 102), (1, .int p0), (2, .int p1), (3, .int (7 : Int32))] [] (h ++ (rT ++ W)) P := by
  refine me1 (pc' := 1) dm_X12_letter_0 rfl rfl rfl rfl ?_
  refine me_1t (pc' := 36) dm_X12_letter_1 rfl (cn_t_lt (c := 0) rfl (by omega)) ?_
  refine me0 (pc' := 37) (S' := .int (-1 : Int32) :: _) dm_X12_letter_36 rfl rfl rfl rfl ?_
  refine me5 dm_X12_letter_37 rfl rfl rfl ?_
  exact k _ rfl (Nat.le_of_ble_eq_true rfl)
set_option maxRecDepth 100000 in
set_option maxHeartbeats 40000000 in
theorem r_letter_lt_lt_ge {xt : mj_X} {d : Nat} {h W : mj_H} (hn : h.length = 102) {P : Option Value → mj_H → Prop} {p0 : Int32} {p1 : Int32} {p2 : Int32} (hh0 : p0.toInt ≤ -1) (hh1 : p1.toInt ≤ -1) (hl2 : 8 ≤ p2.toInt) (k : ∀ U, U.length = 25 → mj_sl U ≤ 3000000 → P (some (.int (-1 : Int32))) (h ++ (U ++ W))) : pgE xt (d + 20) 12 7 false (Option.some FieldType.int) (mj_dec prog_14_method_122_code) 0 [(0, .ref 102), (1, .int p0), (2, .int p1), (3, .int p2)] [] (h ++ (rT ++ W)) P := by
  refine me1 (pc' := 1) dm_X12_letter_0 rfl rfl rfl rfl ?_
  refine me_1t (pc' := 36) dm_X12_letter_1 rfl (cn_t_lt (c := 0) rfl (by omega)) ?_
  refine me0 (pc' := 37) (S' := .int (-1 : Int32) :: _) dm_X12_letter_36 rfl rfl rfl rfl ?_
  refine me5 dm_X12_letter_37 rfl rfl rfl ?_
  exact k _ rfl (Nat.le_of_ble_eq_true rfl)
set_option maxRecDepth 100000 in
set_option maxHeartbeats 40000000 in
theorem r_letter_lt_ge_lt {xt : mj_X} {d : Nat} {h W : mj_H} (hn : h.length = 102) {P : Option Value → mj_H → Prop} {p0 : Int32} {p1 : Int32} {p2 : Int32} (hh0 : p0.toInt ≤ -1) (hl1 : 0 ≤ p1.toInt) (hh2 : p2.toInt ≤ -1) (k : ∀ U, U.length = 25 → mj_sl U ≤ 3000000 → P (some (.int (-1 : Int32))) (h ++ (U ++ W))) : pgE xt (d + 20) 12 7 false (Option.some FieldType.int) (mj_dec prog_14_method_122_code) 0 [(0, .ref 102), (1, .int p0), (2, .int p1), (3, .int p2)] [] (h ++ (rT ++ W)) P := by
  refine me1 (pc' := 1) dm_X12_letter_0 rfl rfl rfl rfl ?_
  refine me_1t (pc' := 36) dm_X12_letter_1 rfl (cn_t_lt (c := 0) rfl (by omega)) ?_
  refine me0 (pc' := 37) (S' := .int (-1 : Int32) :: _) dm_X12_letter_36 rfl rfl rfl rfl ?_
  refine me5 dm_X12_letter_37 rfl rfl rfl ?_
  exact k _ rfl (Nat.le_of_ble_eq_true rfl)
set_option maxRecDepth 100000 in
set_option maxHeartbeats 40000000 in
theorem r_letter_lt_ge_v0 {xt : mj_X} {d : Nat} {h W : mj_H} (hn : h.length = 102) {P : Option Value → mj_H → Prop} {p0 : Int32} {p1 : Int32} (hh0 : p0.toInt ≤ -1) (hl1 : 0 ≤ p1.toInt) (k : ∀ U, U.length = 25 → mj_sl U ≤ 3000000 → P (some (.int (-1 : Int32))) (h ++ (U ++ W))) : pgE xt (d + 20) 12 7 false (Option.some FieldType.int) (mj_dec prog_14_method_122_code) 0 [(0, .ref 102), (1, .int p0), (2, .int p1), (3, .int (0 : Int32))] [] (h ++ (rT ++ W)) P := by
  refine me1 (pc' := 1) dm_X12_letter_0 rfl rfl rfl rfl ?_
  refine me_1t (pc' := 36) dm_X12_letter_1 rfl (cn_t_lt (c := 0) rfl (by omega)) ?_
  refine me0 (pc' := 37) (S' := .int (-1 : Int32) :: _) dm_X12_letter_36 rfl rfl rfl rfl ?_
  refine me5 dm_X12_letter_37 rfl rfl rfl ?_
  exact k _ rfl (Nat.le_of_ble_eq_true rfl)
set_option maxRecDepth 100000 in
set_option maxHeartbeats 40000000 in
theorem r_letter_lt_ge_v1 {xt : mj_X} {d : Nat} {h W : mj_H} (hn : h.length = 102) {P : Option Value → mj_H → Prop} {p0 : Int32} {p1 : Int32} (hh0 : p0.toInt ≤ -1) (hl1 : 0 ≤ p1.toInt) (k : ∀ U, U.length = 25 → mj_sl U ≤ 3000000 → P (some (.int (-1 : Int32))) (h ++ (U ++ W))) : pgE xt (d + 20) 12 7 false (Option.some FieldType.int) (mj_dec prog_14_method_122_code) 0 [(0, .ref 102), (1, .int p0), (2, .int p1), (3, .int (1 : Int32))] [] (h ++ (rT ++ W)) P := by
  refine me1 (pc' := 1) dm_X12_letter_0 rfl rfl rfl rfl ?_
  refine me_1t (pc' := 36) dm_X12_letter_1 rfl (cn_t_lt (c := 0) rfl (by omega)) ?_
  refine me0 (pc' := 37) (S' := .int (-1 : Int32) :: _) dm_X12_letter_36 rfl rfl rfl rfl ?_
  refine me5 dm_X12_letter_37 rfl rfl rfl ?_
  exact k _ rfl (Nat.le_of_ble_eq_true rfl)
set_option maxRecDepth 100000 in
set_option maxHeartbeats 40000000 in
theorem r_letter_lt_ge_v2 {xt : mj_X} {d : Nat} {h W : mj_H} (hn : h.length = 102) {P : Option Value → mj_H → Prop} {p0 : Int32} {p1 : Int32} (hh0 : p0.toInt ≤ -1) (hl1 : 0 ≤ p1.toInt) (k : ∀ U, U.length = 25 → mj_sl U ≤ 3000000 → P (some (.int (-1 : Int32))) (h ++ (U ++ W))) : pgE xt (d + 20) 12 7 false (Option.some FieldType.int) (mj_dec prog_14_method_122_code) 0 [(0, .ref 102), (1, .int p0), (2, .int p1), (3, .int (2 : Int32))] [] (h ++ (rT ++ W)) P := by
  refine me1 (pc' := 1) dm_X12_letter_0 rfl rfl rfl rfl ?_
  refine me_1t (pc' := 36) dm_X12_letter_1 rfl (cn_t_lt (c := 0) rfl (by omega)) ?_
  refine me0 (pc' := 37) (S' := .int (-1 : Int32) :: _) dm_X12_letter_36 rfl rfl rfl rfl ?_
  refine me5 dm_X12_letter_37 rfl rfl rfl ?_
  exact k _ rfl (Nat.le_of_ble_eq_true rfl)
set_option maxRecDepth 100000 in
set_option maxHeartbeats 40000000 in
theorem r_letter_lt_ge_v3 {xt : mj_X} {d : Nat} {h W : mj_H} (hn : h.length = 102) {P : Option Value → mj_H → Prop} {p0 : Int32} {p1 : Int32} (hh0 : p0.toInt ≤ -1) (hl1 : 0 ≤ p1.toInt) (k : ∀ U, U.length = 25 → mj_sl U ≤ 3000000 → P (some (.int (-1 : Int32))) (h ++ (U ++ W))) : pgE xt (d + 20) 12 7 false (Option.some FieldType.int) (mj_dec prog_14_method_122_code) 0 [(0, .ref 102), (1, .int p0), (2, .int p1), (3, .int (3 : Int32))] [] (h ++ (rT ++ W)) P := by
  refine me1 (pc' := 1) dm_X12_letter_0 rfl rfl rfl rfl ?_
  refine me_1t (pc' := 36) dm_X12_letter_1 rfl (cn_t_lt (c := 0) rfl (by omega)) ?_
  refine me0 (pc' := 37) (S' := .int (-1 : Int32) :: _) dm_X12_letter_36 rfl rfl rfl rfl ?_
  refine me5 dm_X12_letter_37 rfl rfl rfl ?_
  exact k _ rfl (Nat.le_of_ble_eq_true rfl)
set_option maxRecDepth 100000 in
set_option maxHeartbeats 40000000 in
theorem r_letter_lt_ge_v4 {xt : mj_X} {d : Nat} {h W : mj_H} (hn : h.length = 102) {P : Option Value → mj_H → Prop} {p0 : Int32} {p1 : Int32} (hh0 : p0.toInt ≤ -1) (hl1 : 0 ≤ p1.toInt) (k : ∀ U, U.length = 25 → mj_sl U ≤ 3000000 → P (some (.int (-1 : Int32))) (h ++ (U ++ W))) : pgE xt (d + 20) 12 7 false (Option.some FieldType.int) (mj_dec prog_14_method_122_code) 0 [(0, .ref 102), (1, .int p0), (2, .int p1), (3, .int (4 : Int32))] [] (h ++ (rT ++ W)) P := by
  refine me1 (pc' := 1) dm_X12_letter_0 rfl rfl rfl rfl ?_
  refine me_1t (pc' := 36) dm_X12_letter_1 rfl (cn_t_lt (c := 0) rfl (by omega)) ?_
  refine me0 (pc' := 37) (S' := .int (-1 : Int32) :: _) dm_X12_letter_36 rfl rfl rfl rfl ?_
  refine me5 dm_X12_letter_37 rfl rfl rfl ?_
  exact k _ rfl (Nat.le_of_ble_eq_true rfl)
set_option maxRecDepth 100000 in
set_option maxHeartbeats 40000000 in
theorem r_letter_lt_ge_v5 {xt : mj_X} {d : Nat} {h W : mj_H} (hn : h.length = 102) {P : Option Value → mj_H → Prop} {p0 : Int32} {p1 : Int32} (hh0 : p0.toInt ≤ -1) (hl1 : 0 ≤ p1.toInt) (k : ∀ U, U.length = 25 → mj_sl U ≤ 3000000 → P (some (.int (-1 : Int32))) (h ++ (U ++ W))) : pgE xt (d + 20) 12 7 false (Option.some FieldType.int) (mj_dec prog_14_method_122_code) 0 [(0, .ref 102), (1, .int p0), (2, .int p1), (3, .int (5 : Int32))] [] (h ++ (rT ++ W)) P := by
  refine me1 (pc' := 1) dm_X12_letter_0 rfl rfl rfl rfl ?_
  refine me_1t (pc' := 36) dm_X12_letter_1 rfl (cn_t_lt (c := 0) rfl (by omega)) ?_
  refine me0 (pc' := 37) (S' := .int (-1 : Int32) :: _) dm_X12_letter_36 rfl rfl rfl rfl ?_
  refine me5 dm_X12_letter_37 rfl rfl rfl ?_
  exact k _ rfl (Nat.le_of_ble_eq_true rfl)
set_option maxRecDepth 100000 in
set_option maxHeartbeats 40000000 in
theorem r_letter_lt_ge_v6 {xt : mj_X} {d : Nat} {h W : mj_H} (hn : h.length = 102) {P : Option Value → mj_H → Prop} {p0 : Int32} {p1 : Int32} (hh0 : p0.toInt ≤ -1) (hl1 : 0 ≤ p1.toInt) (k : ∀ U, U.length = 25 → mj_sl U ≤ 3000000 → P (some (.int (-1 : Int32))) (h ++ (U ++ W))) : pgE xt (d + 20) 12 7 false (Option.some FieldType.int) (mj_dec prog_14_method_122_code) 0 [(0, .ref 102), (1, .int p0), (2, .int p1), (3, .int (6 : Int32))] [] (h ++ (rT ++ W)) P := by
  refine me1 (pc' := 1) dm_X12_letter_0 rfl rfl rfl rfl ?_
  refine me_1t (pc' := 36) dm_X12_letter_1 rfl (cn_t_lt (c := 0) rfl (by omega)) ?_
  refine me0 (pc' := 37) (S' := .int (-1 : Int32) :: _) dm_X12_letter_36 rfl rfl rfl rfl ?_
  refine me5 dm_X12_letter_37 rfl rfl rfl ?_
  exact k _ rfl (Nat.le_of_ble_eq_true rfl)
set_option maxRecDepth 100000 in
set_option maxHeartbeats 40000000 in
theorem r_letter_lt_ge_v7 {xt : mj_X} {d : Nat} {h W : mj_H} (hn : h.length = 102) {P : Option Value → mj_H → Prop} {p0 : Int32} {p1 : Int32} (hh0 : p0.toInt ≤ -1) (hl1 : 0 ≤ p1.toInt) (k : ∀ U, U.length = 25 → mj_sl U ≤ 3000000 → P (some (.int (-1 : Int32))) (h ++ (U ++ W))) : pgE xt (d + 20) 12 7 false (Option.some FieldType.int) (mj_dec prog_14_method_122_code) 0 [(0, .ref 102), (1, .int p0), (2, .int p1), (3, .int (7 : Int32))] [] (h ++ (rT ++ W)) P := by
  refine me1 (pc' := 1) dm_X12_letter_0 rfl rfl rfl rfl ?_
  refine me_1t (pc' := 36) dm_X12_letter_1 rfl (cn_t_lt (c := 0) rfl (by omega)) ?_
  refine me0 (pc' := 37) (S' := .int (-1 : Int32) :: _) dm_X12_letter_36 rfl rfl rfl rfl ?_
  refine me5 dm_X12_letter_37 rfl rfl rfl ?_
  exact k _ rfl (Nat.le_of_ble_eq_true rfl)
set_option maxRecDepth 100000 in
set_option maxHeartbeats 40000000 in
theorem r_letter_lt_ge_ge {xt : mj_X} {d : Nat} {h W : mj_H} (hn : h.length = 102) {P : Option Value → mj_H → Prop} {p0 : Int32} {p1 : Int32} {p2 : Int32} (hh0 : p0.toInt ≤ -1) (hl1 : 0 ≤ p1.toInt) (hl2 : 8 ≤ p2.toInt) (k : ∀ U, U.length = 25 → mj_sl U ≤ 3000000 → P (some (.int (-1 : Int32))) (h ++ (U ++ W))) : pgE xt (d + 20) 12 7 false (Option.some FieldType.int) (mj_dec prog_14_method_122_code) 0 [(0, .ref 102), (1, .int p0), (2, .int p1), (3, .int p2)] [] (h ++ (rT ++ W)) P := by
  refine me1 (pc' := 1) dm_X12_letter_0 rfl rfl rfl rfl ?_
  refine me_1t (pc' := 36) dm_X12_letter_1 rfl (cn_t_lt (c := 0) rfl (by omega)) ?_
  refine me0 (pc' := 37) (S' := .int (-1 : Int32) :: _) dm_X12_letter_36 rfl rfl rfl rfl ?_
  refine me5 dm_X12_letter_37 rfl rfl rfl ?_
  exact k _ rfl (Nat.le_of_ble_eq_true rfl)
set_option maxRecDepth 100000 in
set_option maxHeartbeats 40000000 in
theorem r_letter_v0_lt_lt {xt : mj_X} {d : Nat} {h W : mj_H} (hn : h.length = 102) {P : Option Value → mj_H → Prop} {p1 : Int32} {p2 : Int32} (hh1 : p1.toInt ≤ -1) (hh2 : p2.toInt ≤ -1) (k : ∀ U, U.length = 25 → mj_sl U ≤ 3000000 → P (some (.int (-1 : Int32))) (h ++ (U ++ W))) : pgE xt (d + 20) 12 7 false (Option.some FieldType.int) (mj_dec prog_14_method_122_code) 0 [(0, .ref 102), (1, .int (0 : Int32)), (2, .int p1), (3, .int p2)] [] (h ++ (rT ++ W)) P := by
  refine me1 (pc' := 1) dm_X12_letter_0 rfl rfl rfl rfl ?_
  refine me_1f (pc' := 4) dm_X12_letter_1 rfl (by decide) rfl ?_
  refine me1 (pc' := 5) dm_X12_letter_4 rfl rfl rfl rfl ?_
  refine me0 (pc' := 6) (S' := .int (1 : Int32) :: _) dm_X12_letter_5 rfl rfl rfl rfl ?_
  refine me_2f (pc' := 9) dm_X12_letter_6 rfl (by decide) rfl ?_
  refine me1 (pc' := 10) dm_X12_letter_9 rfl rfl rfl rfl ?_
  refine me_1t (pc' := 36) dm_X12_letter_10 rfl (cn_t_lt (c := 0) rfl (by omega)) ?_
  refine me0 (pc' := 37) (S' := .int (-1 : Int32) :: _) dm_X12_letter_36 rfl rfl rfl rfl ?_
  refine me5 dm_X12_letter_37 rfl rfl rfl ?_
  exact k _ rfl (Nat.le_of_ble_eq_true rfl)
set_option maxRecDepth 100000 in
set_option maxHeartbeats 40000000 in
theorem r_letter_v0_lt_v0 {xt : mj_X} {d : Nat} {h W : mj_H} (hn : h.length = 102) {P : Option Value → mj_H → Prop} {p1 : Int32} (hh1 : p1.toInt ≤ -1) (k : ∀ U, U.length = 25 → mj_sl U ≤ 3000000 → P (some (.int (-1 : Int32))) (h ++ (U ++ W))) : pgE xt (d + 20) 12 7 false (Option.some FieldType.int) (mj_dec prog_14_method_122_code) 0 [(0, .ref 102), (1, .int (0 : Int32)), (2, .int p1), (3, .int (0 : Int32))] [] (h ++ (rT ++ W)) P := by
  refine me1 (pc' := 1) dm_X12_letter_0 rfl rfl rfl rfl ?_
  refine me_1f (pc' := 4) dm_X12_letter_1 rfl (by decide) rfl ?_
  refine me1 (pc' := 5) dm_X12_letter_4 rfl rfl rfl rfl ?_
  refine me0 (pc' := 6) (S' := .int (1 : Int32) :: _) dm_X12_letter_5 rfl rfl rfl rfl ?_
  refine me_2f (pc' := 9) dm_X12_letter_6 rfl (by decide) rfl ?_
  refine me1 (pc' := 10) dm_X12_letter_9 rfl rfl rfl rfl ?_
  refine me_1t (pc' := 36) dm_X12_letter_10 rfl (cn_t_lt (c := 0) rfl (by omega)) ?_
  refine me0 (pc' := 37) (S' := .int (-1 : Int32) :: _) dm_X12_letter_36 rfl rfl rfl rfl ?_
  refine me5 dm_X12_letter_37 rfl rfl rfl ?_
  exact k _ rfl (Nat.le_of_ble_eq_true rfl)
set_option maxRecDepth 100000 in
set_option maxHeartbeats 40000000 in
theorem r_letter_v0_lt_v1 {xt : mj_X} {d : Nat} {h W : mj_H} (hn : h.length = 102) {P : Option Value → mj_H → Prop} {p1 : Int32} (hh1 : p1.toInt ≤ -1) (k : ∀ U, U.length = 25 → mj_sl U ≤ 3000000 → P (some (.int (-1 : Int32))) (h ++ (U ++ W))) : pgE xt (d + 20) 12 7 false (Option.some FieldType.int) (mj_dec prog_14_method_122_code) 0 [(0, .ref 102), (1, .int (0 : Int32)), (2, .int p1), (3, .int (1 : Int32))] [] (h ++ (rT ++ W)) P := by
  refine me1 (pc' := 1) dm_X12_letter_0 rfl rfl rfl rfl ?_
  refine me_1f (pc' := 4) dm_X12_letter_1 rfl (by decide) rfl ?_
  refine me1 (pc' := 5) dm_X12_letter_4 rfl rfl rfl rfl ?_
  refine me0 (pc' := 6) (S' := .int (1 : Int32) :: _) dm_X12_letter_5 rfl rfl rfl rfl ?_
  refine me_2f (pc' := 9) dm_X12_letter_6 rfl (by decide) rfl ?_
  refine me1 (pc' := 10) dm_X12_letter_9 rfl rfl rfl rfl ?_
  refine me_1t (pc' := 36) dm_X12_letter_10 rfl (cn_t_lt (c := 0) rfl (by omega)) ?_
  refine me0 (pc' := 37) (S' := .int (-1 : Int32) :: _) dm_X12_letter_36 rfl rfl rfl rfl ?_
  refine me5 dm_X12_letter_37 rfl rfl rfl ?_
  exact k _ rfl (Nat.le_of_ble_eq_true rfl)
set_option maxRecDepth 100000 in
set_option maxHeartbeats 40000000 in
theorem r_letter_v0_lt_v2 {xt : mj_X} {d : Nat} {h W : mj_H} (hn : h.length = 102) {P : Option Value → mj_H → Prop} {p1 : Int32} (hh1 : p1.toInt ≤ -1) (k : ∀ U, U.length = 25 → mj_sl U ≤ 3000000 → P (some (.int (-1 : Int32))) (h ++ (U ++ W))) : pgE xt (d + 20) 12 7 false (Option.some FieldType.int) (mj_dec prog_14_method_122_code) 0 [(0, .ref 102), (1, .int (0 : Int32)), (2, .int p1), (3, .int (2 : Int32))] [] (h ++ (rT ++ W)) P := by
  refine me1 (pc' := 1) dm_X12_letter_0 rfl rfl rfl rfl ?_
  refine me_1f (pc' := 4) dm_X12_letter_1 rfl (by decide) rfl ?_
  refine me1 (pc' := 5) dm_X12_letter_4 rfl rfl rfl rfl ?_
  refine me0 (pc' := 6) (S' := .int (1 : Int32) :: _) dm_X12_letter_5 rfl rfl rfl rfl ?_
  refine me_2f (pc' := 9) dm_X12_letter_6 rfl (by decide) rfl ?_
  refine me1 (pc' := 10) dm_X12_letter_9 rfl rfl rfl rfl ?_
  refine me_1t (pc' := 36) dm_X12_letter_10 rfl (cn_t_lt (c := 0) rfl (by omega)) ?_
  refine me0 (pc' := 37) (S' := .int (-1 : Int32) :: _) dm_X12_letter_36 rfl rfl rfl rfl ?_
  refine me5 dm_X12_letter_37 rfl rfl rfl ?_
  exact k _ rfl (Nat.le_of_ble_eq_true rfl)
set_option maxRecDepth 100000 in
set_option maxHeartbeats 40000000 in
theorem r_letter_v0_lt_v3 {xt : mj_X} {d : Nat} {h W : mj_H} (hn : h.length = 102) {P : Option Value → mj_H → Prop} {p1 : Int32} (hh1 : p1.toInt ≤ -1) (k : ∀ U, U.length = 25 → mj_sl U ≤ 3000000 → P (some (.int (-1 : Int32))) (h ++ (U ++ W))) : pgE xt (d + 20) 12 7 false (Option.some FieldType.int) (mj_dec prog_14_method_122_code) 0 [(0, .ref 102), (1, .int (0 : Int32)), (2, .int p1), (3, .int (3 : Int32))] [] (h ++ (rT ++ W)) P := by
  refine me1 (pc' := 1) dm_X12_letter_0 rfl rfl rfl rfl ?_
  refine me_1f (pc' := 4) dm_X12_letter_1 rfl (by decide) rfl ?_
  refine me1 (pc' := 5) dm_X12_letter_4 rfl rfl rfl rfl ?_
  refine me0 (pc' := 6) (S' := .int (1 : Int32) :: _) dm_X12_letter_5 rfl rfl rfl rfl ?_
  refine me_2f (pc' := 9) dm_X12_letter_6 rfl (by decide) rfl ?_
  refine me1 (pc' := 10) dm_X12_letter_9 rfl rfl rfl rfl ?_
  refine me_1t (pc' := 36) dm_X12_letter_10 rfl (cn_t_lt (c := 0) rfl (by omega)) ?_
  refine me0 (pc' := 37) (S' := .int (-1 : Int32) :: _) dm_X12_letter_36 rfl rfl rfl rfl ?_
  refine me5 dm_X12_letter_37 rfl rfl rfl ?_
  exact k _ rfl (Nat.le_of_ble_eq_true rfl)
set_option maxRecDepth 100000 in
set_option maxHeartbeats 40000000 in
theorem r_letter_v0_lt_v4 {xt : mj_X} {d : Nat} {h W : mj_H} (hn : h.length = 102) {P : Option Value → mj_H → Prop} {p1 : Int32} (hh1 : p1.toInt ≤ -1) (k : ∀ U, U.length = 25 → mj_sl U ≤ 3000000 → P (some (.int (-1 : Int32))) (h ++ (U ++ W))) : pgE xt (d + 20) 12 7 false (Option.some FieldType.int) (mj_dec prog_14_method_122_code) 0 [(0, .ref 102), (1, .int (0 : Int32)), (2, .int p1), (3, .int (4 : Int32))] [] (h ++ (rT ++ W)) P := by
  refine me1 (pc' := 1) dm_X12_letter_0 rfl rfl rfl rfl ?_
  refine me_1f (pc' := 4) dm_X12_letter_1 rfl (by decide) rfl ?_
  refine me1 (pc' := 5) dm_X12_letter_4 rfl rfl rfl rfl ?_
  refine me0 (pc' := 6) (S' := .int (1 : Int32) :: _) dm_X12_letter_5 rfl rfl rfl rfl ?_
  refine me_2f (pc' := 9) dm_X12_letter_6 rfl (by decide) rfl ?_
  refine me1 (pc' := 10) dm_X12_letter_9 rfl rfl rfl rfl ?_
  refine me_1t (pc' := 36) dm_X12_letter_10 rfl (cn_t_lt (c := 0) rfl (by omega)) ?_
  refine me0 (pc' := 37) (S' := .int (-1 : Int32) :: _) dm_X12_letter_36 rfl rfl rfl rfl ?_
  refine me5 dm_X12_letter_37 rfl rfl rfl ?_
  exact k _ rfl (Nat.le_of_ble_eq_true rfl)
set_option maxRecDepth 100000 in
set_option maxHeartbeats 40000000 in
theorem r_letter_v0_lt_v5 {xt : mj_X} {d : Nat} {h W : mj_H} (hn : h.length = 102) {P : Option Value → mj_H → Prop} {p1 : Int32} (hh1 : p1.toInt ≤ -1) (k : ∀ U, U.length = 25 → mj_sl U ≤ 3000000 → P (some (.int (-1 : Int32))) (h ++ (U ++ W))) : pgE xt (d + 20) 12 7 false (Option.some FieldType.int) (mj_dec prog_14_method_122_code) 0 [(0, .ref 102), (1, .int (0 : Int32)), (2, .int p1), (3, .int (5 : Int32))] [] (h ++ (rT ++ W)) P := by
  refine me1 (pc' := 1) dm_X12_letter_0 rfl rfl rfl rfl ?_
  refine me_1f (pc' := 4) dm_X12_letter_1 rfl (by decide) rfl ?_
  refine me1 (pc' := 5) dm_X12_letter_4 rfl rfl rfl rfl ?_
  refine me0 (pc' := 6) (S' := .int (1 : Int32) :: _) dm_X12_letter_5 rfl rfl rfl rfl ?_
  refine me_2f (pc' := 9) dm_X12_letter_6 rfl (by decide) rfl ?_
  refine me1 (pc' := 10) dm_X12_letter_9 rfl rfl rfl rfl ?_
  refine me_1t (pc' := 36) dm_X12_letter_10 rfl (cn_t_lt (c := 0) rfl (by omega)) ?_
  refine me0 (pc' := 37) (S' := .int (-1 : Int32) :: _) dm_X12_letter_36 rfl rfl rfl rfl ?_
  refine me5 dm_X12_letter_37 rfl rfl rfl ?_
  exact k _ rfl (Nat.le_of_ble_eq_true rfl)
set_option maxRecDepth 100000 in
set_option maxHeartbeats 40000000 in
theorem r_letter_v0_lt_v6 {xt : mj_X} {d : Nat} {h W : mj_H} (hn : h.length = 102) {P : Option Value → mj_H → Prop} {p1 : Int32} (hh1 : p1.toInt ≤ -1) (k : ∀ U, U.length = 25 → mj_sl U ≤ 3000000 → P (some (.int (-1 : Int32))) (h ++ (U ++ W))) : pgE xt (d + 20) 12 7 false (Option.some FieldType.int) (mj_dec prog_14_method_122_code) 0 [(0, .ref 102), (1, .int (0 : Int32)), (2, .int p1), (3, .int (6 : Int32))] [] (h ++ (rT ++ W)) P := by
  refine me1 (pc' := 1) dm_X12_letter_0 rfl rfl rfl rfl ?_
  refine me_1f (pc' := 4) dm_X12_letter_1 rfl (by decide) rfl ?_
  refine me1 (pc' := 5) dm_X12_letter_4 rfl rfl rfl rfl ?_
  refine me0 (pc' := 6) (S' := .int (1 : Int32) :: _) dm_X12_letter_5 rfl rfl rfl rfl ?_
  refine me_2f (pc' := 9) dm_X12_letter_6 rfl (by decide) rfl ?_
  refine me1 (pc' := 10) dm_X12_letter_9 rfl rfl rfl rfl ?_
  refine me_1t (pc' := 36) dm_X12_letter_10 rfl (cn_t_lt (c := 0) rfl (by omega)) ?_
  refine me0 (pc' := 37) (S' := .int (-1 : Int32) :: _) dm_X12_letter_36 rfl rfl rfl rfl ?_
  refine me5 dm_X12_letter_37 rfl rfl rfl ?_
  exact k _ rfl (Nat.le_of_ble_eq_true rfl)
set_option maxRecDepth 100000 in
set_option maxHeartbeats 40000000 in
theorem r_letter_v0_lt_v7 {xt : mj_X} {d : Nat} {h W : mj_H} (hn : h.length = 102) {P : Option Value → mj_H → Prop} {p1 : Int32} (hh1 : p1.toInt ≤ -1) (k : ∀ U, U.length = 25 → mj_sl U ≤ 3000000 → P (some (.int (-1 : Int32))) (h ++ (U ++ W))) : pgE xt (d + 20) 12 7 false (Option.some FieldType.int) (mj_dec prog_14_method_122_code) 0 [(0, .ref 102), (1, .int (0 : Int32)), (2, .int p1), (3, .int (7 : Int32))] [] (h ++ (rT ++ W)) P := by
  refine me1 (pc' := 1) dm_X12_letter_0 rfl rfl rfl rfl ?_
  refine me_1f (pc' := 4) dm_X12_letter_1 rfl (by decide) rfl ?_
  refine me1 (pc' := 5) dm_X12_letter_4 rfl rfl rfl rfl ?_
  refine me0 (pc' := 6) (S' := .int (1 : Int32) :: _) dm_X12_letter_5 rfl rfl rfl rfl ?_
  refine me_2f (pc' := 9) dm_X12_letter_6 rfl (by decide) rfl ?_
  refine me1 (pc' := 10) dm_X12_letter_9 rfl rfl rfl rfl ?_
  refine me_1t (pc' := 36) dm_X12_letter_10 rfl (cn_t_lt (c := 0) rfl (by omega)) ?_
  refine me0 (pc' := 37) (S' := .int (-1 : Int32) :: _) dm_X12_letter_36 rfl rfl rfl rfl ?_
  refine me5 dm_X12_letter_37 rfl rfl rfl ?_
  exact k _ rfl (Nat.le_of_ble_eq_true rfl)
set_option maxRecDepth 100000 in
set_option maxHeartbeats 40000000 in
theorem r_letter_v0_lt_ge {xt : mj_X} {d : Nat} {h W : mj_H} (hn : h.length = 102) {P : Option Value → mj_H → Prop} {p1 : Int32} {p2 : Int32} (hh1 : p1.toInt ≤ -1) (hl2 : 8 ≤ p2.toInt) (k : ∀ U, U.length = 25 → mj_sl U ≤ 3000000 → P (some (.int (-1 : Int32))) (h ++ (U ++ W))) : pgE xt (d + 20) 12 7 false (Option.some FieldType.int) (mj_dec prog_14_method_122_code) 0 [(0, .ref 102), (1, .int (0 : Int32)), (2, .int p1), (3, .int p2)] [] (h ++ (rT ++ W)) P := by
  refine me1 (pc' := 1) dm_X12_letter_0 rfl rfl rfl rfl ?_
  refine me_1f (pc' := 4) dm_X12_letter_1 rfl (by decide) rfl ?_
  refine me1 (pc' := 5) dm_X12_letter_4 rfl rfl rfl rfl ?_
  refine me0 (pc' := 6) (S' := .int (1 : Int32) :: _) dm_X12_letter_5 rfl rfl rfl rfl ?_
  refine me_2f (pc' := 9) dm_X12_letter_6 rfl (by decide) rfl ?_
  refine me1 (pc' := 10) dm_X12_letter_9 rfl rfl rfl rfl ?_
  refine me_1t (pc' := 36) dm_X12_letter_10 rfl (cn_t_lt (c := 0) rfl (by omega)) ?_
  refine me0 (pc' := 37) (S' := .int (-1 : Int32) :: _) dm_X12_letter_36 rfl rfl rfl rfl ?_
  refine me5 dm_X12_letter_37 rfl rfl rfl ?_
  exact k _ rfl (Nat.le_of_ble_eq_true rfl)
set_option maxRecDepth 100000 in
set_option maxHeartbeats 40000000 in
theorem r_letter_v0_ge_lt {xt : mj_X} {d : Nat} {h W : mj_H} (hn : h.length = 102) {P : Option Value → mj_H → Prop} {p1 : Int32} {p2 : Int32} (hl1 : 0 ≤ p1.toInt) (hh2 : p2.toInt ≤ -1) (k : ∀ U, U.length = 25 → mj_sl U ≤ 3000000 → P (some (.int (-1 : Int32))) (h ++ (U ++ W))) : pgE xt (d + 20) 12 7 false (Option.some FieldType.int) (mj_dec prog_14_method_122_code) 0 [(0, .ref 102), (1, .int (0 : Int32)), (2, .int p1), (3, .int p2)] [] (h ++ (rT ++ W)) P := by
  refine me1 (pc' := 1) dm_X12_letter_0 rfl rfl rfl rfl ?_
  refine me_1f (pc' := 4) dm_X12_letter_1 rfl (by decide) rfl ?_
  refine me1 (pc' := 5) dm_X12_letter_4 rfl rfl rfl rfl ?_
  refine me0 (pc' := 6) (S' := .int (1 : Int32) :: _) dm_X12_letter_5 rfl rfl rfl rfl ?_
  refine me_2f (pc' := 9) dm_X12_letter_6 rfl (by decide) rfl ?_
  refine me1 (pc' := 10) dm_X12_letter_9 rfl rfl rfl rfl ?_
  refine me_1f (pc' := 13) dm_X12_letter_10 rfl (cn_f_lt (c := 0) rfl (by omega)) rfl ?_
  refine me1 (pc' := 14) dm_X12_letter_13 rfl rfl rfl rfl ?_
  refine me1 (pc' := 15) dm_X12_letter_14 rfl rfl rfl rfl ?_
  refine me_1f (pc' := 18) dm_X12_letter_15 rfl (by decide) rfl ?_
  refine me1 (pc' := 19) dm_X12_letter_18 rfl rfl rfl rfl ?_
  refine me3 (pc' := 22) dm_X12_letter_19 (g_get (v := .int (0 : Int32)) (lu (n := 102) (j := 0) hn rfl) rfl rfl (Nat.le_of_ble_eq_true rfl)) rfl rfl rfl ?_
  refine me2 (pc' := 29) dm_X12_letter_22 rfl rfl rfl ?_
  refine me_2t (pc' := 36) dm_X12_letter_29 rfl (cn_t_ge (c := 0) rfl (by omega)) ?_
  refine me0 (pc' := 37) (S' := .int (-1 : Int32) :: _) dm_X12_letter_36 rfl rfl rfl rfl ?_
  refine me5 dm_X12_letter_37 rfl rfl rfl ?_
  exact k _ rfl (Nat.le_of_ble_eq_true rfl)
set_option maxRecDepth 100000 in
set_option maxHeartbeats 40000000 in
theorem r_letter_v0_ge_v0 {xt : mj_X} {d : Nat} {h W : mj_H} (hn : h.length = 102) {P : Option Value → mj_H → Prop} {p1 : Int32} (hl1 : 0 ≤ p1.toInt) (k : ∀ U, U.length = 25 → mj_sl U ≤ 3000000 → P (some (.int (-1 : Int32))) (h ++ (U ++ W))) : pgE xt (d + 20) 12 7 false (Option.some FieldType.int) (mj_dec prog_14_method_122_code) 0 [(0, .ref 102), (1, .int (0 : Int32)), (2, .int p1), (3, .int (0 : Int32))] [] (h ++ (rT ++ W)) P := by
  refine me1 (pc' := 1) dm_X12_letter_0 rfl rfl rfl rfl ?_
  refine me_1f (pc' := 4) dm_X12_letter_1 rfl (by decide) rfl ?_
  refine me1 (pc' := 5) dm_X12_letter_4 rfl rfl rfl rfl ?_
  refine me0 (pc' := 6) (S' := .int (1 : Int32) :: _) dm_X12_letter_5 rfl rfl rfl rfl ?_
  refine me_2f (pc' := 9) dm_X12_letter_6 rfl (by decide) rfl ?_
  refine me1 (pc' := 10) dm_X12_letter_9 rfl rfl rfl rfl ?_
  refine me_1f (pc' := 13) dm_X12_letter_10 rfl (cn_f_lt (c := 0) rfl (by omega)) rfl ?_
  refine me1 (pc' := 14) dm_X12_letter_13 rfl rfl rfl rfl ?_
  refine me1 (pc' := 15) dm_X12_letter_14 rfl rfl rfl rfl ?_
  refine me_1f (pc' := 18) dm_X12_letter_15 rfl (by decide) rfl ?_
  refine me1 (pc' := 19) dm_X12_letter_18 rfl rfl rfl rfl ?_
  refine me3 (pc' := 22) dm_X12_letter_19 (g_get (v := .int (0 : Int32)) (lu (n := 102) (j := 0) hn rfl) rfl rfl (Nat.le_of_ble_eq_true rfl)) rfl rfl rfl ?_
  refine me2 (pc' := 29) dm_X12_letter_22 rfl rfl rfl ?_
  refine me_2t (pc' := 36) dm_X12_letter_29 rfl (cn_t_ge (c := 0) rfl (by omega)) ?_
  refine me0 (pc' := 37) (S' := .int (-1 : Int32) :: _) dm_X12_letter_36 rfl rfl rfl rfl ?_
  refine me5 dm_X12_letter_37 rfl rfl rfl ?_
  exact k _ rfl (Nat.le_of_ble_eq_true rfl)
set_option maxRecDepth 100000 in
set_option maxHeartbeats 40000000 in
theorem r_letter_v0_ge_v1 {xt : mj_X} {d : Nat} {h W : mj_H} (hn : h.length = 102) {P : Option Value → mj_H → Prop} {p1 : Int32} (hl1 : 0 ≤ p1.toInt) (k : ∀ U, U.length = 25 → mj_sl U ≤ 3000000 → P (some (.int (-1 : Int32))) (h ++ (U ++ W))) : pgE xt (d + 20) 12 7 false (Option.some FieldType.int) (mj_dec prog_14_method_122_code) 0 [(0, .ref 102), (1, .int (0 : Int32)), (2, .int p1), (3, .int (1 : Int32))] [] (h ++ (rT ++ W)) P := by
  refine me1 (pc' := 1) dm_X12_letter_0 rfl rfl rfl rfl ?_
  refine me_1f (pc' := 4) dm_X12_letter_1 rfl (by decide) rfl ?_
  refine me1 (pc' := 5) dm_X12_letter_4 rfl rfl rfl rfl ?_
  refine me0 (pc' := 6) (S' := .int (1 : Int32) :: _) dm_X12_letter_5 rfl rfl rfl rfl ?_
  refine me_2f (pc' := 9) dm_X12_letter_6 rfl (by decide) rfl ?_
  refine me1 (pc' := 10) dm_X12_letter_9 rfl rfl rfl rfl ?_
  refine me_1f (pc' := 13) dm_X12_letter_10 rfl (cn_f_lt (c := 0) rfl (by omega)) rfl ?_
  refine me1 (pc' := 14) dm_X12_letter_13 rfl rfl rfl rfl ?_
  refine me1 (pc' := 15) dm_X12_letter_14 rfl rfl rfl rfl ?_
  refine me_1f (pc' := 18) dm_X12_letter_15 rfl (by decide) rfl ?_
  refine me1 (pc' := 19) dm_X12_letter_18 rfl rfl rfl rfl ?_
  refine me3 (pc' := 22) dm_X12_letter_19 (g_get (v := .int (0 : Int32)) (lu (n := 102) (j := 0) hn rfl) rfl rfl (Nat.le_of_ble_eq_true rfl)) rfl rfl rfl ?_
  refine me2 (pc' := 29) dm_X12_letter_22 rfl rfl rfl ?_
  refine me_2t (pc' := 36) dm_X12_letter_29 rfl (cn_t_ge (c := 0) rfl (by omega)) ?_
  refine me0 (pc' := 37) (S' := .int (-1 : Int32) :: _) dm_X12_letter_36 rfl rfl rfl rfl ?_
  refine me5 dm_X12_letter_37 rfl rfl rfl ?_
  exact k _ rfl (Nat.le_of_ble_eq_true rfl)
set_option maxRecDepth 100000 in
set_option maxHeartbeats 40000000 in
theorem r_letter_v0_ge_v2 {xt : mj_X} {d : Nat} {h W : mj_H} (hn : h.length = 102) {P : Option Value → mj_H → Prop} {p1 : Int32} (hl1 : 0 ≤ p1.toInt) (k : ∀ U, U.length = 25 → mj_sl U ≤ 3000000 → P (some (.int (-1 : Int32))) (h ++ (U ++ W))) : pgE xt (d + 20) 12 7 false (Option.some FieldType.int) (mj_dec prog_14_method_122_code) 0 [(0, .ref 102), (1, .int (0 : Int32)), (2, .int p1), (3, .int (2 : Int32))] [] (h ++ (rT ++ W)) P := by
  refine me1 (pc' := 1) dm_X12_letter_0 rfl rfl rfl rfl ?_
  refine me_1f (pc' := 4) dm_X12_letter_1 rfl (by decide) rfl ?_
  refine me1 (pc' := 5) dm_X12_letter_4 rfl rfl rfl rfl ?_
  refine me0 (pc' := 6) (S' := .int (1 : Int32) :: _) dm_X12_letter_5 rfl rfl rfl rfl ?_
  refine me_2f (pc' := 9) dm_X12_letter_6 rfl (by decide) rfl ?_
  refine me1 (pc' := 10) dm_X12_letter_9 rfl rfl rfl rfl ?_
  refine me_1f (pc' := 13) dm_X12_letter_10 rfl (cn_f_lt (c := 0) rfl (by omega)) rfl ?_
  refine me1 (pc' := 14) dm_X12_letter_13 rfl rfl rfl rfl ?_
  refine me1 (pc' := 15) dm_X12_letter_14 rfl rfl rfl rfl ?_
  refine me_1f (pc' := 18) dm_X12_letter_15 rfl (by decide) rfl ?_
  refine me1 (pc' := 19) dm_X12_letter_18 rfl rfl rfl rfl ?_
  refine me3 (pc' := 22) dm_X12_letter_19 (g_get (v := .int (0 : Int32)) (lu (n := 102) (j := 0) hn rfl) rfl rfl (Nat.le_of_ble_eq_true rfl)) rfl rfl rfl ?_
  refine me2 (pc' := 29) dm_X12_letter_22 rfl rfl rfl ?_
  refine me_2t (pc' := 36) dm_X12_letter_29 rfl (cn_t_ge (c := 0) rfl (by omega)) ?_
  refine me0 (pc' := 37) (S' := .int (-1 : Int32) :: _) dm_X12_letter_36 rfl rfl rfl rfl ?_
  refine me5 dm_X12_letter_37 rfl rfl rfl ?_
  exact k _ rfl (Nat.le_of_ble_eq_true rfl)
set_option maxRecDepth 100000 in
set_option maxHeartbeats 40000000 in
theorem r_letter_v0_ge_v3 {xt : mj_X} {d : Nat} {h W : mj_H} (hn : h.length = 102) {P : Option Value → mj_H → Prop} {p1 : Int32} (hl1 : 0 ≤ p1.toInt) (k : ∀ U, U.length = 25 → mj_sl U ≤ 3000000 → P (some (.int (-1 : Int32))) (h ++ (U ++ W))) : pgE xt (d + 20) 12 7 false (Option.some FieldType.int) (mj_dec prog_14_method_122_code) 0 [(0, .ref 102), (1, .int (0 : Int32)), (2, .int p1), (3, .int (3 : Int32))] [] (h ++ (rT ++ W)) P := by
  refine me1 (pc' := 1) dm_X12_letter_0 rfl rfl rfl rfl ?_
  refine me_1f (pc' := 4) dm_X12_letter_1 rfl (by decide) rfl ?_
  refine me1 (pc' := 5) dm_X12_letter_4 rfl rfl rfl rfl ?_
  refine me0 (pc' := 6) (S' := .int (1 : Int32) :: _) dm_X12_letter_5 rfl rfl rfl rfl ?_
  refine me_2f (pc' := 9) dm_X12_letter_6 rfl (by decide) rfl ?_
  refine me1 (pc' := 10) dm_X12_letter_9 rfl rfl rfl rfl ?_
  refine me_1f (pc' := 13) dm_X12_letter_10 rfl (cn_f_lt (c := 0) rfl (by omega)) rfl ?_
  refine me1 (pc' := 14) dm_X12_letter_13 rfl rfl rfl rfl ?_
  refine me1 (pc' := 15) dm_X12_letter_14 rfl rfl rfl rfl ?_
  refine me_1f (pc' := 18) dm_X12_letter_15 rfl (by decide) rfl ?_
  refine me1 (pc' := 19) dm_X12_letter_18 rfl rfl rfl rfl ?_
  refine me3 (pc' := 22) dm_X12_letter_19 (g_get (v := .int (0 : Int32)) (lu (n := 102) (j := 0) hn rfl) rfl rfl (Nat.le_of_ble_eq_true rfl)) rfl rfl rfl ?_
  refine me2 (pc' := 29) dm_X12_letter_22 rfl rfl rfl ?_
  refine me_2t (pc' := 36) dm_X12_letter_29 rfl (cn_t_ge (c := 0) rfl (by omega)) ?_
  refine me0 (pc' := 37) (S' := .int (-1 : Int32) :: _) dm_X12_letter_36 rfl rfl rfl rfl ?_
  refine me5 dm_X12_letter_37 rfl rfl rfl ?_
  exact k _ rfl (Nat.le_of_ble_eq_true rfl)
set_option maxRecDepth 100000 in
set_option maxHeartbeats 40000000 in
theorem r_letter_v0_ge_v4 {xt : mj_X} {d : Nat} {h W : mj_H} (hn : h.length = 102) {P : Option Value → mj_H → Prop} {p1 : Int32} (hl1 : 0 ≤ p1.toInt) (k : ∀ U, U.length = 25 → mj_sl U ≤ 3000000 → P (some (.int (-1 : Int32))) (h ++ (U ++ W))) : pgE xt (d + 20) 12 7 false (Option.some FieldType.int) (mj_dec prog_14_method_122_code) 0 [(0, .ref 102), (1, .int (0 : Int32)), (2, .int p1), (3, .int (4 : Int32))] [] (h ++ (rT ++ W)) P := by
  refine me1 (pc' := 1) dm_X12_letter_0 rfl rfl rfl rfl ?_
  refine me_1f (pc' := 4) dm_X12_letter_1 rfl (by decide) rfl ?_
  refine me1 (pc' := 5) dm_X12_letter_4 rfl rfl rfl rfl ?_
  refine me0 (pc' := 6) (S' := .int (1 : Int32) :: _) dm_X12_letter_5 rfl rfl rfl rfl ?_
  refine me_2f (pc' := 9) dm_X12_letter_6 rfl (by decide) rfl ?_
  refine me1 (pc' := 10) dm_X12_letter_9 rfl rfl rfl rfl ?_
  refine me_1f (pc' := 13) dm_X12_letter_10 rfl (cn_f_lt (c := 0) rfl (by omega)) rfl ?_
  refine me1 (pc' := 14) dm_X12_letter_13 rfl rfl rfl rfl ?_
  refine me1 (pc' := 15) dm_X12_letter_14 rfl rfl rfl rfl ?_
  refine me_1f (pc' := 18) dm_X12_letter_15 rfl (by decide) rfl ?_
  refine me1 (pc' := 19) dm_X12_letter_18 rfl rfl rfl rfl ?_
  refine me3 (pc' := 22) dm_X12_letter_19 (g_get (v := .int (0 : Int32)) (lu (n := 102) (j := 0) hn rfl) rfl rfl (Nat.le_of_ble_eq_true rfl)) rfl rfl rfl ?_
  refine me2 (pc' := 29) dm_X12_letter_22 rfl rfl rfl ?_
  refine me_2t (pc' := 36) dm_X12_letter_29 rfl (cn_t_ge (c := 0) rfl (by omega)) ?_
  refine me0 (pc' := 37) (S' := .int (-1 : Int32) :: _) dm_X12_letter_36 rfl rfl rfl rfl ?_
  refine me5 dm_X12_letter_37 rfl rfl rfl ?_
  exact k _ rfl (Nat.le_of_ble_eq_true rfl)
set_option maxRecDepth 100000 in
set_option maxHeartbeats 40000000 in
theorem r_letter_v0_ge_v5 {xt : mj_X} {d : Nat} {h W : mj_H} (hn : h.length = 102) {P : Option Value → mj_H → Prop} {p1 : Int32} (hl1 : 0 ≤ p1.toInt) (k : ∀ U, U.length = 25 → mj_sl U ≤ 3000000 → P (some (.int (-1 : Int32))) (h ++ (U ++ W))) : pgE xt (d + 20) 12 7 false (Option.some FieldType.int) (mj_dec prog_14_method_122_code) 0 [(0, .ref 102), (1, .int (0 : Int32)), (2, .int p1), (3, .int (5 : Int32))] [] (h ++ (rT ++ W)) P := by
  refine me1 (pc' := 1) dm_X12_letter_0 rfl rfl rfl rfl ?_
  refine me_1f (pc' := 4) dm_X12_letter_1 rfl (by decide) rfl ?_
  refine me1 (pc' := 5) dm_X12_letter_4 rfl rfl rfl rfl ?_
  refine me0 (pc' := 6) (S' := .int (1 : Int32) :: _) dm_X12_letter_5 rfl rfl rfl rfl ?_
  refine me_2f (pc' := 9) dm_X12_letter_6 rfl (by decide) rfl ?_
  refine me1 (pc' := 10) dm_X12_letter_9 rfl rfl rfl rfl ?_
  refine me_1f (pc' := 13) dm_X12_letter_10 rfl (cn_f_lt (c := 0) rfl (by omega)) rfl ?_
  refine me1 (pc' := 14) dm_X12_letter_13 rfl rfl rfl rfl ?_
  refine me1 (pc' := 15) dm_X12_letter_14 rfl rfl rfl rfl ?_
  refine me_1f (pc' := 18) dm_X12_letter_15 rfl (by decide) rfl ?_
  refine me1 (pc' := 19) dm_X12_letter_18 rfl rfl rfl rfl ?_
  refine me3 (pc' := 22) dm_X12_letter_19 (g_get (v := .int (0 : Int32)) (lu (n := 102) (j := 0) hn rfl) rfl rfl (Nat.le_of_ble_eq_true rfl)) rfl rfl rfl ?_
  refine me2 (pc' := 29) dm_X12_letter_22 rfl rfl rfl ?_
  refine me_2t (pc' := 36) dm_X12_letter_29 rfl (cn_t_ge (c := 0) rfl (by omega)) ?_
  refine me0 (pc' := 37) (S' := .int (-1 : Int32) :: _) dm_X12_letter_36 rfl rfl rfl rfl ?_
  refine me5 dm_X12_letter_37 rfl rfl rfl ?_
  exact k _ rfl (Nat.le_of_ble_eq_true rfl)
set_option maxRecDepth 100000 in
set_option maxHeartbeats 40000000 in
theorem r_letter_v0_ge_v6 {xt : mj_X} {d : Nat} {h W : mj_H} (hn : h.length = 102) {P : Option Value → mj_H → Prop} {p1 : Int32} (hl1 : 0 ≤ p1.toInt) (k : ∀ U, U.length = 25 → mj_sl U ≤ 3000000 → P (some (.int (-1 : Int32))) (h ++ (U ++ W))) : pgE xt (d + 20) 12 7 false (Option.some FieldType.int) (mj_dec prog_14_method_122_code) 0 [(0, .ref 102), (1, .int (0 : Int32)), (2, .int p1), (3, .int (6 : Int32))] [] (h ++ (rT ++ W)) P := by
  refine me1 (pc' := 1) dm_X12_letter_0 rfl rfl rfl rfl ?_
  refine me_1f (pc' := 4) dm_X12_letter_1 rfl (by decide) rfl ?_
  refine me1 (pc' := 5) dm_X12_letter_4 rfl rfl rfl rfl ?_
  refine me0 (pc' := 6) (S' := .int (1 : Int32) :: _) dm_X12_letter_5 rfl rfl rfl rfl ?_
  refine me_2f (pc' := 9) dm_X12_letter_6 rfl (by decide) rfl ?_
  refine me1 (pc' := 10) dm_X12_letter_9 rfl rfl rfl rfl ?_
  refine me_1f (pc' := 13) dm_X12_letter_10 rfl (cn_f_lt (c := 0) rfl (by omega)) rfl ?_
  refine me1 (pc' := 14) dm_X12_letter_13 rfl rfl rfl rfl ?_
  refine me1 (pc' := 15) dm_X12_letter_14 rfl rfl rfl rfl ?_
  refine me_1f (pc' := 18) dm_X12_letter_15 rfl (by decide) rfl ?_
  refine me1 (pc' := 19) dm_X12_letter_18 rfl rfl rfl rfl ?_
  refine me3 (pc' := 22) dm_X12_letter_19 (g_get (v := .int (0 : Int32)) (lu (n := 102) (j := 0) hn rfl) rfl rfl (Nat.le_of_ble_eq_true rfl)) rfl rfl rfl ?_
  refine me2 (pc' := 29) dm_X12_letter_22 rfl rfl rfl ?_
  refine me_2t (pc' := 36) dm_X12_letter_29 rfl (cn_t_ge (c := 0) rfl (by omega)) ?_
  refine me0 (pc' := 37) (S' := .int (-1 : Int32) :: _) dm_X12_letter_36 rfl rfl rfl rfl ?_
  refine me5 dm_X12_letter_37 rfl rfl rfl ?_
  exact k _ rfl (Nat.le_of_ble_eq_true rfl)
set_option maxRecDepth 100000 in
set_option maxHeartbeats 40000000 in
theorem r_letter_v0_ge_v7 {xt : mj_X} {d : Nat} {h W : mj_H} (hn : h.length = 102) {P : Option Value → mj_H → Prop} {p1 : Int32} (hl1 : 0 ≤ p1.toInt) (k : ∀ U, U.length = 25 → mj_sl U ≤ 3000000 → P (some (.int (-1 : Int32))) (h ++ (U ++ W))) : pgE xt (d + 20) 12 7 false (Option.some FieldType.int) (mj_dec prog_14_method_122_code) 0 [(0, .ref 102), (1, .int (0 : Int32)), (2, .int p1), (3, .int (7 : Int32))] [] (h ++ (rT ++ W)) P := by
  refine me1 (pc' := 1) dm_X12_letter_0 rfl rfl rfl rfl ?_
  refine me_1f (pc' := 4) dm_X12_letter_1 rfl (by decide) rfl ?_
  refine me1 (pc' := 5) dm_X12_letter_4 rfl rfl rfl rfl ?_
  refine me0 (pc' := 6) (S' := .int (1 : Int32) :: _) dm_X12_letter_5 rfl rfl rfl rfl ?_
  refine me_2f (pc' := 9) dm_X12_letter_6 rfl (by decide) rfl ?_
  refine me1 (pc' := 10) dm_X12_letter_9 rfl rfl rfl rfl ?_
  refine me_1f (pc' := 13) dm_X12_letter_10 rfl (cn_f_lt (c := 0) rfl (by omega)) rfl ?_
  refine me1 (pc' := 14) dm_X12_letter_13 rfl rfl rfl rfl ?_
  refine me1 (pc' := 15) dm_X12_letter_14 rfl rfl rfl rfl ?_
  refine me_1f (pc' := 18) dm_X12_letter_15 rfl (by decide) rfl ?_
  refine me1 (pc' := 19) dm_X12_letter_18 rfl rfl rfl rfl ?_
  refine me3 (pc' := 22) dm_X12_letter_19 (g_get (v := .int (0 : Int32)) (lu (n := 102) (j := 0) hn rfl) rfl rfl (Nat.le_of_ble_eq_true rfl)) rfl rfl rfl ?_
  refine me2 (pc' := 29) dm_X12_letter_22 rfl rfl rfl ?_
  refine me_2t (pc' := 36) dm_X12_letter_29 rfl (cn_t_ge (c := 0) rfl (by omega)) ?_
  refine me0 (pc' := 37) (S' := .int (-1 : Int32) :: _) dm_X12_letter_36 rfl rfl rfl rfl ?_
  refine me5 dm_X12_letter_37 rfl rfl rfl ?_
  exact k _ rfl (Nat.le_of_ble_eq_true rfl)
set_option maxRecDepth 100000 in
set_option maxHeartbeats 40000000 in
theorem r_letter_v0_ge_ge {xt : mj_X} {d : Nat} {h W : mj_H} (hn : h.length = 102) {P : Option Value → mj_H → Prop} {p1 : Int32} {p2 : Int32} (hl1 : 0 ≤ p1.toInt) (hl2 : 8 ≤ p2.toInt) (k : ∀ U, U.length = 25 → mj_sl U ≤ 3000000 → P (some (.int (-1 : Int32))) (h ++ (U ++ W))) : pgE xt (d + 20) 12 7 false (Option.some FieldType.int) (mj_dec prog_14_method_122_code) 0 [(0, .ref 102), (1, .int (0 : Int32)), (2, .int p1), (3, .int p2)] [] (h ++ (rT ++ W)) P := by
  refine me1 (pc' := 1) dm_X12_letter_0 rfl rfl rfl rfl ?_
  refine me_1f (pc' := 4) dm_X12_letter_1 rfl (by decide) rfl ?_
  refine me1 (pc' := 5) dm_X12_letter_4 rfl rfl rfl rfl ?_
  refine me0 (pc' := 6) (S' := .int (1 : Int32) :: _) dm_X12_letter_5 rfl rfl rfl rfl ?_
  refine me_2f (pc' := 9) dm_X12_letter_6 rfl (by decide) rfl ?_
  refine me1 (pc' := 10) dm_X12_letter_9 rfl rfl rfl rfl ?_
  refine me_1f (pc' := 13) dm_X12_letter_10 rfl (cn_f_lt (c := 0) rfl (by omega)) rfl ?_
  refine me1 (pc' := 14) dm_X12_letter_13 rfl rfl rfl rfl ?_
  refine me1 (pc' := 15) dm_X12_letter_14 rfl rfl rfl rfl ?_
  refine me_1f (pc' := 18) dm_X12_letter_15 rfl (by decide) rfl ?_
  refine me1 (pc' := 19) dm_X12_letter_18 rfl rfl rfl rfl ?_
  refine me3 (pc' := 22) dm_X12_letter_19 (g_get (v := .int (0 : Int32)) (lu (n := 102) (j := 0) hn rfl) rfl rfl (Nat.le_of_ble_eq_true rfl)) rfl rfl rfl ?_
  refine me2 (pc' := 29) dm_X12_letter_22 rfl rfl rfl ?_
  refine me_2t (pc' := 36) dm_X12_letter_29 rfl (cn_t_ge (c := 0) rfl (by omega)) ?_
  refine me0 (pc' := 37) (S' := .int (-1 : Int32) :: _) dm_X12_letter_36 rfl rfl rfl rfl ?_
  refine me5 dm_X12_letter_37 rfl rfl rfl ?_
  exact k _ rfl (Nat.le_of_ble_eq_true rfl)
set_option maxRecDepth 100000 in
set_option maxHeartbeats 40000000 in
theorem r_letter_v1_lt_lt {xt : mj_X} {d : Nat} {h W : mj_H} (hn : h.length = 102) {P : Option Value → mj_H → Prop} {p1 : Int32} {p2 : Int32} (hh1 : p1.toInt ≤ -1) (hh2 : p2.toInt ≤ -1) (k : ∀ U, U.length = 25 → mj_sl U ≤ 3000000 → P (some (.int (-1 : Int32))) (h ++ (U ++ W))) : pgE xt (d + 20) 12 7 false (Option.some FieldType.int) (mj_dec prog_14_method_122_code) 0 [(0, .ref 102), (1, .int (1 : Int32)), (2, .int p1), (3, .int p2)] [] (h ++ (rT ++ W)) P := by
  refine me1 (pc' := 1) dm_X12_letter_0 rfl rfl rfl rfl ?_
  refine me_1f (pc' := 4) dm_X12_letter_1 rfl (by decide) rfl ?_
  refine me1 (pc' := 5) dm_X12_letter_4 rfl rfl rfl rfl ?_
  refine me0 (pc' := 6) (S' := .int (1 : Int32) :: _) dm_X12_letter_5 rfl rfl rfl rfl ?_
  refine me_2f (pc' := 9) dm_X12_letter_6 rfl (by decide) rfl ?_
  refine me1 (pc' := 10) dm_X12_letter_9 rfl rfl rfl rfl ?_
  refine me_1t (pc' := 36) dm_X12_letter_10 rfl (cn_t_lt (c := 0) rfl (by omega)) ?_
  refine me0 (pc' := 37) (S' := .int (-1 : Int32) :: _) dm_X12_letter_36 rfl rfl rfl rfl ?_
  refine me5 dm_X12_letter_37 rfl rfl rfl ?_
  exact k _ rfl (Nat.le_of_ble_eq_true rfl)
set_option maxRecDepth 100000 in
set_option maxHeartbeats 40000000 in
theorem r_letter_v1_lt_v0 {xt : mj_X} {d : Nat} {h W : mj_H} (hn : h.length = 102) {P : Option Value → mj_H → Prop} {p1 : Int32} (hh1 : p1.toInt ≤ -1) (k : ∀ U, U.length = 25 → mj_sl U ≤ 3000000 → P (some (.int (-1 : Int32))) (h ++ (U ++ W))) : pgE xt (d + 20) 12 7 false (Option.some FieldType.int) (mj_dec prog_14_method_122_code) 0 [(0, .ref 102), (1, .int (1 : Int32)), (2, .int p1), (3, .int (0 : Int32))] [] (h ++ (rT ++ W)) P := by
  refine me1 (pc' := 1) dm_X12_letter_0 rfl rfl rfl rfl ?_
  refine me_1f (pc' := 4) dm_X12_letter_1 rfl (by decide) rfl ?_
  refine me1 (pc' := 5) dm_X12_letter_4 rfl rfl rfl rfl ?_
  refine me0 (pc' := 6) (S' := .int (1 : Int32) :: _) dm_X12_letter_5 rfl rfl rfl rfl ?_
  refine me_2f (pc' := 9) dm_X12_letter_6 rfl (by decide) rfl ?_
  refine me1 (pc' := 10) dm_X12_letter_9 rfl rfl rfl rfl ?_
  refine me_1t (pc' := 36) dm_X12_letter_10 rfl (cn_t_lt (c := 0) rfl (by omega)) ?_
  refine me0 (pc' := 37) (S' := .int (-1 : Int32) :: _) dm_X12_letter_36 rfl rfl rfl rfl ?_
  refine me5 dm_X12_letter_37 rfl rfl rfl ?_
  exact k _ rfl (Nat.le_of_ble_eq_true rfl)
set_option maxRecDepth 100000 in
set_option maxHeartbeats 40000000 in
theorem r_letter_v1_lt_v1 {xt : mj_X} {d : Nat} {h W : mj_H} (hn : h.length = 102) {P : Option Value → mj_H → Prop} {p1 : Int32} (hh1 : p1.toInt ≤ -1) (k : ∀ U, U.length = 25 → mj_sl U ≤ 3000000 → P (some (.int (-1 : Int32))) (h ++ (U ++ W))) : pgE xt (d + 20) 12 7 false (Option.some FieldType.int) (mj_dec prog_14_method_122_code) 0 [(0, .ref 102), (1, .int (1 : Int32)), (2, .int p1), (3, .int (1 : Int32))] [] (h ++ (rT ++ W)) P := by
  refine me1 (pc' := 1) dm_X12_letter_0 rfl rfl rfl rfl ?_
  refine me_1f (pc' := 4) dm_X12_letter_1 rfl (by decide) rfl ?_
  refine me1 (pc' := 5) dm_X12_letter_4 rfl rfl rfl rfl ?_
  refine me0 (pc' := 6) (S' := .int (1 : Int32) :: _) dm_X12_letter_5 rfl rfl rfl rfl ?_
  refine me_2f (pc' := 9) dm_X12_letter_6 rfl (by decide) rfl ?_
  refine me1 (pc' := 10) dm_X12_letter_9 rfl rfl rfl rfl ?_
  refine me_1t (pc' := 36) dm_X12_letter_10 rfl (cn_t_lt (c := 0) rfl (by omega)) ?_
  refine me0 (pc' := 37) (S' := .int (-1 : Int32) :: _) dm_X12_letter_36 rfl rfl rfl rfl ?_
  refine me5 dm_X12_letter_37 rfl rfl rfl ?_
  exact k _ rfl (Nat.le_of_ble_eq_true rfl)
set_option maxRecDepth 100000 in
set_option maxHeartbeats 40000000 in
theorem r_letter_v1_lt_v2 {xt : mj_X} {d : Nat} {h W : mj_H} (hn : h.length = 102) {P : Option Value → mj_H → Prop} {p1 : Int32} (hh1 : p1.toInt ≤ -1) (k : ∀ U, U.length = 25 → mj_sl U ≤ 3000000 → P (some (.int (-1 : Int32))) (h ++ (U ++ W))) : pgE xt (d + 20) 12 7 false (Option.some FieldType.int) (mj_dec prog_14_method_122_code) 0 [(0, .ref 102), (1, .int (1 : Int32)), (2, .int p1), (3, .int (2 : Int32))] [] (h ++ (rT ++ W)) P := by
  refine me1 (pc' := 1) dm_X12_letter_0 rfl rfl rfl rfl ?_
  refine me_1f (pc' := 4) dm_X12_letter_1 rfl (by decide) rfl ?_
  refine me1 (pc' := 5) dm_X12_letter_4 rfl rfl rfl rfl ?_
  refine me0 (pc' := 6) (S' := .int (1 : Int32) :: _) dm_X12_letter_5 rfl rfl rfl rfl ?_
  refine me_2f (pc' := 9) dm_X12_letter_6 rfl (by decide) rfl ?_
  refine me1 (pc' := 10) dm_X12_letter_9 rfl rfl rfl rfl ?_
  refine me_1t (pc' := 36) dm_X12_letter_10 rfl (cn_t_lt (c := 0) rfl (by omega)) ?_
  refine me0 (pc' := 37) (S' := .int (-1 : Int32) :: _) dm_X12_letter_36 rfl rfl rfl rfl ?_
  refine me5 dm_X12_letter_37 rfl rfl rfl ?_
  exact k _ rfl (Nat.le_of_ble_eq_true rfl)
set_option maxRecDepth 100000 in
set_option maxHeartbeats 40000000 in
theorem r_letter_v1_lt_v3 {xt : mj_X} {d : Nat} {h W : mj_H} (hn : h.length = 102) {P : Option Value → mj_H → Prop} {p1 : Int32} (hh1 : p1.toInt ≤ -1) (k : ∀ U, U.length = 25 → mj_sl U ≤ 3000000 → P (some (.int (-1 : Int32))) (h ++ (U ++ W))) : pgE xt (d + 20) 12 7 false (Option.some FieldType.int) (mj_dec prog_14_method_122_code) 0 [(0, .ref 102), (1, .int (1 : Int32)), (2, .int p1), (3, .int (3 : Int32))] [] (h ++ (rT ++ W)) P := by
  refine me1 (pc' := 1) dm_X12_letter_0 rfl rfl rfl rfl ?_
  refine me_1f (pc' := 4) dm_X12_letter_1 rfl (by decide) rfl ?_
  refine me1 (pc' := 5) dm_X12_letter_4 rfl rfl rfl rfl ?_
  refine me0 (pc' := 6) (S' := .int (1 : Int32) :: _) dm_X12_letter_5 rfl rfl rfl rfl ?_
  refine me_2f (pc' := 9) dm_X12_letter_6 rfl (by decide) rfl ?_
  refine me1 (pc' := 10) dm_X12_letter_9 rfl rfl rfl rfl ?_
  refine me_1t (pc' := 36) dm_X12_letter_10 rfl (cn_t_lt (c := 0) rfl (by omega)) ?_
  refine me0 (pc' := 37) (S' := .int (-1 : Int32) :: _) dm_X12_letter_36 rfl rfl rfl rfl ?_
  refine me5 dm_X12_letter_37 rfl rfl rfl ?_
  exact k _ rfl (Nat.le_of_ble_eq_true rfl)
set_option maxRecDepth 100000 in
set_option maxHeartbeats 40000000 in
theorem r_letter_v1_lt_v4 {xt : mj_X} {d : Nat} {h W : mj_H} (hn : h.length = 102) {P : Option Value → mj_H → Prop} {p1 : Int32} (hh1 : p1.toInt ≤ -1) (k : ∀ U, U.length = 25 → mj_sl U ≤ 3000000 → P (some (.int (-1 : Int32))) (h ++ (U ++ W))) : pgE xt (d + 20) 12 7 false (Option.some FieldType.int) (mj_dec prog_14_method_122_code) 0 [(0, .ref 102), (1, .int (1 : Int32)), (2, .int p1), (3, .int (4 : Int32))] [] (h ++ (rT ++ W)) P := by
  refine me1 (pc' := 1) dm_X12_letter_0 rfl rfl rfl rfl ?_
  refine me_1f (pc' := 4) dm_X12_letter_1 rfl (by decide) rfl ?_
  refine me1 (pc' := 5) dm_X12_letter_4 rfl rfl rfl rfl ?_
  refine me0 (pc' := 6) (S' := .int (1 : Int32) :: _) dm_X12_letter_5 rfl rfl rfl rfl ?_
  refine me_2f (pc' := 9) dm_X12_letter_6 rfl (by decide) rfl ?_
  refine me1 (pc' := 10) dm_X12_letter_9 rfl rfl rfl rfl ?_
  refine me_1t (pc' := 36) dm_X12_letter_10 rfl (cn_t_lt (c := 0) rfl (by omega)) ?_
  refine me0 (pc' := 37) (S' := .int (-1 : Int32) :: _) dm_X12_letter_36 rfl rfl rfl rfl ?_
  refine me5 dm_X12_letter_37 rfl rfl rfl ?_
  exact k _ rfl (Nat.le_of_ble_eq_true rfl)
set_option maxRecDepth 100000 in
set_option maxHeartbeats 40000000 in
theorem r_letter_v1_lt_v5 {xt : mj_X} {d : Nat} {h W : mj_H} (hn : h.length = 102) {P : Option Value → mj_H → Prop} {p1 : Int32} (hh1 : p1.toInt ≤ -1) (k : ∀ U, U.length = 25 → mj_sl U ≤ 3000000 → P (some (.int (-1 : Int32))) (h ++ (U ++ W))) : pgE xt (d + 20) 12 7 false (Option.some FieldType.int) (mj_dec prog_14_method_122_code) 0 [(0, .ref 102), (1, .int (1 : Int32)), (2, .int p1), (3, .int (5 : Int32))] [] (h ++ (rT ++ W)) P := by
  refine me1 (pc' := 1) dm_X12_letter_0 rfl rfl rfl rfl ?_
  refine me_1f (pc' := 4) dm_X12_letter_1 rfl (by decide) rfl ?_
  refine me1 (pc' := 5) dm_X12_letter_4 rfl rfl rfl rfl ?_
  refine me0 (pc' := 6) (S' := .int (1 : Int32) :: _) dm_X12_letter_5 rfl rfl rfl rfl ?_
  refine me_2f (pc' := 9) dm_X12_letter_6 rfl (by decide) rfl ?_
  refine me1 (pc' := 10) dm_X12_letter_9 rfl rfl rfl rfl ?_
  refine me_1t (pc' := 36) dm_X12_letter_10 rfl (cn_t_lt (c := 0) rfl (by omega)) ?_
  refine me0 (pc' := 37) (S' := .int (-1 : Int32) :: _) dm_X12_letter_36 rfl rfl rfl rfl ?_
  refine me5 dm_X12_letter_37 rfl rfl rfl ?_
  exact k _ rfl (Nat.le_of_ble_eq_true rfl)
set_option maxRecDepth 100000 in
set_option maxHeartbeats 40000000 in
theorem r_letter_v1_lt_v6 {xt : mj_X} {d : Nat} {h W : mj_H} (hn : h.length = 102) {P : Option Value → mj_H → Prop} {p1 : Int32} (hh1 : p1.toInt ≤ -1) (k : ∀ U, U.length = 25 → mj_sl U ≤ 3000000 → P (some (.int (-1 : Int32))) (h ++ (U ++ W))) : pgE xt (d + 20) 12 7 false (Option.some FieldType.int) (mj_dec prog_14_method_122_code) 0 [(0, .ref 102), (1, .int (1 : Int32)), (2, .int p1), (3, .int (6 : Int32))] [] (h ++ (rT ++ W)) P := by
  refine me1 (pc' := 1) dm_X12_letter_0 rfl rfl rfl rfl ?_
  refine me_1f (pc' := 4) dm_X12_letter_1 rfl (by decide) rfl ?_
  refine me1 (pc' := 5) dm_X12_letter_4 rfl rfl rfl rfl ?_
  refine me0 (pc' := 6) (S' := .int (1 : Int32) :: _) dm_X12_letter_5 rfl rfl rfl rfl ?_
  refine me_2f (pc' := 9) dm_X12_letter_6 rfl (by decide) rfl ?_
  refine me1 (pc' := 10) dm_X12_letter_9 rfl rfl rfl rfl ?_
  refine me_1t (pc' := 36) dm_X12_letter_10 rfl (cn_t_lt (c := 0) rfl (by omega)) ?_
  refine me0 (pc' := 37) (S' := .int (-1 : Int32) :: _) dm_X12_letter_36 rfl rfl rfl rfl ?_
  refine me5 dm_X12_letter_37 rfl rfl rfl ?_
  exact k _ rfl (Nat.le_of_ble_eq_true rfl)
set_option maxRecDepth 100000 in
set_option maxHeartbeats 40000000 in
theorem r_letter_v1_lt_v7 {xt : mj_X} {d : Nat} {h W : mj_H} (hn : h.length = 102) {P : Option Value → mj_H → Prop} {p1 : Int32} (hh1 : p1.toInt ≤ -1) (k : ∀ U, U.length = 25 → mj_sl U ≤ 3000000 → P (some (.int (-1 : Int32))) (h ++ (U ++ W))) : pgE xt (d + 20) 12 7 false (Option.some FieldType.int) (mj_dec prog_14_method_122_code) 0 [(0, .ref 102), (1, .int (1 : Int32)), (2, .int p1), (3, .int (7 : Int32))] [] (h ++ (rT ++ W)) P := by
  refine me1 (pc' := 1) dm_X12_letter_0 rfl rfl rfl rfl ?_
  refine me_1f (pc' := 4) dm_X12_letter_1 rfl (by decide) rfl ?_
  refine me1 (pc' := 5) dm_X12_letter_4 rfl rfl rfl rfl ?_
  refine me0 (pc' := 6) (S' := .int (1 : Int32) :: _) dm_X12_letter_5 rfl rfl rfl rfl ?_
  refine me_2f (pc' := 9) dm_X12_letter_6 rfl (by decide) rfl ?_
  refine me1 (pc' := 10) dm_X12_letter_9 rfl rfl rfl rfl ?_
  refine me_1t (pc' := 36) dm_X12_letter_10 rfl (cn_t_lt (c := 0) rfl (by omega)) ?_
  refine me0 (pc' := 37) (S' := .int (-1 : Int32) :: _) dm_X12_letter_36 rfl rfl rfl rfl ?_
  refine me5 dm_X12_letter_37 rfl rfl rfl ?_
  exact k _ rfl (Nat.le_of_ble_eq_true rfl)
set_option maxRecDepth 100000 in
set_option maxHeartbeats 40000000 in
theorem r_letter_v1_lt_ge {xt : mj_X} {d : Nat} {h W : mj_H} (hn : h.length = 102) {P : Option Value → mj_H → Prop} {p1 : Int32} {p2 : Int32} (hh1 : p1.toInt ≤ -1) (hl2 : 8 ≤ p2.toInt) (k : ∀ U, U.length = 25 → mj_sl U ≤ 3000000 → P (some (.int (-1 : Int32))) (h ++ (U ++ W))) : pgE xt (d + 20) 12 7 false (Option.some FieldType.int) (mj_dec prog_14_method_122_code) 0 [(0, .ref 102), (1, .int (1 : Int32)), (2, .int p1), (3, .int p2)] [] (h ++ (rT ++ W)) P := by
  refine me1 (pc' := 1) dm_X12_letter_0 rfl rfl rfl rfl ?_
  refine me_1f (pc' := 4) dm_X12_letter_1 rfl (by decide) rfl ?_
  refine me1 (pc' := 5) dm_X12_letter_4 rfl rfl rfl rfl ?_
  refine me0 (pc' := 6) (S' := .int (1 : Int32) :: _) dm_X12_letter_5 rfl rfl rfl rfl ?_
  refine me_2f (pc' := 9) dm_X12_letter_6 rfl (by decide) rfl ?_
  refine me1 (pc' := 10) dm_X12_letter_9 rfl rfl rfl rfl ?_
  refine me_1t (pc' := 36) dm_X12_letter_10 rfl (cn_t_lt (c := 0) rfl (by omega)) ?_
  refine me0 (pc' := 37) (S' := .int (-1 : Int32) :: _) dm_X12_letter_36 rfl rfl rfl rfl ?_
  refine me5 dm_X12_letter_37 rfl rfl rfl ?_
  exact k _ rfl (Nat.le_of_ble_eq_true rfl)
set_option maxRecDepth 100000 in
set_option maxHeartbeats 40000000 in
theorem r_letter_v1_ge_lt {xt : mj_X} {d : Nat} {h W : mj_H} (hn : h.length = 102) {P : Option Value → mj_H → Prop} {p1 : Int32} {p2 : Int32} (hl1 : 0 ≤ p1.toInt) (hh2 : p2.toInt ≤ -1) (k : ∀ U, U.length = 25 → mj_sl U ≤ 3000000 → P (some (.int (-1 : Int32))) (h ++ (U ++ W))) : pgE xt (d + 20) 12 7 false (Option.some FieldType.int) (mj_dec prog_14_method_122_code) 0 [(0, .ref 102), (1, .int (1 : Int32)), (2, .int p1), (3, .int p2)] [] (h ++ (rT ++ W)) P := by
  refine me1 (pc' := 1) dm_X12_letter_0 rfl rfl rfl rfl ?_
  refine me_1f (pc' := 4) dm_X12_letter_1 rfl (by decide) rfl ?_
  refine me1 (pc' := 5) dm_X12_letter_4 rfl rfl rfl rfl ?_
  refine me0 (pc' := 6) (S' := .int (1 : Int32) :: _) dm_X12_letter_5 rfl rfl rfl rfl ?_
  refine me_2f (pc' := 9) dm_X12_letter_6 rfl (by decide) rfl ?_
  refine me1 (pc' := 10) dm_X12_letter_9 rfl rfl rfl rfl ?_
  refine me_1f (pc' := 13) dm_X12_letter_10 rfl (cn_f_lt (c := 0) rfl (by omega)) rfl ?_
  refine me1 (pc' := 14) dm_X12_letter_13 rfl rfl rfl rfl ?_
  refine me1 (pc' := 15) dm_X12_letter_14 rfl rfl rfl rfl ?_
  refine me_1t (pc' := 25) dm_X12_letter_15 rfl rfl ?_
  refine me1 (pc' := 26) dm_X12_letter_25 rfl rfl rfl rfl ?_
  refine me3 (pc' := 29) dm_X12_letter_26 (g_get (v := .int (0 : Int32)) (lu (n := 102) (j := 0) hn rfl) rfl rfl (Nat.le_of_ble_eq_true rfl)) rfl rfl rfl ?_
  refine me_2t (pc' := 36) dm_X12_letter_29 rfl (cn_t_ge (c := 0) rfl (by omega)) ?_
  refine me0 (pc' := 37) (S' := .int (-1 : Int32) :: _) dm_X12_letter_36 rfl rfl rfl rfl ?_
  refine me5 dm_X12_letter_37 rfl rfl rfl ?_
  exact k _ rfl (Nat.le_of_ble_eq_true rfl)
set_option maxRecDepth 100000 in
set_option maxHeartbeats 40000000 in
theorem r_letter_v1_ge_v0 {xt : mj_X} {d : Nat} {h W : mj_H} (hn : h.length = 102) {P : Option Value → mj_H → Prop} {p1 : Int32} (hl1 : 0 ≤ p1.toInt) (k : ∀ U, U.length = 25 → mj_sl U ≤ 3000000 → P (some (.int (-1 : Int32))) (h ++ (U ++ W))) : pgE xt (d + 20) 12 7 false (Option.some FieldType.int) (mj_dec prog_14_method_122_code) 0 [(0, .ref 102), (1, .int (1 : Int32)), (2, .int p1), (3, .int (0 : Int32))] [] (h ++ (rT ++ W)) P := by
  refine me1 (pc' := 1) dm_X12_letter_0 rfl rfl rfl rfl ?_
  refine me_1f (pc' := 4) dm_X12_letter_1 rfl (by decide) rfl ?_
  refine me1 (pc' := 5) dm_X12_letter_4 rfl rfl rfl rfl ?_
  refine me0 (pc' := 6) (S' := .int (1 : Int32) :: _) dm_X12_letter_5 rfl rfl rfl rfl ?_
  refine me_2f (pc' := 9) dm_X12_letter_6 rfl (by decide) rfl ?_
  refine me1 (pc' := 10) dm_X12_letter_9 rfl rfl rfl rfl ?_
  refine me_1f (pc' := 13) dm_X12_letter_10 rfl (cn_f_lt (c := 0) rfl (by omega)) rfl ?_
  refine me1 (pc' := 14) dm_X12_letter_13 rfl rfl rfl rfl ?_
  refine me1 (pc' := 15) dm_X12_letter_14 rfl rfl rfl rfl ?_
  refine me_1t (pc' := 25) dm_X12_letter_15 rfl rfl ?_
  refine me1 (pc' := 26) dm_X12_letter_25 rfl rfl rfl rfl ?_
  refine me3 (pc' := 29) dm_X12_letter_26 (g_get (v := .int (0 : Int32)) (lu (n := 102) (j := 0) hn rfl) rfl rfl (Nat.le_of_ble_eq_true rfl)) rfl rfl rfl ?_
  refine me_2t (pc' := 36) dm_X12_letter_29 rfl (cn_t_ge (c := 0) rfl (by omega)) ?_
  refine me0 (pc' := 37) (S' := .int (-1 : Int32) :: _) dm_X12_letter_36 rfl rfl rfl rfl ?_
  refine me5 dm_X12_letter_37 rfl rfl rfl ?_
  exact k _ rfl (Nat.le_of_ble_eq_true rfl)
set_option maxRecDepth 100000 in
set_option maxHeartbeats 40000000 in
theorem r_letter_v1_ge_v1 {xt : mj_X} {d : Nat} {h W : mj_H} (hn : h.length = 102) {P : Option Value → mj_H → Prop} {p1 : Int32} (hl1 : 0 ≤ p1.toInt) (k : ∀ U, U.length = 25 → mj_sl U ≤ 3000000 → P (some (.int (-1 : Int32))) (h ++ (U ++ W))) : pgE xt (d + 20) 12 7 false (Option.some FieldType.int) (mj_dec prog_14_method_122_code) 0 [(0, .ref 102), (1, .int (1 : Int32)), (2, .int p1), (3, .int (1 : Int32))] [] (h ++ (rT ++ W)) P := by
  refine me1 (pc' := 1) dm_X12_letter_0 rfl rfl rfl rfl ?_
  refine me_1f (pc' := 4) dm_X12_letter_1 rfl (by decide) rfl ?_
  refine me1 (pc' := 5) dm_X12_letter_4 rfl rfl rfl rfl ?_
  refine me0 (pc' := 6) (S' := .int (1 : Int32) :: _) dm_X12_letter_5 rfl rfl rfl rfl ?_
  refine me_2f (pc' := 9) dm_X12_letter_6 rfl (by decide) rfl ?_
  refine me1 (pc' := 10) dm_X12_letter_9 rfl rfl rfl rfl ?_
  refine me_1f (pc' := 13) dm_X12_letter_10 rfl (cn_f_lt (c := 0) rfl (by omega)) rfl ?_
  refine me1 (pc' := 14) dm_X12_letter_13 rfl rfl rfl rfl ?_
  refine me1 (pc' := 15) dm_X12_letter_14 rfl rfl rfl rfl ?_
  refine me_1t (pc' := 25) dm_X12_letter_15 rfl rfl ?_
  refine me1 (pc' := 26) dm_X12_letter_25 rfl rfl rfl rfl ?_
  refine me3 (pc' := 29) dm_X12_letter_26 (g_get (v := .int (0 : Int32)) (lu (n := 102) (j := 0) hn rfl) rfl rfl (Nat.le_of_ble_eq_true rfl)) rfl rfl rfl ?_
  refine me_2t (pc' := 36) dm_X12_letter_29 rfl (cn_t_ge (c := 0) rfl (by omega)) ?_
  refine me0 (pc' := 37) (S' := .int (-1 : Int32) :: _) dm_X12_letter_36 rfl rfl rfl rfl ?_
  refine me5 dm_X12_letter_37 rfl rfl rfl ?_
  exact k _ rfl (Nat.le_of_ble_eq_true rfl)
set_option maxRecDepth 100000 in
set_option maxHeartbeats 40000000 in
theorem r_letter_v1_ge_v2 {xt : mj_X} {d : Nat} {h W : mj_H} (hn : h.length = 102) {P : Option Value → mj_H → Prop} {p1 : Int32} (hl1 : 0 ≤ p1.toInt) (k : ∀ U, U.length = 25 → mj_sl U ≤ 3000000 → P (some (.int (-1 : Int32))) (h ++ (U ++ W))) : pgE xt (d + 20) 12 7 false (Option.some FieldType.int) (mj_dec prog_14_method_122_code) 0 [(0, .ref 102), (1, .int (1 : Int32)), (2, .int p1), (3, .int (2 : Int32))] [] (h ++ (rT ++ W)) P := by
  refine me1 (pc' := 1) dm_X12_letter_0 rfl rfl rfl rfl ?_
  refine me_1f (pc' := 4) dm_X12_letter_1 rfl (by decide) rfl ?_
  refine me1 (pc' := 5) dm_X12_letter_4 rfl rfl rfl rfl ?_
  refine me0 (pc' := 6) (S' := .int (1 : Int32) :: _) dm_X12_letter_5 rfl rfl rfl rfl ?_
  refine me_2f (pc' := 9) dm_X12_letter_6 rfl (by decide) rfl ?_
  refine me1 (pc' := 10) dm_X12_letter_9 rfl rfl rfl rfl ?_
  refine me_1f (pc' := 13) dm_X12_letter_10 rfl (cn_f_lt (c := 0) rfl (by omega)) rfl ?_
  refine me1 (pc' := 14) dm_X12_letter_13 rfl rfl rfl rfl ?_
  refine me1 (pc' := 15) dm_X12_letter_14 rfl rfl rfl rfl ?_
  refine me_1t (pc' := 25) dm_X12_letter_15 rfl rfl ?_
  refine me1 (pc' := 26) dm_X12_letter_25 rfl rfl rfl rfl ?_
  refine me3 (pc' := 29) dm_X12_letter_26 (g_get (v := .int (0 : Int32)) (lu (n := 102) (j := 0) hn rfl) rfl rfl (Nat.le_of_ble_eq_true rfl)) rfl rfl rfl ?_
  refine me_2t (pc' := 36) dm_X12_letter_29 rfl (cn_t_ge (c := 0) rfl (by omega)) ?_
  refine me0 (pc' := 37) (S' := .int (-1 : Int32) :: _) dm_X12_letter_36 rfl rfl rfl rfl ?_
  refine me5 dm_X12_letter_37 rfl rfl rfl ?_
  exact k _ rfl (Nat.le_of_ble_eq_true rfl)
set_option maxRecDepth 100000 in
set_option maxHeartbeats 40000000 in
theorem r_letter_v1_ge_v3 {xt : mj_X} {d : Nat} {h W : mj_H} (hn : h.length = 102) {P : Option Value → mj_H → Prop} {p1 : Int32} (hl1 : 0 ≤ p1.toInt) (k : ∀ U, U.length = 25 → mj_sl U ≤ 3000000 → P (some (.int (-1 : Int32))) (h ++ (U ++ W))) : pgE xt (d + 20) 12 7 false (Option.some FieldType.int) (mj_dec prog_14_method_122_code) 0 [(0, .ref 102), (1, .int (1 : Int32)), (2, .int p1), (3, .int (3 : Int32))] [] (h ++ (rT ++ W)) P := by
  refine me1 (pc' := 1) dm_X12_letter_0 rfl rfl rfl rfl ?_
  refine me_1f (pc' := 4) dm_X12_letter_1 rfl (by decide) rfl ?_
  refine me1 (pc' := 5) dm_X12_letter_4 rfl rfl rfl rfl ?_
  refine me0 (pc' := 6) (S' := .int (1 : Int32) :: _) dm_X12_letter_5 rfl rfl rfl rfl ?_
  refine me_2f (pc' := 9) dm_X12_letter_6 rfl (by decide) rfl ?_
  refine me1 (pc' := 10) dm_X12_letter_9 rfl rfl rfl rfl ?_
  refine me_1f (pc' := 13) dm_X12_letter_10 rfl (cn_f_lt (c := 0) rfl (by omega)) rfl ?_
  refine me1 (pc' := 14) dm_X12_letter_13 rfl rfl rfl rfl ?_
  refine me1 (pc' := 15) dm_X12_letter_14 rfl rfl rfl rfl ?_
  refine me_1t (pc' := 25) dm_X12_letter_15 rfl rfl ?_
  refine me1 (pc' := 26) dm_X12_letter_25 rfl rfl rfl rfl ?_
  refine me3 (pc' := 29) dm_X12_letter_26 (g_get (v := .int (0 : Int32)) (lu (n := 102) (j := 0) hn rfl) rfl rfl (Nat.le_of_ble_eq_true rfl)) rfl rfl rfl ?_
  refine me_2t (pc' := 36) dm_X12_letter_29 rfl (cn_t_ge (c := 0) rfl (by omega)) ?_
  refine me0 (pc' := 37) (S' := .int (-1 : Int32) :: _) dm_X12_letter_36 rfl rfl rfl rfl ?_
  refine me5 dm_X12_letter_37 rfl rfl rfl ?_
  exact k _ rfl (Nat.le_of_ble_eq_true rfl)
set_option maxRecDepth 100000 in
set_option maxHeartbeats 40000000 in
theorem r_letter_v1_ge_v4 {xt : mj_X} {d : Nat} {h W : mj_H} (hn : h.length = 102) {P : Option Value → mj_H → Prop} {p1 : Int32} (hl1 : 0 ≤ p1.toInt) (k : ∀ U, U.length = 25 → mj_sl U ≤ 3000000 → P (some (.int (-1 : Int32))) (h ++ (U ++ W))) : pgE xt (d + 20) 12 7 false (Option.some FieldType.int) (mj_dec prog_14_method_122_code) 0 [(0, .ref 102), (1, .int (1 : Int32)), (2, .int p1), (3, .int (4 : Int32))] [] (h ++ (rT ++ W)) P := by
  refine me1 (pc' := 1) dm_X12_letter_0 rfl rfl rfl rfl ?_
  refine me_1f (pc' := 4) dm_X12_letter_1 rfl (by decide) rfl ?_
  refine me1 (pc' := 5) dm_X12_letter_4 rfl rfl rfl rfl ?_
  refine me0 (pc' := 6) (S' := .int (1 : Int32) :: _) dm_X12_letter_5 rfl rfl rfl rfl ?_
  refine me_2f (pc' := 9) dm_X12_letter_6 rfl (by decide) rfl ?_
  refine me1 (pc' := 10) dm_X12_letter_9 rfl rfl rfl rfl ?_
  refine me_1f (pc' := 13) dm_X12_letter_10 rfl (cn_f_lt (c := 0) rfl (by omega)) rfl ?_
  refine me1 (pc' := 14) dm_X12_letter_13 rfl rfl rfl rfl ?_
  refine me1 (pc' := 15) dm_X12_letter_14 rfl rfl rfl rfl ?_
  refine me_1t (pc' := 25) dm_X12_letter_15 rfl rfl ?_
  refine me1 (pc' := 26) dm_X12_letter_25 rfl rfl rfl rfl ?_
  refine me3 (pc' := 29) dm_X12_letter_26 (g_get (v := .int (0 : Int32)) (lu (n := 102) (j := 0) hn rfl) rfl rfl (Nat.le_of_ble_eq_true rfl)) rfl rfl rfl ?_
  refine me_2t (pc' := 36) dm_X12_letter_29 rfl (cn_t_ge (c := 0) rfl (by omega)) ?_
  refine me0 (pc' := 37) (S' := .int (-1 : Int32) :: _) dm_X12_letter_36 rfl rfl rfl rfl ?_
  refine me5 dm_X12_letter_37 rfl rfl rfl ?_
  exact k _ rfl (Nat.le_of_ble_eq_true rfl)
set_option maxRecDepth 100000 in
set_option maxHeartbeats 40000000 in
theorem r_letter_v1_ge_v5 {xt : mj_X} {d : Nat} {h W : mj_H} (hn : h.length = 102) {P : Option Value → mj_H → Prop} {p1 : Int32} (hl1 : 0 ≤ p1.toInt) (k : ∀ U, U.length = 25 → mj_sl U ≤ 3000000 → P (some (.int (-1 : Int32))) (h ++ (U ++ W))) : pgE xt (d + 20) 12 7 false (Option.some FieldType.int) (mj_dec prog_14_method_122_code) 0 [(0, .ref 102), (1, .int (1 : Int32)), (2, .int p1), (3, .int (5 : Int32))] [] (h ++ (rT ++ W)) P := by
  refine me1 (pc' := 1) dm_X12_letter_0 rfl rfl rfl rfl ?_
  refine me_1f (pc' := 4) dm_X12_letter_1 rfl (by decide) rfl ?_
  refine me1 (pc' := 5) dm_X12_letter_4 rfl rfl rfl rfl ?_
  refine me0 (pc' := 6) (S' := .int (1 : Int32) :: _) dm_X12_letter_5 rfl rfl rfl rfl ?_
  refine me_2f (pc' := 9) dm_X12_letter_6 rfl (by decide) rfl ?_
  refine me1 (pc' := 10) dm_X12_letter_9 rfl rfl rfl rfl ?_
  refine me_1f (pc' := 13) dm_X12_letter_10 rfl (cn_f_lt (c := 0) rfl (by omega)) rfl ?_
  refine me1 (pc' := 14) dm_X12_letter_13 rfl rfl rfl rfl ?_
  refine me1 (pc' := 15) dm_X12_letter_14 rfl rfl rfl rfl ?_
  refine me_1t (pc' := 25) dm_X12_letter_15 rfl rfl ?_
  refine me1 (pc' := 26) dm_X12_letter_25 rfl rfl rfl rfl ?_
  refine me3 (pc' := 29) dm_X12_letter_26 (g_get (v := .int (0 : Int32)) (lu (n := 102) (j := 0) hn rfl) rfl rfl (Nat.le_of_ble_eq_true rfl)) rfl rfl rfl ?_
  refine me_2t (pc' := 36) dm_X12_letter_29 rfl (cn_t_ge (c := 0) rfl (by omega)) ?_
  refine me0 (pc' := 37) (S' := .int (-1 : Int32) :: _) dm_X12_letter_36 rfl rfl rfl rfl ?_
  refine me5 dm_X12_letter_37 rfl rfl rfl ?_
  exact k _ rfl (Nat.le_of_ble_eq_true rfl)
set_option maxRecDepth 100000 in
set_option maxHeartbeats 40000000 in
theorem r_letter_v1_ge_v6 {xt : mj_X} {d : Nat} {h W : mj_H} (hn : h.length = 102) {P : Option Value → mj_H → Prop} {p1 : Int32} (hl1 : 0 ≤ p1.toInt) (k : ∀ U, U.length = 25 → mj_sl U ≤ 3000000 → P (some (.int (-1 : Int32))) (h ++ (U ++ W))) : pgE xt (d + 20) 12 7 false (Option.some FieldType.int) (mj_dec prog_14_method_122_code) 0 [(0, .ref 102), (1, .int (1 : Int32)), (2, .int p1), (3, .int (6 : Int32))] [] (h ++ (rT ++ W)) P := by
  refine me1 (pc' := 1) dm_X12_letter_0 rfl rfl rfl rfl ?_
  refine me_1f (pc' := 4) dm_X12_letter_1 rfl (by decide) rfl ?_
  refine me1 (pc' := 5) dm_X12_letter_4 rfl rfl rfl rfl ?_
  refine me0 (pc' := 6) (S' := .int (1 : Int32) :: _) dm_X12_letter_5 rfl rfl rfl rfl ?_
  refine me_2f (pc' := 9) dm_X12_letter_6 rfl (by decide) rfl ?_
  refine me1 (pc' := 10) dm_X12_letter_9 rfl rfl rfl rfl ?_
  refine me_1f (pc' := 13) dm_X12_letter_10 rfl (cn_f_lt (c := 0) rfl (by omega)) rfl ?_
  refine me1 (pc' := 14) dm_X12_letter_13 rfl rfl rfl rfl ?_
  refine me1 (pc' := 15) dm_X12_letter_14 rfl rfl rfl rfl ?_
  refine me_1t (pc' := 25) dm_X12_letter_15 rfl rfl ?_
  refine me1 (pc' := 26) dm_X12_letter_25 rfl rfl rfl rfl ?_
  refine me3 (pc' := 29) dm_X12_letter_26 (g_get (v := .int (0 : Int32)) (lu (n := 102) (j := 0) hn rfl) rfl rfl (Nat.le_of_ble_eq_true rfl)) rfl rfl rfl ?_
  refine me_2t (pc' := 36) dm_X12_letter_29 rfl (cn_t_ge (c := 0) rfl (by omega)) ?_
  refine me0 (pc' := 37) (S' := .int (-1 : Int32) :: _) dm_X12_letter_36 rfl rfl rfl rfl ?_
  refine me5 dm_X12_letter_37 rfl rfl rfl ?_
  exact k _ rfl (Nat.le_of_ble_eq_true rfl)
set_option maxRecDepth 100000 in
set_option maxHeartbeats 40000000 in
theorem r_letter_v1_ge_v7 {xt : mj_X} {d : Nat} {h W : mj_H} (hn : h.length = 102) {P : Option Value → mj_H → Prop} {p1 : Int32} (hl1 : 0 ≤ p1.toInt) (k : ∀ U, U.length = 25 → mj_sl U ≤ 3000000 → P (some (.int (-1 : Int32))) (h ++ (U ++ W))) : pgE xt (d + 20) 12 7 false (Option.some FieldType.int) (mj_dec prog_14_method_122_code) 0 [(0, .ref 102), (1, .int (1 : Int32)), (2, .int p1), (3, .int (7 : Int32))] [] (h ++ (rT ++ W)) P := by
  refine me1 (pc' := 1) dm_X12_letter_0 rfl rfl rfl rfl ?_
  refine me_1f (pc' := 4) dm_X12_letter_1 rfl (by decide) rfl ?_
  refine me1 (pc' := 5) dm_X12_letter_4 rfl rfl rfl rfl ?_
  refine me0 (pc' := 6) (S' := .int (1 : Int32) :: _) dm_X12_letter_5 rfl rfl rfl rfl ?_
  refine me_2f (pc' := 9) dm_X12_letter_6 rfl (by decide) rfl ?_
  refine me1 (pc' := 10) dm_X12_letter_9 rfl rfl rfl rfl ?_
  refine me_1f (pc' := 13) dm_X12_letter_10 rfl (cn_f_lt (c := 0) rfl (by omega)) rfl ?_
  refine me1 (pc' := 14) dm_X12_letter_13 rfl rfl rfl rfl ?_
  refine me1 (pc' := 15) dm_X12_letter_14 rfl rfl rfl rfl ?_
  refine me_1t (pc' := 25) dm_X12_letter_15 rfl rfl ?_
  refine me1 (pc' := 26) dm_X12_letter_25 rfl rfl rfl rfl ?_
  refine me3 (pc' := 29) dm_X12_letter_26 (g_get (v := .int (0 : Int32)) (lu (n := 102) (j := 0) hn rfl) rfl rfl (Nat.le_of_ble_eq_true rfl)) rfl rfl rfl ?_
  refine me_2t (pc' := 36) dm_X12_letter_29 rfl (cn_t_ge (c := 0) rfl (by omega)) ?_
  refine me0 (pc' := 37) (S' := .int (-1 : Int32) :: _) dm_X12_letter_36 rfl rfl rfl rfl ?_
  refine me5 dm_X12_letter_37 rfl rfl rfl ?_
  exact k _ rfl (Nat.le_of_ble_eq_true rfl)
set_option maxRecDepth 100000 in
set_option maxHeartbeats 40000000 in
theorem r_letter_v1_ge_ge {xt : mj_X} {d : Nat} {h W : mj_H} (hn : h.length = 102) {P : Option Value → mj_H → Prop} {p1 : Int32} {p2 : Int32} (hl1 : 0 ≤ p1.toInt) (hl2 : 8 ≤ p2.toInt) (k : ∀ U, U.length = 25 → mj_sl U ≤ 3000000 → P (some (.int (-1 : Int32))) (h ++ (U ++ W))) : pgE xt (d + 20) 12 7 false (Option.some FieldType.int) (mj_dec prog_14_method_122_code) 0 [(0, .ref 102), (1, .int (1 : Int32)), (2, .int p1), (3, .int p2)] [] (h ++ (rT ++ W)) P := by
  refine me1 (pc' := 1) dm_X12_letter_0 rfl rfl rfl rfl ?_
  refine me_1f (pc' := 4) dm_X12_letter_1 rfl (by decide) rfl ?_
  refine me1 (pc' := 5) dm_X12_letter_4 rfl rfl rfl rfl ?_
  refine me0 (pc' := 6) (S' := .int (1 : Int32) :: _) dm_X12_letter_5 rfl rfl rfl rfl ?_
  refine me_2f (pc' := 9) dm_X12_letter_6 rfl (by decide) rfl ?_
  refine me1 (pc' := 10) dm_X12_letter_9 rfl rfl rfl rfl ?_
  refine me_1f (pc' := 13) dm_X12_letter_10 rfl (cn_f_lt (c := 0) rfl (by omega)) rfl ?_
  refine me1 (pc' := 14) dm_X12_letter_13 rfl rfl rfl rfl ?_
  refine me1 (pc' := 15) dm_X12_letter_14 rfl rfl rfl rfl ?_
  refine me_1t (pc' := 25) dm_X12_letter_15 rfl rfl ?_
  refine me1 (pc' := 26) dm_X12_letter_25 rfl rfl rfl rfl ?_
  refine me3 (pc' := 29) dm_X12_letter_26 (g_get (v := .int (0 : Int32)) (lu (n := 102) (j := 0) hn rfl) rfl rfl (Nat.le_of_ble_eq_true rfl)) rfl rfl rfl ?_
  refine me_2t (pc' := 36) dm_X12_letter_29 rfl (cn_t_ge (c := 0) rfl (by omega)) ?_
  refine me0 (pc' := 37) (S' := .int (-1 : Int32) :: _) dm_X12_letter_36 rfl rfl rfl rfl ?_
  refine me5 dm_X12_letter_37 rfl rfl rfl ?_
  exact k _ rfl (Nat.le_of_ble_eq_true rfl)
set_option maxRecDepth 100000 in
set_option maxHeartbeats 40000000 in
theorem r_letter_ge_lt_lt {xt : mj_X} {d : Nat} {h W : mj_H} (hn : h.length = 102) {P : Option Value → mj_H → Prop} {p0 : Int32} {p1 : Int32} {p2 : Int32} (hl0 : 2 ≤ p0.toInt) (hh1 : p1.toInt ≤ -1) (hh2 : p2.toInt ≤ -1) (k : ∀ U, U.length = 25 → mj_sl U ≤ 3000000 → P (some (.int (-1 : Int32))) (h ++ (U ++ W))) : pgE xt (d + 20) 12 7 false (Option.some FieldType.int) (mj_dec prog_14_method_122_code) 0 [(0, .ref 102), (1, .int p0), (2, .int p1), (3, .int p2)] [] (h ++ (rT ++ W)) P := by
  refine me1 (pc' := 1) dm_X12_letter_0 rfl rfl rfl rfl ?_
  refine me_1f (pc' := 4) dm_X12_letter_1 rfl (cn_f_lt (c := 0) rfl (by omega)) rfl ?_
  refine me1 (pc' := 5) dm_X12_letter_4 rfl rfl rfl rfl ?_
  refine me0 (pc' := 6) (S' := .int (1 : Int32) :: _) dm_X12_letter_5 rfl rfl rfl rfl ?_
  refine me_2t (pc' := 36) dm_X12_letter_6 rfl (cn_t_gt (c := 1) rfl (by omega)) ?_
  refine me0 (pc' := 37) (S' := .int (-1 : Int32) :: _) dm_X12_letter_36 rfl rfl rfl rfl ?_
  refine me5 dm_X12_letter_37 rfl rfl rfl ?_
  exact k _ rfl (Nat.le_of_ble_eq_true rfl)
set_option maxRecDepth 100000 in
set_option maxHeartbeats 40000000 in
theorem r_letter_ge_lt_v0 {xt : mj_X} {d : Nat} {h W : mj_H} (hn : h.length = 102) {P : Option Value → mj_H → Prop} {p0 : Int32} {p1 : Int32} (hl0 : 2 ≤ p0.toInt) (hh1 : p1.toInt ≤ -1) (k : ∀ U, U.length = 25 → mj_sl U ≤ 3000000 → P (some (.int (-1 : Int32))) (h ++ (U ++ W))) : pgE xt (d + 20) 12 7 false (Option.some FieldType.int) (mj_dec prog_14_method_122_code) 0 [(0, .ref 102), (1, .int p0), (2, .int p1), (3, .int (0 : Int32))] [] (h ++ (rT ++ W)) P := by
  refine me1 (pc' := 1) dm_X12_letter_0 rfl rfl rfl rfl ?_
  refine me_1f (pc' := 4) dm_X12_letter_1 rfl (cn_f_lt (c := 0) rfl (by omega)) rfl ?_
  refine me1 (pc' := 5) dm_X12_letter_4 rfl rfl rfl rfl ?_
  refine me0 (pc' := 6) (S' := .int (1 : Int32) :: _) dm_X12_letter_5 rfl rfl rfl rfl ?_
  refine me_2t (pc' := 36) dm_X12_letter_6 rfl (cn_t_gt (c := 1) rfl (by omega)) ?_
  refine me0 (pc' := 37) (S' := .int (-1 : Int32) :: _) dm_X12_letter_36 rfl rfl rfl rfl ?_
  refine me5 dm_X12_letter_37 rfl rfl rfl ?_
  exact k _ rfl (Nat.le_of_ble_eq_true rfl)
set_option maxRecDepth 100000 in
set_option maxHeartbeats 40000000 in
theorem r_letter_ge_lt_v1 {xt : mj_X} {d : Nat} {h W : mj_H} (hn : h.length = 102) {P : Option Value → mj_H → Prop} {p0 : Int32} {p1 : Int32} (hl0 : 2 ≤ p0.toInt) (hh1 : p1.toInt ≤ -1) (k : ∀ U, U.length = 25 → mj_sl U ≤ 3000000 → P (some (.int (-1 : Int32))) (h ++ (U ++ W))) : pgE xt (d + 20) 12 7 false (Option.some FieldType.int) (mj_dec prog_14_method_122_code) 0 [(0, .ref 102), (1, .int p0), (2, .int p1), (3, .int (1 : Int32))] [] (h ++ (rT ++ W)) P := by
  refine me1 (pc' := 1) dm_X12_letter_0 rfl rfl rfl rfl ?_
  refine me_1f (pc' := 4) dm_X12_letter_1 rfl (cn_f_lt (c := 0) rfl (by omega)) rfl ?_
  refine me1 (pc' := 5) dm_X12_letter_4 rfl rfl rfl rfl ?_
  refine me0 (pc' := 6) (S' := .int (1 : Int32) :: _) dm_X12_letter_5 rfl rfl rfl rfl ?_
  refine me_2t (pc' := 36) dm_X12_letter_6 rfl (cn_t_gt (c := 1) rfl (by omega)) ?_
  refine me0 (pc' := 37) (S' := .int (-1 : Int32) :: _) dm_X12_letter_36 rfl rfl rfl rfl ?_
  refine me5 dm_X12_letter_37 rfl rfl rfl ?_
  exact k _ rfl (Nat.le_of_ble_eq_true rfl)
set_option maxRecDepth 100000 in
set_option maxHeartbeats 40000000 in
theorem r_letter_ge_lt_v2 {xt : mj_X} {d : Nat} {h W : mj_H} (hn : h.length = 102) {P : Option Value → mj_H → Prop} {p0 : Int32} {p1 : Int32} (hl0 : 2 ≤ p0.toInt) (hh1 : p1.toInt ≤ -1) (k : ∀ U, U.length = 25 → mj_sl U ≤ 3000000 → P (some (.int (-1 : Int32))) (h ++ (U ++ W))) : pgE xt (d + 20) 12 7 false (Option.some FieldType.int) (mj_dec prog_14_method_122_code) 0 [(0, .ref 102), (1, .int p0), (2, .int p1), (3, .int (2 : Int32))] [] (h ++ (rT ++ W)) P := by
  refine me1 (pc' := 1) dm_X12_letter_0 rfl rfl rfl rfl ?_
  refine me_1f (pc' := 4) dm_X12_letter_1 rfl (cn_f_lt (c := 0) rfl (by omega)) rfl ?_
  refine me1 (pc' := 5) dm_X12_letter_4 rfl rfl rfl rfl ?_
  refine me0 (pc' := 6) (S' := .int (1 : Int32) :: _) dm_X12_letter_5 rfl rfl rfl rfl ?_
  refine me_2t (pc' := 36) dm_X12_letter_6 rfl (cn_t_gt (c := 1) rfl (by omega)) ?_
  refine me0 (pc' := 37) (S' := .int (-1 : Int32) :: _) dm_X12_letter_36 rfl rfl rfl rfl ?_
  refine me5 dm_X12_letter_37 rfl rfl rfl ?_
  exact k _ rfl (Nat.le_of_ble_eq_true rfl)
set_option maxRecDepth 100000 in
set_option maxHeartbeats 40000000 in
theorem r_letter_ge_lt_v3 {xt : mj_X} {d : Nat} {h W : mj_H} (hn : h.length = 102) {P : Option Value → mj_H → Prop} {p0 : Int32} {p1 : Int32} (hl0 : 2 ≤ p0.toInt) (hh1 : p1.toInt ≤ -1) (k : ∀ U, U.length = 25 → mj_sl U ≤ 3000000 → P (some (.int (-1 : Int32))) (h ++ (U ++ W))) : pgE xt (d + 20) 12 7 false (Option.some FieldType.int) (mj_dec prog_14_method_122_code) 0 [(0, .ref 102), (1, .int p0), (2, .int p1), (3, .int (3 : Int32))] [] (h ++ (rT ++ W)) P := by
  refine me1 (pc' := 1) dm_X12_letter_0 rfl rfl rfl rfl ?_
  refine me_1f (pc' := 4) dm_X12_letter_1 rfl (cn_f_lt (c := 0) rfl (by omega)) rfl ?_
  refine me1 (pc' := 5) dm_X12_letter_4 rfl rfl rfl rfl ?_
  refine me0 (pc' := 6) (S' := .int (1 : Int32) :: _) dm_X12_letter_5 rfl rfl rfl rfl ?_
  refine me_2t (pc' := 36) dm_X12_letter_6 rfl (cn_t_gt (c := 1) rfl (by omega)) ?_
  refine me0 (pc' := 37) (S' := .int (-1 : Int32) :: _) dm_X12_letter_36 rfl rfl rfl rfl ?_
  refine me5 dm_X12_letter_37 rfl rfl rfl ?_
  exact k _ rfl (Nat.le_of_ble_eq_true rfl)
set_option maxRecDepth 100000 in
set_option maxHeartbeats 40000000 in
theorem r_letter_ge_lt_v4 {xt : mj_X} {d : Nat} {h W : mj_H} (hn : h.length = 102) {P : Option Value → mj_H → Prop} {p0 : Int32} {p1 : Int32} (hl0 : 2 ≤ p0.toInt) (hh1 : p1.toInt ≤ -1) (k : ∀ U, U.length = 25 → mj_sl U ≤ 3000000 → P (some (.int (-1 : Int32))) (h ++ (U ++ W))) : pgE xt (d + 20) 12 7 false (Option.some FieldType.int) (mj_dec prog_14_method_122_code) 0 [(0, .ref 102), (1, .int p0), (2, .int p1), (3, .int (4 : Int32))] [] (h ++ (rT ++ W)) P := by
  refine me1 (pc' := 1) dm_X12_letter_0 rfl rfl rfl rfl ?_
  refine me_1f (pc' := 4) dm_X12_letter_1 rfl (cn_f_lt (c := 0) rfl (by omega)) rfl ?_
  refine me1 (pc' := 5) dm_X12_letter_4 rfl rfl rfl rfl ?_
  refine me0 (pc' := 6) (S' := .int (1 : Int32) :: _) dm_X12_letter_5 rfl rfl rfl rfl ?_
  refine me_2t (pc' := 36) dm_X12_letter_6 rfl (cn_t_gt (c := 1) rfl (by omega)) ?_
  refine me0 (pc' := 37) (S' := .int (-1 : Int32) :: _) dm_X12_letter_36 rfl rfl rfl rfl ?_
  refine me5 dm_X12_letter_37 rfl rfl rfl ?_
  exact k _ rfl (Nat.le_of_ble_eq_true rfl)
set_option maxRecDepth 100000 in
set_option maxHeartbeats 40000000 in
theorem r_letter_ge_lt_v5 {xt : mj_X} {d : Nat} {h W : mj_H} (hn : h.length = 102) {P : Option Value → mj_H → Prop} {p0 : Int32} {p1 : Int32} (hl0 : 2 ≤ p0.toInt) (hh1 : p1.toInt ≤ -1) (k : ∀ U, U.length = 25 → mj_sl U ≤ 3000000 → P (some (.int (-1 : Int32))) (h ++ (U ++ W))) : pgE xt (d + 20) 12 7 false (Option.some FieldType.int) (mj_dec prog_14_method_122_code) 0 [(0, .ref 102), (1, .int p0), (2, .int p1), (3, .int (5 : Int32))] [] (h ++ (rT ++ W)) P := by
  refine me1 (pc' := 1) dm_X12_letter_0 rfl rfl rfl rfl ?_
  refine me_1f (pc' := 4) dm_X12_letter_1 rfl (cn_f_lt (c := 0) rfl (by omega)) rfl ?_
  refine me1 (pc' := 5) dm_X12_letter_4 rfl rfl rfl rfl ?_
  refine me0 (pc' := 6) (S' := .int (1 : Int32) :: _) dm_X12_letter_5 rfl rfl rfl rfl ?_
  refine me_2t (pc' := 36) dm_X12_letter_6 rfl (cn_t_gt (c := 1) rfl (by omega)) ?_
  refine me0 (pc' := 37) (S' := .int (-1 : Int32) :: _) dm_X12_letter_36 rfl rfl rfl rfl ?_
  refine me5 dm_X12_letter_37 rfl rfl rfl ?_
  exact k _ rfl (Nat.le_of_ble_eq_true rfl)
set_option maxRecDepth 100000 in
set_option maxHeartbeats 40000000 in
theorem r_letter_ge_lt_v6 {xt : mj_X} {d : Nat} {h W : mj_H} (hn : h.length = 102) {P : Option Value → mj_H → Prop} {p0 : Int32} {p1 : Int32} (hl0 : 2 ≤ p0.toInt) (hh1 : p1.toInt ≤ -1) (k : ∀ U, U.length = 25 → mj_sl U ≤ 3000000 → P (some (.int (-1 : Int32))) (h ++ (U ++ W))) : pgE xt (d + 20) 12 7 false (Option.some FieldType.int) (mj_dec prog_14_method_122_code) 0 [(0, .ref 102), (1, .int p0), (2, .int p1), (3, .int (6 : Int32))] [] (h ++ (rT ++ W)) P := by
  refine me1 (pc' := 1) dm_X12_letter_0 rfl rfl rfl rfl ?_
  refine me_1f (pc' := 4) dm_X12_letter_1 rfl (cn_f_lt (c := 0) rfl (by omega)) rfl ?_
  refine me1 (pc' := 5) dm_X12_letter_4 rfl rfl rfl rfl ?_
  refine me0 (pc' := 6) (S' := .int (1 : Int32) :: _) dm_X12_letter_5 rfl rfl rfl rfl ?_
  refine me_2t (pc' := 36) dm_X12_letter_6 rfl (cn_t_gt (c := 1) rfl (by omega)) ?_
  refine me0 (pc' := 37) (S' := .int (-1 : Int32) :: _) dm_X12_letter_36 rfl rfl rfl rfl ?_
  refine me5 dm_X12_letter_37 rfl rfl rfl ?_
  exact k _ rfl (Nat.le_of_ble_eq_true rfl)
set_option maxRecDepth 100000 in
set_option maxHeartbeats 40000000 in
theorem r_letter_ge_lt_v7 {xt : mj_X} {d : Nat} {h W : mj_H} (hn : h.length = 102) {P : Option Value → mj_H → Prop} {p0 : Int32} {p1 : Int32} (hl0 : 2 ≤ p0.toInt) (hh1 : p1.toInt ≤ -1) (k : ∀ U, U.length = 25 → mj_sl U ≤ 3000000 → P (some (.int (-1 : Int32))) (h ++ (U ++ W))) : pgE xt (d + 20) 12 7 false (Option.some FieldType.int) (mj_dec prog_14_method_122_code) 0 [(0, .ref 102), (1, .int p0), (2, .int p1), (3, .int (7 : Int32))] [] (h ++ (rT ++ W)) P := by
  refine me1 (pc' := 1) dm_X12_letter_0 rfl rfl rfl rfl ?_
  refine me_1f (pc' := 4) dm_X12_letter_1 rfl (cn_f_lt (c := 0) rfl (by omega)) rfl ?_
  refine me1 (pc' := 5) dm_X12_letter_4 rfl rfl rfl rfl ?_
  refine me0 (pc' := 6) (S' := .int (1 : Int32) :: _) dm_X12_letter_5 rfl rfl rfl rfl ?_
  refine me_2t (pc' := 36) dm_X12_letter_6 rfl (cn_t_gt (c := 1) rfl (by omega)) ?_
  refine me0 (pc' := 37) (S' := .int (-1 : Int32) :: _) dm_X12_letter_36 rfl rfl rfl rfl ?_
  refine me5 dm_X12_letter_37 rfl rfl rfl ?_
  exact k _ rfl (Nat.le_of_ble_eq_true rfl)
set_option maxRecDepth 100000 in
set_option maxHeartbeats 40000000 in
theorem r_letter_ge_lt_ge {xt : mj_X} {d : Nat} {h W : mj_H} (hn : h.length = 102) {P : Option Value → mj_H → Prop} {p0 : Int32} {p1 : Int32} {p2 : Int32} (hl0 : 2 ≤ p0.toInt) (hh1 : p1.toInt ≤ -1) (hl2 : 8 ≤ p2.toInt) (k : ∀ U, U.length = 25 → mj_sl U ≤ 3000000 → P (some (.int (-1 : Int32))) (h ++ (U ++ W))) : pgE xt (d + 20) 12 7 false (Option.some FieldType.int) (mj_dec prog_14_method_122_code) 0 [(0, .ref 102), (1, .int p0), (2, .int p1), (3, .int p2)] [] (h ++ (rT ++ W)) P := by
  refine me1 (pc' := 1) dm_X12_letter_0 rfl rfl rfl rfl ?_
  refine me_1f (pc' := 4) dm_X12_letter_1 rfl (cn_f_lt (c := 0) rfl (by omega)) rfl ?_
  refine me1 (pc' := 5) dm_X12_letter_4 rfl rfl rfl rfl ?_
  refine me0 (pc' := 6) (S' := .int (1 : Int32) :: _) dm_X12_letter_5 rfl rfl rfl rfl ?_
  refine me_2t (pc' := 36) dm_X12_letter_6 rfl (cn_t_gt (c := 1) rfl (by omega)) ?_
  refine me0 (pc' := 37) (S' := .int (-1 : Int32) :: _) dm_X12_letter_36 rfl rfl rfl rfl ?_
  refine me5 dm_X12_letter_37 rfl rfl rfl ?_
  exact k _ rfl (Nat.le_of_ble_eq_true rfl)
set_option maxRecDepth 100000 in
set_option maxHeartbeats 40000000 in
theorem r_letter_ge_ge_lt {xt : mj_X} {d : Nat} {h W : mj_H} (hn : h.length = 102) {P : Option Value → mj_H → Prop} {p0 : Int32} {p1 : Int32} {p2 : Int32} (hl0 : 2 ≤ p0.toInt) (hl1 : 0 ≤ p1.toInt) (hh2 : p2.toInt ≤ -1) (k : ∀ U, U.length = 25 → mj_sl U ≤ 3000000 → P (some (.int (-1 : Int32))) (h ++ (U ++ W))) : pgE xt (d + 20) 12 7 false (Option.some FieldType.int) (mj_dec prog_14_method_122_code) 0 [(0, .ref 102), (1, .int p0), (2, .int p1), (3, .int p2)] [] (h ++ (rT ++ W)) P := by
  refine me1 (pc' := 1) dm_X12_letter_0 rfl rfl rfl rfl ?_
  refine me_1f (pc' := 4) dm_X12_letter_1 rfl (cn_f_lt (c := 0) rfl (by omega)) rfl ?_
  refine me1 (pc' := 5) dm_X12_letter_4 rfl rfl rfl rfl ?_
  refine me0 (pc' := 6) (S' := .int (1 : Int32) :: _) dm_X12_letter_5 rfl rfl rfl rfl ?_
  refine me_2t (pc' := 36) dm_X12_letter_6 rfl (cn_t_gt (c := 1) rfl (by omega)) ?_
  refine me0 (pc' := 37) (S' := .int (-1 : Int32) :: _) dm_X12_letter_36 rfl rfl rfl rfl ?_
  refine me5 dm_X12_letter_37 rfl rfl rfl ?_
  exact k _ rfl (Nat.le_of_ble_eq_true rfl)
set_option maxRecDepth 100000 in
set_option maxHeartbeats 40000000 in
theorem r_letter_ge_ge_v0 {xt : mj_X} {d : Nat} {h W : mj_H} (hn : h.length = 102) {P : Option Value → mj_H → Prop} {p0 : Int32} {p1 : Int32} (hl0 : 2 ≤ p0.toInt) (hl1 : 0 ≤ p1.toInt) (k : ∀ U, U.length = 25 → mj_sl U ≤ 3000000 → P (some (.int (-1 : Int32))) (h ++ (U ++ W))) : pgE xt (d + 20) 12 7 false (Option.some FieldType.int) (mj_dec prog_14_method_122_code) 0 [(0, .ref 102), (1, .int p0), (2, .int p1), (3, .int (0 : Int32))] [] (h ++ (rT ++ W)) P := by
  refine me1 (pc' := 1) dm_X12_letter_0 rfl rfl rfl rfl ?_
  refine me_1f (pc' := 4) dm_X12_letter_1 rfl (cn_f_lt (c := 0) rfl (by omega)) rfl ?_
  refine me1 (pc' := 5) dm_X12_letter_4 rfl rfl rfl rfl ?_
  refine me0 (pc' := 6) (S' := .int (1 : Int32) :: _) dm_X12_letter_5 rfl rfl rfl rfl ?_
  refine me_2t (pc' := 36) dm_X12_letter_6 rfl (cn_t_gt (c := 1) rfl (by omega)) ?_
  refine me0 (pc' := 37) (S' := .int (-1 : Int32) :: _) dm_X12_letter_36 rfl rfl rfl rfl ?_
  refine me5 dm_X12_letter_37 rfl rfl rfl ?_
  exact k _ rfl (Nat.le_of_ble_eq_true rfl)
set_option maxRecDepth 100000 in
set_option maxHeartbeats 40000000 in
theorem r_letter_ge_ge_v1 {xt : mj_X} {d : Nat} {h W : mj_H} (hn : h.length = 102) {P : Option Value → mj_H → Prop} {p0 : Int32} {p1 : Int32} (hl0 : 2 ≤ p0.toInt) (hl1 : 0 ≤ p1.toInt) (k : ∀ U, U.length = 25 → mj_sl U ≤ 3000000 → P (some (.int (-1 : Int32))) (h ++ (U ++ W))) : pgE xt (d + 20) 12 7 false (Option.some FieldType.int) (mj_dec prog_14_method_122_code) 0 [(0, .ref 102), (1, .int p0), (2, .int p1), (3, .int (1 : Int32))] [] (h ++ (rT ++ W)) P := by
  refine me1 (pc' := 1) dm_X12_letter_0 rfl rfl rfl rfl ?_
  refine me_1f (pc' := 4) dm_X12_letter_1 rfl (cn_f_lt (c := 0) rfl (by omega)) rfl ?_
  refine me1 (pc' := 5) dm_X12_letter_4 rfl rfl rfl rfl ?_
  refine me0 (pc' := 6) (S' := .int (1 : Int32) :: _) dm_X12_letter_5 rfl rfl rfl rfl ?_
  refine me_2t (pc' := 36) dm_X12_letter_6 rfl (cn_t_gt (c := 1) rfl (by omega)) ?_
  refine me0 (pc' := 37) (S' := .int (-1 : Int32) :: _) dm_X12_letter_36 rfl rfl rfl rfl ?_
  refine me5 dm_X12_letter_37 rfl rfl rfl ?_
  exact k _ rfl (Nat.le_of_ble_eq_true rfl)
set_option maxRecDepth 100000 in
set_option maxHeartbeats 40000000 in
theorem r_letter_ge_ge_v2 {xt : mj_X} {d : Nat} {h W : mj_H} (hn : h.length = 102) {P : Option Value → mj_H → Prop} {p0 : Int32} {p1 : Int32} (hl0 : 2 ≤ p0.toInt) (hl1 : 0 ≤ p1.toInt) (k : ∀ U, U.length = 25 → mj_sl U ≤ 3000000 → P (some (.int (-1 : Int32))) (h ++ (U ++ W))) : pgE xt (d + 20) 12 7 false (Option.some FieldType.int) (mj_dec prog_14_method_122_code) 0 [(0, .ref 102), (1, .int p0), (2, .int p1), (3, .int (2 : Int32))] [] (h ++ (rT ++ W)) P := by
  refine me1 (pc' := 1) dm_X12_letter_0 rfl rfl rfl rfl ?_
  refine me_1f (pc' := 4) dm_X12_letter_1 rfl (cn_f_lt (c := 0) rfl (by omega)) rfl ?_
  refine me1 (pc' := 5) dm_X12_letter_4 rfl rfl rfl rfl ?_
  refine me0 (pc' := 6) (S' := .int (1 : Int32) :: _) dm_X12_letter_5 rfl rfl rfl rfl ?_
  refine me_2t (pc' := 36) dm_X12_letter_6 rfl (cn_t_gt (c := 1) rfl (by omega)) ?_
  refine me0 (pc' := 37) (S' := .int (-1 : Int32) :: _) dm_X12_letter_36 rfl rfl rfl rfl ?_
  refine me5 dm_X12_letter_37 rfl rfl rfl ?_
  exact k _ rfl (Nat.le_of_ble_eq_true rfl)
set_option maxRecDepth 100000 in
set_option maxHeartbeats 40000000 in
theorem r_letter_ge_ge_v3 {xt : mj_X} {d : Nat} {h W : mj_H} (hn : h.length = 102) {P : Option Value → mj_H → Prop} {p0 : Int32} {p1 : Int32} (hl0 : 2 ≤ p0.toInt) (hl1 : 0 ≤ p1.toInt) (k : ∀ U, U.length = 25 → mj_sl U ≤ 3000000 → P (some (.int (-1 : Int32))) (h ++ (U ++ W))) : pgE xt (d + 20) 12 7 false (Option.some FieldType.int) (mj_dec prog_14_method_122_code) 0 [(0, .ref 102), (1, .int p0), (2, .int p1), (3, .int (3 : Int32))] [] (h ++ (rT ++ W)) P := by
  refine me1 (pc' := 1) dm_X12_letter_0 rfl rfl rfl rfl ?_
  refine me_1f (pc' := 4) dm_X12_letter_1 rfl (cn_f_lt (c := 0) rfl (by omega)) rfl ?_
  refine me1 (pc' := 5) dm_X12_letter_4 rfl rfl rfl rfl ?_
  refine me0 (pc' := 6) (S' := .int (1 : Int32) :: _) dm_X12_letter_5 rfl rfl rfl rfl ?_
  refine me_2t (pc' := 36) dm_X12_letter_6 rfl (cn_t_gt (c := 1) rfl (by omega)) ?_
  refine me0 (pc' := 37) (S' := .int (-1 : Int32) :: _) dm_X12_letter_36 rfl rfl rfl rfl ?_
  refine me5 dm_X12_letter_37 rfl rfl rfl ?_
  exact k _ rfl (Nat.le_of_ble_eq_true rfl)
set_option maxRecDepth 100000 in
set_option maxHeartbeats 40000000 in
theorem r_letter_ge_ge_v4 {xt : mj_X} {d : Nat} {h W : mj_H} (hn : h.length = 102) {P : Option Value → mj_H → Prop} {p0 : Int32} {p1 : Int32} (hl0 : 2 ≤ p0.toInt) (hl1 : 0 ≤ p1.toInt) (k : ∀ U, U.length = 25 → mj_sl U ≤ 3000000 → P (some (.int (-1 : Int32))) (h ++ (U ++ W))) : pgE xt (d + 20) 12 7 false (Option.some FieldType.int) (mj_dec prog_14_method_122_code) 0 [(0, .ref 102), (1, .int p0), (2, .int p1), (3, .int (4 : Int32))] [] (h ++ (rT ++ W)) P := by
  refine me1 (pc' := 1) dm_X12_letter_0 rfl rfl rfl rfl ?_
  refine me_1f (pc' := 4) dm_X12_letter_1 rfl (cn_f_lt (c := 0) rfl (by omega)) rfl ?_
  refine me1 (pc' := 5) dm_X12_letter_4 rfl rfl rfl rfl ?_
  refine me0 (pc' := 6) (S' := .int (1 : Int32) :: _) dm_X12_letter_5 rfl rfl rfl rfl ?_
  refine me_2t (pc' := 36) dm_X12_letter_6 rfl (cn_t_gt (c := 1) rfl (by omega)) ?_
  refine me0 (pc' := 37) (S' := .int (-1 : Int32) :: _) dm_X12_letter_36 rfl rfl rfl rfl ?_
  refine me5 dm_X12_letter_37 rfl rfl rfl ?_
  exact k _ rfl (Nat.le_of_ble_eq_true rfl)
set_option maxRecDepth 100000 in
set_option maxHeartbeats 40000000 in
theorem r_letter_ge_ge_v5 {xt : mj_X} {d : Nat} {h W : mj_H} (hn : h.length = 102) {P : Option Value → mj_H → Prop} {p0 : Int32} {p1 : Int32} (hl0 : 2 ≤ p0.toInt) (hl1 : 0 ≤ p1.toInt) (k : ∀ U, U.length = 25 → mj_sl U ≤ 3000000 → P (some (.int (-1 : Int32))) (h ++ (U ++ W))) : pgE xt (d + 20) 12 7 false (Option.some FieldType.int) (mj_dec prog_14_method_122_code) 0 [(0, .ref 102), (1, .int p0), (2, .int p1), (3, .int (5 : Int32))] [] (h ++ (rT ++ W)) P := by
  refine me1 (pc' := 1) dm_X12_letter_0 rfl rfl rfl rfl ?_
  refine me_1f (pc' := 4) dm_X12_letter_1 rfl (cn_f_lt (c := 0) rfl (by omega)) rfl ?_
  refine me1 (pc' := 5) dm_X12_letter_4 rfl rfl rfl rfl ?_
  refine me0 (pc' := 6) (S' := .int (1 : Int32) :: _) dm_X12_letter_5 rfl rfl rfl rfl ?_
  refine me_2t (pc' := 36) dm_X12_letter_6 rfl (cn_t_gt (c := 1) rfl (by omega)) ?_
  refine me0 (pc' := 37) (S' := .int (-1 : Int32) :: _) dm_X12_letter_36 rfl rfl rfl rfl ?_
  refine me5 dm_X12_letter_37 rfl rfl rfl ?_
  exact k _ rfl (Nat.le_of_ble_eq_true rfl)
set_option maxRecDepth 100000 in
set_option maxHeartbeats 40000000 in
theorem r_letter_ge_ge_v6 {xt : mj_X} {d : Nat} {h W : mj_H} (hn : h.length = 102) {P : Option Value → mj_H → Prop} {p0 : Int32} {p1 : Int32} (hl0 : 2 ≤ p0.toInt) (hl1 : 0 ≤ p1.toInt) (k : ∀ U, U.length = 25 → mj_sl U ≤ 3000000 → P (some (.int (-1 : Int32))) (h ++ (U ++ W))) : pgE xt (d + 20) 12 7 false (Option.some FieldType.int) (mj_dec prog_14_method_122_code) 0 [(0, .ref 102), (1, .int p0), (2, .int p1), (3, .int (6 : Int32))] [] (h ++ (rT ++ W)) P := by
  refine me1 (pc' := 1) dm_X12_letter_0 rfl rfl rfl rfl ?_
  refine me_1f (pc' := 4) dm_X12_letter_1 rfl (cn_f_lt (c := 0) rfl (by omega)) rfl ?_
  refine me1 (pc' := 5) dm_X12_letter_4 rfl rfl rfl rfl ?_
  refine me0 (pc' := 6) (S' := .int (1 : Int32) :: _) dm_X12_letter_5 rfl rfl rfl rfl ?_
  refine me_2t (pc' := 36) dm_X12_letter_6 rfl (cn_t_gt (c := 1) rfl (by omega)) ?_
  refine me0 (pc' := 37) (S' := .int (-1 : Int32) :: _) dm_X12_letter_36 rfl rfl rfl rfl ?_
  refine me5 dm_X12_letter_37 rfl rfl rfl ?_
  exact k _ rfl (Nat.le_of_ble_eq_true rfl)
set_option maxRecDepth 100000 in
set_option maxHeartbeats 40000000 in
theorem r_letter_ge_ge_v7 {xt : mj_X} {d : Nat} {h W : mj_H} (hn : h.length = 102) {P : Option Value → mj_H → Prop} {p0 : Int32} {p1 : Int32} (hl0 : 2 ≤ p0.toInt) (hl1 : 0 ≤ p1.toInt) (k : ∀ U, U.length = 25 → mj_sl U ≤ 3000000 → P (some (.int (-1 : Int32))) (h ++ (U ++ W))) : pgE xt (d + 20) 12 7 false (Option.some FieldType.int) (mj_dec prog_14_method_122_code) 0 [(0, .ref 102), (1, .int p0), (2, .int p1), (3, .int (7 : Int32))] [] (h ++ (rT ++ W)) P := by
  refine me1 (pc' := 1) dm_X12_letter_0 rfl rfl rfl rfl ?_
  refine me_1f (pc' := 4) dm_X12_letter_1 rfl (cn_f_lt (c := 0) rfl (by omega)) rfl ?_
  refine me1 (pc' := 5) dm_X12_letter_4 rfl rfl rfl rfl ?_
  refine me0 (pc' := 6) (S' := .int (1 : Int32) :: _) dm_X12_letter_5 rfl rfl rfl rfl ?_
  refine me_2t (pc' := 36) dm_X12_letter_6 rfl (cn_t_gt (c := 1) rfl (by omega)) ?_
  refine me0 (pc' := 37) (S' := .int (-1 : Int32) :: _) dm_X12_letter_36 rfl rfl rfl rfl ?_
  refine me5 dm_X12_letter_37 rfl rfl rfl ?_
  exact k _ rfl (Nat.le_of_ble_eq_true rfl)
set_option maxRecDepth 100000 in
set_option maxHeartbeats 40000000 in
theorem r_letter_ge_ge_ge {xt : mj_X} {d : Nat} {h W : mj_H} (hn : h.length = 102) {P : Option Value → mj_H → Prop} {p0 : Int32} {p1 : Int32} {p2 : Int32} (hl0 : 2 ≤ p0.toInt) (hl1 : 0 ≤ p1.toInt) (hl2 : 8 ≤ p2.toInt) (k : ∀ U, U.length = 25 → mj_sl U ≤ 3000000 → P (some (.int (-1 : Int32))) (h ++ (U ++ W))) : pgE xt (d + 20) 12 7 false (Option.some FieldType.int) (mj_dec prog_14_method_122_code) 0 [(0, .ref 102), (1, .int p0), (2, .int p1), (3, .int p2)] [] (h ++ (rT ++ W)) P := by
  refine me1 (pc' := 1) dm_X12_letter_0 rfl rfl rfl rfl ?_
  refine me_1f (pc' := 4) dm_X12_letter_1 rfl (cn_f_lt (c := 0) rfl (by omega)) rfl ?_
  refine me1 (pc' := 5) dm_X12_letter_4 rfl rfl rfl rfl ?_
  refine me0 (pc' := 6) (S' := .int (1 : Int32) :: _) dm_X12_letter_5 rfl rfl rfl rfl ?_
  refine me_2t (pc' := 36) dm_X12_letter_6 rfl (cn_t_gt (c := 1) rfl (by omega)) ?_
  refine me0 (pc' := 37) (S' := .int (-1 : Int32) :: _) dm_X12_letter_36 rfl rfl rfl rfl ?_
  refine me5 dm_X12_letter_37 rfl rfl rfl ?_
  exact k _ rfl (Nat.le_of_ble_eq_true rfl)
