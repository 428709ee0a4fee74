set_option maxRecDepth 100000 in
set_option maxHeartbeats 40000000 in
theorem r_count_lt {xt : mj_X} {d : Nat} {h W : mj_H} (hn : h.length = 102) {P : Option Value → mj_H → Prop} {p0 : Int32} (hh0 : p0.toInt ≤ -1) (k : ∀ U, U.length = 25 → mj_sl U ≤ 3000000 → P (some (.int (-1 : Int32))) (h ++ (U ++ W))) : pgE xt (d + 20) 12 2 false (Option.some FieldType.int) (mj_dec prog_14_method_115_code) 0 [(0, .ref 102), (1, .int p0)] [] (h ++ (rT ++ W)) P := by
  refine me1 (pc' := 1) dm_X12_count_0 rfl rfl rfl rfl ?_
  refine me2 (pc' := 72) dm_X12_count_1 (sw_tdef [0, 1, 2] rfl rfl rfl ⟨(cn_f_eq (c := 0) rfl (by omega)), (cn_f_eq (c := 1) rfl (by omega)), (cn_f_eq (c := 2) rfl (by omega)), trivial⟩) rfl rfl ?_
  refine me0 (pc' := 73) (S' := .int (-1 : Int32) :: _) dm_X12_count_72 rfl rfl rfl rfl ?_
  refine me5 dm_X12_count_73 rfl rfl rfl ?_
  exact k _ rfl (Nat.le_of_ble_eq_true rfl)
set_option maxRecDepth 100000 in
set_option maxHeartbeats 40000000 in
theorem r_count_v0 {xt : mj_X} {d : Nat} {h W : mj_H} (hn : h.length = 102) {P : Option Value → mj_H → Prop}  (k : ∀ U, U.length = 25 → mj_sl U ≤ 3000000 → P (some (.int (1 : Int32))) (h ++ (U ++ W))) : pgE xt (d + 20) 12 2 false (Option.some FieldType.int) (mj_dec prog_14_method_115_code) 0 [(0, .ref 102), (1, .int (0 : Int32))] [] (h ++ (rT ++ W)) P := by
  refine me1 (pc' := 1) dm_X12_count_0 rfl rfl rfl rfl ?_
  refine me2 (pc' := 28) dm_X12_count_1 rfl rfl rfl ?_
  refine me1 (pc' := 29) dm_X12_count_28 rfl rfl rfl rfl ?_
  refine me1 (pc' := 30) dm_X12_count_29 rfl rfl rfl rfl ?_
  refine me3 (pc' := 33) dm_X12_count_30 (g_get (v := .int (3 : Int32)) (lu (n := 102) (j := 0) hn rfl) rfl rfl (Nat.le_of_ble_eq_true rfl)) rfl rfl rfl ?_
  refine me4 (pc' := 36) (L0 := [(0, .ref 102), (1, .int (3 : Int32))]) dm_X12_count_33 rfl (g_inv (As := [.int (3 : Int32)]) (lu (n := 102) (j := 0) hn rfl) rfl rfl rfl (Nat.le_of_ble_eq_true rfl)) pm_X12_many rfl (Nat.le_of_ble_eq_true rfl) rfl rfl rfl ?_
  refine me1 (pc' := 1) dm_X12_many_0 rfl rfl rfl rfl ?_
  refine me3 (pc' := 4) dm_X12_many_1 (g_get (v := .ref 105) (lu (n := 102) (j := 0) hn rfl) rfl rfl (Nat.le_of_ble_eq_true rfl)) rfl rfl rfl ?_
  refine me1 (pc' := 5) dm_X12_many_4 rfl rfl rfl rfl ?_
  refine me3 (pc' := 6) dm_X12_many_5 (g_iald (v := (8 : Int32)) (lu (n := 102) (j := 3) hn rfl) rfl (by decide) rfl (Nat.le_of_ble_eq_true rfl)) rfl rfl rfl ?_
  refine me0 (pc' := 7) (S' := .int (3 : Int32) :: _) dm_X12_many_6 rfl rfl rfl rfl ?_
  refine me0 (pc' := 8) (S' := .int (1 : Int32) :: _) dm_X12_many_7 rfl rfl rfl rfl ?_
  refine me0 (pc' := 11) (S' := .int (255 : Int32) :: _) dm_X12_many_8 rfl rfl rfl rfl ?_
  refine me0 (pc' := 12) (S' := .int (1 : Int32) :: _) dm_X12_many_11 rfl rfl rfl rfl ?_
  refine me5 dm_X12_many_12 rfl rfl rfl ?_
  refine me5 dm_X12_count_36 rfl rfl rfl ?_
  exact k _ rfl (Nat.le_of_ble_eq_true rfl)
set_option maxRecDepth 100000 in
set_option maxHeartbeats 40000000 in
theorem r_count_v1 {xt : mj_X} {d : Nat} {h W : mj_H} (hn : h.length = 102) {P : Option Value → mj_H → Prop}  (k : ∀ U, U.length = 25 → mj_sl U ≤ 3000000 → P (some (.int (-1 : Int32))) (h ++ (U ++ W))) : pgE xt (d + 20) 12 2 false (Option.some FieldType.int) (mj_dec prog_14_method_115_code) 0 [(0, .ref 102), (1, .int (1 : Int32))] [] (h ++ (rT ++ W)) P := by
  refine me1 (pc' := 1) dm_X12_count_0 rfl rfl rfl rfl ?_
  refine me2 (pc' := 37) dm_X12_count_1 rfl rfl rfl ?_
  refine me1 (pc' := 38) dm_X12_count_37 rfl rfl rfl rfl ?_
  refine me1 (pc' := 39) dm_X12_count_38 rfl rfl rfl rfl ?_
  refine me3 (pc' := 42) dm_X12_count_39 (g_get (v := .int (3 : Int32)) (lu (n := 102) (j := 0) hn rfl) rfl rfl (Nat.le_of_ble_eq_true rfl)) rfl rfl rfl ?_
  refine me4 (pc' := 45) (L0 := [(0, .ref 102), (1, .int (3 : Int32))]) dm_X12_count_42 rfl (g_inv (As := [.int (3 : Int32)]) (lu (n := 102) (j := 0) hn rfl) rfl rfl rfl (Nat.le_of_ble_eq_true rfl)) pm_X12_kindOf rfl (Nat.le_of_ble_eq_true rfl) rfl rfl rfl ?_
  refine me1 (pc' := 1) dm_X12_kindOf_0 rfl rfl rfl rfl ?_
  refine me3 (pc' := 4) dm_X12_kindOf_1 (g_get (v := .ref 105) (lu (n := 102) (j := 0) hn rfl) rfl rfl (Nat.le_of_ble_eq_true rfl)) rfl rfl rfl ?_
  refine me1 (pc' := 5) dm_X12_kindOf_4 rfl rfl rfl rfl ?_
  refine me3 (pc' := 6) dm_X12_kindOf_5 (g_iald (v := (8 : Int32)) (lu (n := 102) (j := 3) hn rfl) rfl (by decide) rfl (Nat.le_of_ble_eq_true rfl)) rfl rfl rfl ?_
  refine me0 (pc' := 8) (S' := .int (7 : Int32) :: _) dm_X12_kindOf_6 rfl rfl rfl rfl ?_
  refine me0 (pc' := 9) (S' := .int (0 : Int32) :: _) dm_X12_kindOf_8 rfl rfl rfl rfl ?_
  refine me5 dm_X12_kindOf_9 rfl rfl rfl ?_
  refine me0 (pc' := 47) (S' := .int (6 : Int32) :: _) dm_X12_count_45 rfl rfl rfl rfl ?_
  refine me_2t (pc' := 61) dm_X12_count_47 rfl rfl ?_
  refine me0 (pc' := 62) (S' := .int (-1 : Int32) :: _) dm_X12_count_61 rfl rfl rfl rfl ?_
  refine me5 dm_X12_count_62 rfl rfl rfl ?_
  exact k _ rfl (Nat.le_of_ble_eq_true rfl)
set_option maxRecDepth 100000 in
set_option maxHeartbeats 40000000 in
theorem r_count_v2 {xt : mj_X} {d : Nat} {h W : mj_H} (hn : h.length = 102) {P : Option Value → mj_H → Prop}  (k : ∀ U, U.length = 25 → mj_sl U ≤ 3000000 → P (some (.int (0 : Int32))) (h ++ (U ++ W))) : pgE xt (d + 20) 12 2 false (Option.some FieldType.int) (mj_dec prog_14_method_115_code) 0 [(0, .ref 102), (1, .int (2 : Int32))] [] (h ++ (rT ++ W)) P := by
  refine me1 (pc' := 1) dm_X12_count_0 rfl rfl rfl rfl ?_
  refine me2 (pc' := 63) dm_X12_count_1 rfl rfl rfl ?_
  refine me1 (pc' := 64) dm_X12_count_63 rfl rfl rfl rfl ?_
  refine me1 (pc' := 65) dm_X12_count_64 rfl rfl rfl rfl ?_
  refine me3 (pc' := 68) dm_X12_count_65 (g_get (v := .int (3 : Int32)) (lu (n := 102) (j := 0) hn rfl) rfl rfl (Nat.le_of_ble_eq_true rfl)) rfl rfl rfl ?_
  refine me4 (pc' := 71) (L0 := [(0, .ref 102), (1, .int (3 : Int32))]) dm_X12_count_68 rfl (g_inv (As := [.int (3 : Int32)]) (lu (n := 102) (j := 0) hn rfl) rfl rfl rfl (Nat.le_of_ble_eq_true rfl)) pm_X12_levelsOf rfl (Nat.le_of_ble_eq_true rfl) rfl rfl rfl ?_
  refine me1 (pc' := 1) dm_X12_levelsOf_0 rfl rfl rfl rfl ?_
  refine me1 (pc' := 2) dm_X12_levelsOf_1 rfl rfl rfl rfl ?_
  refine me4 (pc' := 5) (L0 := [(0, .ref 102), (1, .int (3 : Int32))]) dm_X12_levelsOf_2 rfl (g_inv (As := [.int (3 : Int32)]) (lu (n := 102) (j := 0) hn rfl) rfl rfl rfl (Nat.le_of_ble_eq_true rfl)) pm_X12_kindOf rfl (Nat.le_of_ble_eq_true rfl) rfl rfl rfl ?_
  refine me1 (pc' := 1) dm_X12_kindOf_0 rfl rfl rfl rfl ?_
  refine me3 (pc' := 4) dm_X12_kindOf_1 (g_get (v := .ref 105) (lu (n := 102) (j := 0) hn rfl) rfl rfl (Nat.le_of_ble_eq_true rfl)) rfl rfl rfl ?_
  refine me1 (pc' := 5) dm_X12_kindOf_4 rfl rfl rfl rfl ?_
  refine me3 (pc' := 6) dm_X12_kindOf_5 (g_iald (v := (8 : Int32)) (lu (n := 102) (j := 3) hn rfl) rfl (by decide) rfl (Nat.le_of_ble_eq_true rfl)) rfl rfl rfl ?_
  refine me0 (pc' := 8) (S' := .int (7 : Int32) :: _) dm_X12_kindOf_6 rfl rfl rfl rfl ?_
  refine me0 (pc' := 9) (S' := .int (0 : Int32) :: _) dm_X12_kindOf_8 rfl rfl rfl rfl ?_
  refine me5 dm_X12_kindOf_9 rfl rfl rfl ?_
  refine me0 (pc' := 7) (S' := .int (7 : Int32) :: _) dm_X12_levelsOf_5 rfl rfl rfl rfl ?_
  refine me_2f (pc' := 10) dm_X12_levelsOf_7 rfl (by decide) rfl ?_
  refine me1 (pc' := 11) dm_X12_levelsOf_10 rfl rfl rfl rfl ?_
  refine me1 (pc' := 12) dm_X12_levelsOf_11 rfl rfl rfl rfl ?_
  refine me4 (pc' := 15) (L0 := [(0, .ref 102), (1, .int (3 : Int32))]) dm_X12_levelsOf_12 rfl (g_inv (As := [.int (3 : Int32)]) (lu (n := 102) (j := 0) hn rfl) rfl rfl rfl (Nat.le_of_ble_eq_true rfl)) pm_X12_isOne rfl (Nat.le_of_ble_eq_true rfl) rfl rfl rfl ?_
  refine me1 (pc' := 1) dm_X12_isOne_0 rfl rfl rfl rfl ?_
  refine me1 (pc' := 2) dm_X12_isOne_1 rfl rfl rfl rfl ?_
  refine me4 (pc' := 5) (L0 := [(0, .ref 102), (1, .int (3 : Int32))]) dm_X12_isOne_2 rfl (g_inv (As := [.int (3 : Int32)]) (lu (n := 102) (j := 0) hn rfl) rfl rfl rfl (Nat.le_of_ble_eq_true rfl)) pm_X12_kindOf rfl (Nat.le_of_ble_eq_true rfl) rfl rfl rfl ?_
  refine me1 (pc' := 1) dm_X12_kindOf_0 rfl rfl rfl rfl ?_
  refine me3 (pc' := 4) dm_X12_kindOf_1 (g_get (v := .ref 105) (lu (n := 102) (j := 0) hn rfl) rfl rfl (Nat.le_of_ble_eq_true rfl)) rfl rfl rfl ?_
  refine me1 (pc' := 5) dm_X12_kindOf_4 rfl rfl rfl rfl ?_
  refine me3 (pc' := 6) dm_X12_kindOf_5 (g_iald (v := (8 : Int32)) (lu (n := 102) (j := 3) hn rfl) rfl (by decide) rfl (Nat.le_of_ble_eq_true rfl)) rfl rfl rfl ?_
  refine me0 (pc' := 8) (S' := .int (7 : Int32) :: _) dm_X12_kindOf_6 rfl rfl rfl rfl ?_
  refine me0 (pc' := 9) (S' := .int (0 : Int32) :: _) dm_X12_kindOf_8 rfl rfl rfl rfl ?_
  refine me5 dm_X12_kindOf_9 rfl rfl rfl ?_
  refine me0 (pc' := 6) (S' := .int (1 : Int32) :: _) dm_X12_isOne_5 rfl rfl rfl rfl ?_
  refine me_2f (pc' := 9) dm_X12_isOne_6 rfl (by decide) rfl ?_
  refine me0 (pc' := 10) (S' := .int (1 : Int32) :: _) dm_X12_isOne_9 rfl rfl rfl rfl ?_
  refine me2 (pc' := 14) dm_X12_isOne_10 rfl rfl rfl ?_
  refine me5 dm_X12_isOne_14 rfl rfl rfl ?_
  refine me_1f (pc' := 18) dm_X12_levelsOf_15 rfl (by decide) rfl ?_
  refine me0 (pc' := 19) (S' := .int (0 : Int32) :: _) dm_X12_levelsOf_18 rfl rfl rfl rfl ?_
  refine me2 (pc' := 37) dm_X12_levelsOf_19 rfl rfl rfl ?_
  refine me5 dm_X12_levelsOf_37 rfl rfl rfl ?_
  refine me5 dm_X12_count_71 rfl rfl rfl ?_
  exact k _ rfl (Nat.le_of_ble_eq_true rfl)
set_option maxRecDepth 100000 in
set_option maxHeartbeats 40000000 in
theorem r_count_ge {xt : mj_X} {d : Nat} {h W : mj_H} (hn : h.length = 102) {P : Option Value → mj_H → Prop} {p0 : Int32} (hl0 : 3 ≤ p0.toInt) (k : ∀ U, U.length = 25 → mj_sl U ≤ 3000000 → P (some (.int (-1 : Int32))) (h ++ (U ++ W))) : pgE xt (d + 20) 12 2 false (Option.some FieldType.int) (mj_dec prog_14_method_115_code) 0 [(0, .ref 102), (1, .int p0)] [] (h ++ (rT ++ W)) P := by
  refine me1 (pc' := 1) dm_X12_count_0 rfl rfl rfl rfl ?_
  refine me2 (pc' := 72) dm_X12_count_1 (sw_tdef [0, 1, 2] rfl rfl rfl ⟨(cn_f_eq (c := 0) rfl (by omega)), (cn_f_eq (c := 1) rfl (by omega)), (cn_f_eq (c := 2) rfl (by omega)), trivial⟩) rfl rfl ?_
  refine me0 (pc' := 73) (S' := .int (-1 : Int32) :: _) dm_X12_count_72 rfl rfl rfl rfl ?_
  refine me5 dm_X12_count_73 rfl rfl rfl ?_
  exact k _ rfl (Nat.le_of_ble_eq_true rfl)
