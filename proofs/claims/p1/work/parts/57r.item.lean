set_option maxRecDepth 100000 in
set_option maxHeartbeats 40000000 in
theorem r_item_lt {xt : mj_X} {d : Nat} {h W : mj_H} (hn : h.length = 102) {P : Option Value → mj_H → Prop} {p0 : Int32} (hh0 : p0.toInt ≤ -1) (k : ∀ U, U.length = 25 → mj_sl U ≤ 3000000 → P (some (.long (0 : Int64))) (h ++ (U ++ W))) : pgE xt (d + 20) 12 4 false (Option.some FieldType.long) (mj_dec prog_14_method_116_code) 0 [(0, .ref 102), (1, .int p0)] [] (h ++ (rT ++ W)) P := by
  refine me1 (pc' := 1) dm_X12_item_0 rfl rfl rfl rfl ?_
  refine me1 (pc' := 2) dm_X12_item_1 rfl rfl rfl rfl ?_
  refine me3 (pc' := 5) dm_X12_item_2 (g_get (v := .int (3 : Int32)) (lu (n := 102) (j := 0) hn rfl) rfl rfl (Nat.le_of_ble_eq_true rfl)) rfl rfl rfl ?_
  refine me4 (pc' := 8) (L0 := [(0, .ref 102), (1, .int (3 : Int32))]) dm_X12_item_5 rfl (g_inv (As := [.int (3 : Int32)]) (lu (n := 102) (j := 0) hn rfl) rfl rfl rfl (Nat.le_of_ble_eq_true rfl)) pm_X12_kindOf rfl (Nat.le_of_ble_eq_true rfl) rfl rfl rfl ?_
  refine me1 (pc' := 1) dm_X12_kindOf_0 rfl rfl rfl rfl ?_
  refine me3 (pc' := 4) dm_X12_kindOf_1 (g_get (v := .ref 105) (lu (n := 102) (j := 0) hn rfl) rfl rfl (Nat.le_of_ble_eq_true rfl)) rfl rfl rfl ?_
  refine me1 (pc' := 5) dm_X12_kindOf_4 rfl rfl rfl rfl ?_
  refine me3 (pc' := 6) dm_X12_kindOf_5 (g_iald (v := (8 : Int32)) (lu (n := 102) (j := 3) hn rfl) rfl (by decide) rfl (Nat.le_of_ble_eq_true rfl)) rfl rfl rfl ?_
  refine me0 (pc' := 8) (S' := .int (7 : Int32) :: _) dm_X12_kindOf_6 rfl rfl rfl rfl ?_
  refine me0 (pc' := 9) (S' := .int (0 : Int32) :: _) dm_X12_kindOf_8 rfl rfl rfl rfl ?_
  refine me5 dm_X12_kindOf_9 rfl rfl rfl ?_
  refine me1 (pc' := 9) (L' := [(2, .int (0 : Int32)), (0, .ref 102), (1, .int p0)]) dm_X12_item_8 rfl rfl rfl rfl ?_
  refine me1 (pc' := 10) dm_X12_item_9 rfl rfl rfl rfl ?_
  refine me0 (pc' := 12) (S' := .int (7 : Int32) :: _) dm_X12_item_10 rfl rfl rfl rfl ?_
  refine me_2t (pc' := 19) dm_X12_item_12 rfl rfl ?_
  refine me1 (pc' := 20) dm_X12_item_19 rfl rfl rfl rfl ?_
  refine me0 (pc' := 22) (S' := .int (6 : Int32) :: _) dm_X12_item_20 rfl rfl rfl rfl ?_
  refine me_2t (pc' := 45) dm_X12_item_22 rfl rfl ?_
  refine me1 (pc' := 46) dm_X12_item_45 rfl rfl rfl rfl ?_
  refine me1 (pc' := 47) dm_X12_item_46 rfl rfl rfl rfl ?_
  refine me3 (pc' := 50) dm_X12_item_47 (g_get (v := .int (3 : Int32)) (lu (n := 102) (j := 0) hn rfl) rfl rfl (Nat.le_of_ble_eq_true rfl)) rfl rfl rfl ?_
  refine me4 (pc' := 53) (L0 := [(0, .ref 102), (1, .int (3 : Int32))]) dm_X12_item_50 rfl (g_inv (As := [.int (3 : Int32)]) (lu (n := 102) (j := 0) hn rfl) rfl rfl rfl (Nat.le_of_ble_eq_true rfl)) pm_X12_many rfl (Nat.le_of_ble_eq_true rfl) rfl rfl rfl ?_
  refine me1 (pc' := 1) dm_X12_many_0 rfl rfl rfl rfl ?_
  refine me3 (pc' := 4) dm_X12_many_1 (g_get (v := .ref 105) (lu (n := 102) (j := 0) hn rfl) rfl rfl (Nat.le_of_ble_eq_true rfl)) rfl rfl rfl ?_
  refine me1 (pc' := 5) dm_X12_many_4 rfl rfl rfl rfl ?_
  refine me3 (pc' := 6) dm_X12_many_5 (g_iald (v := (8 : Int32)) (lu (n := 102) (j := 3) hn rfl) rfl (by decide) rfl (Nat.le_of_ble_eq_true rfl)) rfl rfl rfl ?_
  refine me0 (pc' := 7) (S' := .int (3 : Int32) :: _) dm_X12_many_6 rfl rfl rfl rfl ?_
  refine me0 (pc' := 8) (S' := .int (1 : Int32) :: _) dm_X12_many_7 rfl rfl rfl rfl ?_
  refine me0 (pc' := 11) (S' := .int (255 : Int32) :: _) dm_X12_many_8 rfl rfl rfl rfl ?_
  refine me0 (pc' := 12) (S' := .int (1 : Int32) :: _) dm_X12_many_11 rfl rfl rfl rfl ?_
  refine me5 dm_X12_many_12 rfl rfl rfl ?_
  refine me1 (pc' := 54) (L' := [(3, .int (1 : Int32)), (2, .int (0 : Int32)), (0, .ref 102), (1, .int p0)]) dm_X12_item_53 rfl rfl rfl rfl ?_
  refine me1 (pc' := 55) dm_X12_item_54 rfl rfl rfl rfl ?_
  refine me_1t (pc' := 63) dm_X12_item_55 rfl (cn_t_lt (c := 0) rfl (by omega)) ?_
  refine me0 (pc' := 64) (S' := .long (0 : Int64) :: _) dm_X12_item_63 rfl rfl rfl rfl ?_
  refine me2 (pc' := 76) dm_X12_item_64 rfl rfl rfl ?_
  refine me5 dm_X12_item_76 rfl rfl rfl ?_
  exact k _ rfl (Nat.le_of_ble_eq_true rfl)
set_option maxRecDepth 100000 in
set_option maxHeartbeats 40000000 in
theorem r_item_v0 {xt : mj_X} {d : Nat} {h W : mj_H} (hn : h.length = 102) {P : Option Value → mj_H → Prop}  (k : ∀ U, U.length = 25 → mj_sl U ≤ 3000000 → P (some (.long (0 : Int64))) (h ++ (U ++ W))) : pgE xt (d + 20) 12 4 false (Option.some FieldType.long) (mj_dec prog_14_method_116_code) 0 [(0, .ref 102), (1, .int (0 : Int32))] [] (h ++ (rT ++ W)) P := by
  refine me1 (pc' := 1) dm_X12_item_0 rfl rfl rfl rfl ?_
  refine me1 (pc' := 2) dm_X12_item_1 rfl rfl rfl rfl ?_
  refine me3 (pc' := 5) dm_X12_item_2 (g_get (v := .int (3 : Int32)) (lu (n := 102) (j := 0) hn rfl) rfl rfl (Nat.le_of_ble_eq_true rfl)) rfl rfl rfl ?_
  refine me4 (pc' := 8) (L0 := [(0, .ref 102), (1, .int (3 : Int32))]) dm_X12_item_5 rfl (g_inv (As := [.int (3 : Int32)]) (lu (n := 102) (j := 0) hn rfl) rfl rfl rfl (Nat.le_of_ble_eq_true rfl)) pm_X12_kindOf rfl (Nat.le_of_ble_eq_true rfl) rfl rfl rfl ?_
  refine me1 (pc' := 1) dm_X12_kindOf_0 rfl rfl rfl rfl ?_
  refine me3 (pc' := 4) dm_X12_kindOf_1 (g_get (v := .ref 105) (lu (n := 102) (j := 0) hn rfl) rfl rfl (Nat.le_of_ble_eq_true rfl)) rfl rfl rfl ?_
  refine me1 (pc' := 5) dm_X12_kindOf_4 rfl rfl rfl rfl ?_
  refine me3 (pc' := 6) dm_X12_kindOf_5 (g_iald (v := (8 : Int32)) (lu (n := 102) (j := 3) hn rfl) rfl (by decide) rfl (Nat.le_of_ble_eq_true rfl)) rfl rfl rfl ?_
  refine me0 (pc' := 8) (S' := .int (7 : Int32) :: _) dm_X12_kindOf_6 rfl rfl rfl rfl ?_
  refine me0 (pc' := 9) (S' := .int (0 : Int32) :: _) dm_X12_kindOf_8 rfl rfl rfl rfl ?_
  refine me5 dm_X12_kindOf_9 rfl rfl rfl ?_
  refine me1 (pc' := 9) (L' := [(2, .int (0 : Int32)), (0, .ref 102), (1, .int (0 : Int32))]) dm_X12_item_8 rfl rfl rfl rfl ?_
  refine me1 (pc' := 10) dm_X12_item_9 rfl rfl rfl rfl ?_
  refine me0 (pc' := 12) (S' := .int (7 : Int32) :: _) dm_X12_item_10 rfl rfl rfl rfl ?_
  refine me_2t (pc' := 19) dm_X12_item_12 rfl rfl ?_
  refine me1 (pc' := 20) dm_X12_item_19 rfl rfl rfl rfl ?_
  refine me0 (pc' := 22) (S' := .int (6 : Int32) :: _) dm_X12_item_20 rfl rfl rfl rfl ?_
  refine me_2t (pc' := 45) dm_X12_item_22 rfl rfl ?_
  refine me1 (pc' := 46) dm_X12_item_45 rfl rfl rfl rfl ?_
  refine me1 (pc' := 47) dm_X12_item_46 rfl rfl rfl rfl ?_
  refine me3 (pc' := 50) dm_X12_item_47 (g_get (v := .int (3 : Int32)) (lu (n := 102) (j := 0) hn rfl) rfl rfl (Nat.le_of_ble_eq_true rfl)) rfl rfl rfl ?_
  refine me4 (pc' := 53) (L0 := [(0, .ref 102), (1, .int (3 : Int32))]) dm_X12_item_50 rfl (g_inv (As := [.int (3 : Int32)]) (lu (n := 102) (j := 0) hn rfl) rfl rfl rfl (Nat.le_of_ble_eq_true rfl)) pm_X12_many rfl (Nat.le_of_ble_eq_true rfl) rfl rfl rfl ?_
  refine me1 (pc' := 1) dm_X12_many_0 rfl rfl rfl rfl ?_
  refine me3 (pc' := 4) dm_X12_many_1 (g_get (v := .ref 105) (lu (n := 102) (j := 0) hn rfl) rfl rfl (Nat.le_of_ble_eq_true rfl)) rfl rfl rfl ?_
  refine me1 (pc' := 5) dm_X12_many_4 rfl rfl rfl rfl ?_
  refine me3 (pc' := 6) dm_X12_many_5 (g_iald (v := (8 : Int32)) (lu (n := 102) (j := 3) hn rfl) rfl (by decide) rfl (Nat.le_of_ble_eq_true rfl)) rfl rfl rfl ?_
  refine me0 (pc' := 7) (S' := .int (3 : Int32) :: _) dm_X12_many_6 rfl rfl rfl rfl ?_
  refine me0 (pc' := 8) (S' := .int (1 : Int32) :: _) dm_X12_many_7 rfl rfl rfl rfl ?_
  refine me0 (pc' := 11) (S' := .int (255 : Int32) :: _) dm_X12_many_8 rfl rfl rfl rfl ?_
  refine me0 (pc' := 12) (S' := .int (1 : Int32) :: _) dm_X12_many_11 rfl rfl rfl rfl ?_
  refine me5 dm_X12_many_12 rfl rfl rfl ?_
  refine me1 (pc' := 54) (L' := [(3, .int (1 : Int32)), (2, .int (0 : Int32)), (0, .ref 102), (1, .int (0 : Int32))]) dm_X12_item_53 rfl rfl rfl rfl ?_
  refine me1 (pc' := 55) dm_X12_item_54 rfl rfl rfl rfl ?_
  refine me_1f (pc' := 58) dm_X12_item_55 rfl (by decide) rfl ?_
  refine me1 (pc' := 59) dm_X12_item_58 rfl rfl rfl rfl ?_
  refine me1 (pc' := 60) dm_X12_item_59 rfl rfl rfl rfl ?_
  refine me_2t (pc' := 67) dm_X12_item_60 rfl rfl ?_
  refine me1 (pc' := 68) dm_X12_item_67 rfl rfl rfl rfl ?_
  refine me1 (pc' := 69) dm_X12_item_68 rfl rfl rfl rfl ?_
  refine me3 (pc' := 72) dm_X12_item_69 (g_get (v := .int (3 : Int32)) (lu (n := 102) (j := 0) hn rfl) rfl rfl (Nat.le_of_ble_eq_true rfl)) rfl rfl rfl ?_
  refine me1 (pc' := 73) dm_X12_item_72 rfl rfl rfl rfl ?_
  refine me4 (pc' := 76) (L0 := [(0, .ref 102), (1, .int (3 : Int32)), (2, .int (0 : Int32))]) dm_X12_item_73 rfl (g_inv (As := [.int (3 : Int32), .int (0 : Int32)]) (lu (n := 102) (j := 0) hn rfl) rfl rfl rfl (Nat.le_of_ble_eq_true rfl)) pm_X12_number rfl (Nat.le_of_ble_eq_true rfl) rfl rfl rfl ?_
  refine me1 (pc' := 1) dm_X12_number_0 rfl rfl rfl rfl ?_
  refine me3 (pc' := 4) dm_X12_number_1 (g_get (v := .ref 103) (lu (n := 102) (j := 0) hn rfl) rfl rfl (Nat.le_of_ble_eq_true rfl)) rfl rfl rfl ?_
  refine me1 (pc' := 5) dm_X12_number_4 rfl rfl rfl rfl ?_
  refine me3 (pc' := 8) dm_X12_number_5 (g_get (v := .ref 104) (lu (n := 102) (j := 0) hn rfl) rfl rfl (Nat.le_of_ble_eq_true rfl)) rfl rfl rfl ?_
  refine me1 (pc' := 9) dm_X12_number_8 rfl rfl rfl rfl ?_
  refine me3 (pc' := 10) dm_X12_number_9 (g_iald (v := (0 : Int32)) (lu (n := 102) (j := 2) hn rfl) rfl (by decide) rfl (Nat.le_of_ble_eq_true rfl)) rfl rfl rfl ?_
  refine me1 (pc' := 11) dm_X12_number_10 rfl rfl rfl rfl ?_
  refine me0 (pc' := 12) (S' := .int (0 : Int32) :: _) dm_X12_number_11 rfl rfl rfl rfl ?_
  refine me3 (pc' := 13) dm_X12_number_12 (g_lald (v := (0 : Int64)) (lu (n := 102) (j := 1) hn rfl) rfl (by decide) rfl (Nat.le_of_ble_eq_true rfl)) rfl rfl rfl ?_
  refine me5 dm_X12_number_13 rfl rfl rfl ?_
  refine me5 dm_X12_item_76 rfl rfl rfl ?_
  exact k _ rfl (Nat.le_of_ble_eq_true rfl)
set_option maxRecDepth 100000 in
set_option maxHeartbeats 40000000 in
theorem r_item_ge {xt : mj_X} {d : Nat} {h W : mj_H} (hn : h.length = 102) {P : Option Value → mj_H → Prop} {p0 : Int32} (hl0 : 1 ≤ p0.toInt) (k : ∀ U, U.length = 25 → mj_sl U ≤ 3000000 → P (some (.long (0 : Int64))) (h ++ (U ++ W))) : pgE xt (d + 20) 12 4 false (Option.some FieldType.long) (mj_dec prog_14_method_116_code) 0 [(0, .ref 102), (1, .int p0)] [] (h ++ (rT ++ W)) P := by
  refine me1 (pc' := 1) dm_X12_item_0 rfl rfl rfl rfl ?_
  refine me1 (pc' := 2) dm_X12_item_1 rfl rfl rfl rfl ?_
  refine me3 (pc' := 5) dm_X12_item_2 (g_get (v := .int (3 : Int32)) (lu (n := 102) (j := 0) hn rfl) rfl rfl (Nat.le_of_ble_eq_true rfl)) rfl rfl rfl ?_
  refine me4 (pc' := 8) (L0 := [(0, .ref 102), (1, .int (3 : Int32))]) dm_X12_item_5 rfl (g_inv (As := [.int (3 : Int32)]) (lu (n := 102) (j := 0) hn rfl) rfl rfl rfl (Nat.le_of_ble_eq_true rfl)) pm_X12_kindOf rfl (Nat.le_of_ble_eq_true rfl) rfl rfl rfl ?_
  refine me1 (pc' := 1) dm_X12_kindOf_0 rfl rfl rfl rfl ?_
  refine me3 (pc' := 4) dm_X12_kindOf_1 (g_get (v := .ref 105) (lu (n := 102) (j := 0) hn rfl) rfl rfl (Nat.le_of_ble_eq_true rfl)) rfl rfl rfl ?_
  refine me1 (pc' := 5) dm_X12_kindOf_4 rfl rfl rfl rfl ?_
  refine me3 (pc' := 6) dm_X12_kindOf_5 (g_iald (v := (8 : Int32)) (lu (n := 102) (j := 3) hn rfl) rfl (by decide) rfl (Nat.le_of_ble_eq_true rfl)) rfl rfl rfl ?_
  refine me0 (pc' := 8) (S' := .int (7 : Int32) :: _) dm_X12_kindOf_6 rfl rfl rfl rfl ?_
  refine me0 (pc' := 9) (S' := .int (0 : Int32) :: _) dm_X12_kindOf_8 rfl rfl rfl rfl ?_
  refine me5 dm_X12_kindOf_9 rfl rfl rfl ?_
  refine me1 (pc' := 9) (L' := [(2, .int (0 : Int32)), (0, .ref 102), (1, .int p0)]) dm_X12_item_8 rfl rfl rfl rfl ?_
  refine me1 (pc' := 10) dm_X12_item_9 rfl rfl rfl rfl ?_
  refine me0 (pc' := 12) (S' := .int (7 : Int32) :: _) dm_X12_item_10 rfl rfl rfl rfl ?_
  refine me_2t (pc' := 19) dm_X12_item_12 rfl rfl ?_
  refine me1 (pc' := 20) dm_X12_item_19 rfl rfl rfl rfl ?_
  refine me0 (pc' := 22) (S' := .int (6 : Int32) :: _) dm_X12_item_20 rfl rfl rfl rfl ?_
  refine me_2t (pc' := 45) dm_X12_item_22 rfl rfl ?_
  refine me1 (pc' := 46) dm_X12_item_45 rfl rfl rfl rfl ?_
  refine me1 (pc' := 47) dm_X12_item_46 rfl rfl rfl rfl ?_
  refine me3 (pc' := 50) dm_X12_item_47 (g_get (v := .int (3 : Int32)) (lu (n := 102) (j := 0) hn rfl) rfl rfl (Nat.le_of_ble_eq_true rfl)) rfl rfl rfl ?_
  refine me4 (pc' := 53) (L0 := [(0, .ref 102), (1, .int (3 : Int32))]) dm_X12_item_50 rfl (g_inv (As := [.int (3 : Int32)]) (lu (n := 102) (j := 0) hn rfl) rfl rfl rfl (Nat.le_of_ble_eq_true rfl)) pm_X12_many rfl (Nat.le_of_ble_eq_true rfl) rfl rfl rfl ?_
  refine me1 (pc' := 1) dm_X12_many_0 rfl rfl rfl rfl ?_
  refine me3 (pc' := 4) dm_X12_many_1 (g_get (v := .ref 105) (lu (n := 102) (j := 0) hn rfl) rfl rfl (Nat.le_of_ble_eq_true rfl)) rfl rfl rfl ?_
  refine me1 (pc' := 5) dm_X12_many_4 rfl rfl rfl rfl ?_
  refine me3 (pc' := 6) dm_X12_many_5 (g_iald (v := (8 : Int32)) (lu (n := 102) (j := 3) hn rfl) rfl (by decide) rfl (Nat.le_of_ble_eq_true rfl)) rfl rfl rfl ?_
  refine me0 (pc' := 7) (S' := .int (3 : Int32) :: _) dm_X12_many_6 rfl rfl rfl rfl ?_
  refine me0 (pc' := 8) (S' := .int (1 : Int32) :: _) dm_X12_many_7 rfl rfl rfl rfl ?_
  refine me0 (pc' := 11) (S' := .int (255 : Int32) :: _) dm_X12_many_8 rfl rfl rfl rfl ?_
  refine me0 (pc' := 12) (S' := .int (1 : Int32) :: _) dm_X12_many_11 rfl rfl rfl rfl ?_
  refine me5 dm_X12_many_12 rfl rfl rfl ?_
  refine me1 (pc' := 54) (L' := [(3, .int (1 : Int32)), (2, .int (0 : Int32)), (0, .ref 102), (1, .int p0)]) dm_X12_item_53 rfl rfl rfl rfl ?_
  refine me1 (pc' := 55) dm_X12_item_54 rfl rfl rfl rfl ?_
  refine me_1f (pc' := 58) dm_X12_item_55 rfl (cn_f_lt (c := 0) rfl (by omega)) rfl ?_
  refine me1 (pc' := 59) dm_X12_item_58 rfl rfl rfl rfl ?_
  refine me1 (pc' := 60) dm_X12_item_59 rfl rfl rfl rfl ?_
  refine me_2f (pc' := 63) dm_X12_item_60 rfl (cn_f_lt (c := 1) rfl (by omega)) rfl ?_
  refine me0 (pc' := 64) (S' := .long (0 : Int64) :: _) dm_X12_item_63 rfl rfl rfl rfl ?_
  refine me2 (pc' := 76) dm_X12_item_64 rfl rfl rfl ?_
  refine me5 dm_X12_item_76 rfl rfl rfl ?_
  exact k _ rfl (Nat.le_of_ble_eq_true rfl)
