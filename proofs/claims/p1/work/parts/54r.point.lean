set_option maxRecDepth 100000 in
set_option maxHeartbeats 40000000 in
theorem r_point_lt_lt {xt : mj_X} {d : Nat} {h W : mj_H} (hn : h.length = 102) {P : Option Value → mj_H → Prop} {p0 : Int32} {p1 : Int32} (hh0 : p0.toInt ≤ -1) (hh1 : p1.toInt ≤ -1) (k : ∀ U, U.length = 25 → mj_sl U ≤ 3000000 → P (some (.int (0 : Int32))) (h ++ (U ++ W))) : pgE xt (d + 20) 12 3 false (Option.some FieldType.boolean) (mj_dec prog_14_method_113_code) 0 [(0, .ref 102), (1, .int p0), (2, .int p1)] [] (h ++ (rT ++ W)) P := by
  refine me1 (pc' := 1) dm_X12_point_0 rfl rfl rfl rfl ?_
  refine me_1t (pc' := 14) dm_X12_point_1 rfl (cn_t_ne (c := 0) rfl (by omega)) ?_
  refine me1 (pc' := 15) dm_X12_point_14 rfl rfl rfl rfl ?_
  refine me0 (pc' := 16) (S' := .int (1 : Int32) :: _) dm_X12_point_15 rfl rfl rfl rfl ?_
  refine me_2t (pc' := 45) dm_X12_point_16 rfl (cn_t_ne (c := 1) rfl (by omega)) ?_
  refine me1 (pc' := 46) dm_X12_point_45 rfl rfl rfl rfl ?_
  refine me0 (pc' := 47) (S' := .int (2 : Int32) :: _) dm_X12_point_46 rfl rfl rfl rfl ?_
  refine me_2t (pc' := 79) dm_X12_point_47 rfl (cn_t_ne (c := 2) rfl (by omega)) ?_
  refine me0 (pc' := 80) (S' := .int (0 : Int32) :: _) dm_X12_point_79 rfl rfl rfl rfl ?_
  refine me5 dm_X12_point_80 rfl rfl rfl ?_
  exact k _ rfl (Nat.le_of_ble_eq_true rfl)
set_option maxRecDepth 100000 in
set_option maxHeartbeats 40000000 in
theorem r_point_lt_ge {xt : mj_X} {d : Nat} {h W : mj_H} (hn : h.length = 102) {P : Option Value → mj_H → Prop} {p0 : Int32} {p1 : Int32} (hh0 : p0.toInt ≤ -1) (hl1 : 0 ≤ p1.toInt) (k : ∀ U, U.length = 25 → mj_sl U ≤ 3000000 → P (some (.int (0 : Int32))) (h ++ (U ++ W))) : pgE xt (d + 20) 12 3 false (Option.some FieldType.boolean) (mj_dec prog_14_method_113_code) 0 [(0, .ref 102), (1, .int p0), (2, .int p1)] [] (h ++ (rT ++ W)) P := by
  refine me1 (pc' := 1) dm_X12_point_0 rfl rfl rfl rfl ?_
  refine me_1t (pc' := 14) dm_X12_point_1 rfl (cn_t_ne (c := 0) rfl (by omega)) ?_
  refine me1 (pc' := 15) dm_X12_point_14 rfl rfl rfl rfl ?_
  refine me0 (pc' := 16) (S' := .int (1 : Int32) :: _) dm_X12_point_15 rfl rfl rfl rfl ?_
  refine me_2t (pc' := 45) dm_X12_point_16 rfl (cn_t_ne (c := 1) rfl (by omega)) ?_
  refine me1 (pc' := 46) dm_X12_point_45 rfl rfl rfl rfl ?_
  refine me0 (pc' := 47) (S' := .int (2 : Int32) :: _) dm_X12_point_46 rfl rfl rfl rfl ?_
  refine me_2t (pc' := 79) dm_X12_point_47 rfl (cn_t_ne (c := 2) rfl (by omega)) ?_
  refine me0 (pc' := 80) (S' := .int (0 : Int32) :: _) dm_X12_point_79 rfl rfl rfl rfl ?_
  refine me5 dm_X12_point_80 rfl rfl rfl ?_
  exact k _ rfl (Nat.le_of_ble_eq_true rfl)
set_option maxRecDepth 100000 in
set_option maxHeartbeats 40000000 in
theorem r_point_v0_lt {xt : mj_X} {d : Nat} {h W : mj_H} (hn : h.length = 102) {P : Option Value → mj_H → Prop} {p1 : Int32} (hh1 : p1.toInt ≤ -1) (k : ∀ U, U.length = 25 → mj_sl U ≤ 3000000 → P (some (.int (1 : Int32))) (h ++ (U ++ W))) : pgE xt (d + 20) 12 3 false (Option.some FieldType.boolean) (mj_dec prog_14_method_113_code) 0 [(0, .ref 102), (1, .int (0 : Int32)), (2, .int p1)] [] (h ++ (rT ++ W)) P := by
  refine me1 (pc' := 1) dm_X12_point_0 rfl rfl rfl rfl ?_
  refine me_1f (pc' := 4) dm_X12_point_1 rfl (by decide) rfl ?_
  refine me1 (pc' := 5) dm_X12_point_4 rfl rfl rfl rfl ?_
  refine me1 (pc' := 6) dm_X12_point_5 rfl rfl rfl rfl ?_
  refine me3 (pc' := 9) dm_X12_point_6 (g_get (v := .int (3 : Int32)) (lu (n := 102) (j := 0) hn rfl) rfl rfl (Nat.le_of_ble_eq_true rfl)) rfl rfl rfl ?_
  refine me3 (pc' := 12) dm_X12_point_9 (u_put (fs' := [.ref 103, .ref 104, .ref 105, .int (1 : Int32), .int (4 : Int32), .int (0 : Int32), .int (-1 : Int32), .int (0 : Int32), .int (500000 : Int32), .int (0 : Int32), .int (0 : Int32), .int (0 : Int32), .ref 106, .int (0 : Int32), .ref 107, .ref 108, .ref 109, .int (0 : Int32), .int (0 : Int32), .ref 110, .ref 111, .ref 112, .ref 113, .int (0 : Int32), .int (0 : Int32), .ref 114, .ref 115, .ref 116, .ref 117, .ref 118, .int (3 : Int32), .int (3 : Int32), .ref 119, .int (0 : Int32), .int (0 : Int32), .int (0 : Int32), .int (0 : Int32), .int (0 : Int32), .int (0 : Int32), .int (0 : Int32), .int (0 : Int32), .long (0 : Int64), .long (0 : Int64), .ref 120, .ref 121, .ref 122, .ref 123, .ref 124, .ref 125, .ref 126, .int (0 : Int32), .int (0 : Int32), .int (0 : Int32), .int (0 : Int32), .int (0 : Int32), .int (0 : Int32), .long (0 : Int64), .int (0 : Int32), .int (-1 : Int32), .int (-1 : Int32)]) (n := 102) (j := 0) hn rfl rfl rfl (Nat.le_of_ble_eq_true rfl) rfl (by decide) (fun z => by cases z) rfl (Nat.le_of_ble_eq_true rfl)) rfl rfl rfl ?_
  refine me0 (pc' := 13) (S' := .int (1 : Int32) :: _) dm_X12_point_12 rfl rfl rfl rfl ?_
  refine me5 dm_X12_point_13 rfl rfl rfl ?_
  exact k _ rfl (Nat.le_of_ble_eq_true rfl)
set_option maxRecDepth 100000 in
set_option maxHeartbeats 40000000 in
theorem r_point_v0_ge {xt : mj_X} {d : Nat} {h W : mj_H} (hn : h.length = 102) {P : Option Value → mj_H → Prop} {p1 : Int32} (hl1 : 0 ≤ p1.toInt) (k : ∀ U, U.length = 25 → mj_sl U ≤ 3000000 → P (some (.int (1 : Int32))) (h ++ (U ++ W))) : pgE xt (d + 20) 12 3 false (Option.some FieldType.boolean) (mj_dec prog_14_method_113_code) 0 [(0, .ref 102), (1, .int (0 : Int32)), (2, .int p1)] [] (h ++ (rT ++ W)) P := by
  refine me1 (pc' := 1) dm_X12_point_0 rfl rfl rfl rfl ?_
  refine me_1f (pc' := 4) dm_X12_point_1 rfl (by decide) rfl ?_
  refine me1 (pc' := 5) dm_X12_point_4 rfl rfl rfl rfl ?_
  refine me1 (pc' := 6) dm_X12_point_5 rfl rfl rfl rfl ?_
  refine me3 (pc' := 9) dm_X12_point_6 (g_get (v := .int (3 : Int32)) (lu (n := 102) (j := 0) hn rfl) rfl rfl (Nat.le_of_ble_eq_true rfl)) rfl rfl rfl ?_
  refine me3 (pc' := 12) dm_X12_point_9 (u_put (fs' := [.ref 103, .ref 104, .ref 105, .int (1 : Int32), .int (4 : Int32), .int (0 : Int32), .int (-1 : Int32), .int (0 : Int32), .int (500000 : Int32), .int (0 : Int32), .int (0 : Int32), .int (0 : Int32), .ref 106, .int (0 : Int32), .ref 107, .ref 108, .ref 109, .int (0 : Int32), .int (0 : Int32), .ref 110, .ref 111, .ref 112, .ref 113, .int (0 : Int32), .int (0 : Int32), .ref 114, .ref 115, .ref 116, .ref 117, .ref 118, .int (3 : Int32), .int (3 : Int32), .ref 119, .int (0 : Int32), .int (0 : Int32), .int (0 : Int32), .int (0 : Int32), .int (0 : Int32), .int (0 : Int32), .int (0 : Int32), .int (0 : Int32), .long (0 : Int64), .long (0 : Int64), .ref 120, .ref 121, .ref 122, .ref 123, .ref 124, .ref 125, .ref 126, .int (0 : Int32), .int (0 : Int32), .int (0 : Int32), .int (0 : Int32), .int (0 : Int32), .int (0 : Int32), .long (0 : Int64), .int (0 : Int32), .int (-1 : Int32), .int (-1 : Int32)]) (n := 102) (j := 0) hn rfl rfl rfl (Nat.le_of_ble_eq_true rfl) rfl (by decide) (fun z => by cases z) rfl (Nat.le_of_ble_eq_true rfl)) rfl rfl rfl ?_
  refine me0 (pc' := 13) (S' := .int (1 : Int32) :: _) dm_X12_point_12 rfl rfl rfl rfl ?_
  refine me5 dm_X12_point_13 rfl rfl rfl ?_
  exact k _ rfl (Nat.le_of_ble_eq_true rfl)
set_option maxRecDepth 100000 in
set_option maxHeartbeats 40000000 in
theorem r_point_v1_lt {xt : mj_X} {d : Nat} {h W : mj_H} (hn : h.length = 102) {P : Option Value → mj_H → Prop} {p1 : Int32} (hh1 : p1.toInt ≤ -1) (k : ∀ U, U.length = 25 → mj_sl U ≤ 3000000 → P (some (.int (0 : Int32))) (h ++ (U ++ W))) : pgE xt (d + 20) 12 3 false (Option.some FieldType.boolean) (mj_dec prog_14_method_113_code) 0 [(0, .ref 102), (1, .int (1 : Int32)), (2, .int p1)] [] (h ++ (rT ++ W)) P := by
  refine me1 (pc' := 1) dm_X12_point_0 rfl rfl rfl rfl ?_
  refine me_1t (pc' := 14) dm_X12_point_1 rfl rfl ?_
  refine me1 (pc' := 15) dm_X12_point_14 rfl rfl rfl rfl ?_
  refine me0 (pc' := 16) (S' := .int (1 : Int32) :: _) dm_X12_point_15 rfl rfl rfl rfl ?_
  refine me_2f (pc' := 19) dm_X12_point_16 rfl (by decide) rfl ?_
  refine me1 (pc' := 20) dm_X12_point_19 rfl rfl rfl rfl ?_
  refine me_1t (pc' := 31) dm_X12_point_20 rfl (cn_t_lt (c := 0) rfl (by omega)) ?_
  refine me0 (pc' := 32) (S' := .int (0 : Int32) :: _) dm_X12_point_31 rfl rfl rfl rfl ?_
  refine me5 dm_X12_point_32 rfl rfl rfl ?_
  exact k _ rfl (Nat.le_of_ble_eq_true rfl)
set_option maxRecDepth 100000 in
set_option maxHeartbeats 40000000 in
theorem r_point_v1_ge {xt : mj_X} {d : Nat} {h W : mj_H} (hn : h.length = 102) {P : Option Value → mj_H → Prop} {p1 : Int32} (hl1 : 0 ≤ p1.toInt) (k : ∀ U, U.length = 25 → mj_sl U ≤ 3000000 → P (some (.int (0 : Int32))) (h ++ (U ++ W))) : pgE xt (d + 20) 12 3 false (Option.some FieldType.boolean) (mj_dec prog_14_method_113_code) 0 [(0, .ref 102), (1, .int (1 : Int32)), (2, .int p1)] [] (h ++ (rT ++ W)) P := by
  refine me1 (pc' := 1) dm_X12_point_0 rfl rfl rfl rfl ?_
  refine me_1t (pc' := 14) dm_X12_point_1 rfl rfl ?_
  refine me1 (pc' := 15) dm_X12_point_14 rfl rfl rfl rfl ?_
  refine me0 (pc' := 16) (S' := .int (1 : Int32) :: _) dm_X12_point_15 rfl rfl rfl rfl ?_
  refine me_2f (pc' := 19) dm_X12_point_16 rfl (by decide) rfl ?_
  refine me1 (pc' := 20) dm_X12_point_19 rfl rfl rfl rfl ?_
  refine me_1f (pc' := 23) dm_X12_point_20 rfl (cn_f_lt (c := 0) rfl (by omega)) rfl ?_
  refine me1 (pc' := 24) dm_X12_point_23 rfl rfl rfl rfl ?_
  refine me1 (pc' := 25) dm_X12_point_24 rfl rfl rfl rfl ?_
  refine me3 (pc' := 28) dm_X12_point_25 (g_get (v := .int (0 : Int32)) (lu (n := 102) (j := 0) hn rfl) rfl rfl (Nat.le_of_ble_eq_true rfl)) rfl rfl rfl ?_
  refine me_2f (pc' := 31) dm_X12_point_28 rfl (cn_f_lt (c := 0) rfl (by omega)) rfl ?_
  refine me0 (pc' := 32) (S' := .int (0 : Int32) :: _) dm_X12_point_31 rfl rfl rfl rfl ?_
  refine me5 dm_X12_point_32 rfl rfl rfl ?_
  exact k _ rfl (Nat.le_of_ble_eq_true rfl)
set_option maxRecDepth 100000 in
set_option maxHeartbeats 40000000 in
theorem r_point_v2_lt {xt : mj_X} {d : Nat} {h W : mj_H} (hn : h.length = 102) {P : Option Value → mj_H → Prop} {p1 : Int32} (hh1 : p1.toInt ≤ -1) (k : ∀ U, U.length = 25 → mj_sl U ≤ 3000000 → P (some (.int (0 : Int32))) (h ++ (U ++ W))) : pgE xt (d + 20) 12 3 false (Option.some FieldType.boolean) (mj_dec prog_14_method_113_code) 0 [(0, .ref 102), (1, .int (2 : Int32)), (2, .int p1)] [] (h ++ (rT ++ W)) P := by
  refine me1 (pc' := 1) dm_X12_point_0 rfl rfl rfl rfl ?_
  refine me_1t (pc' := 14) dm_X12_point_1 rfl rfl ?_
  refine me1 (pc' := 15) dm_X12_point_14 rfl rfl rfl rfl ?_
  refine me0 (pc' := 16) (S' := .int (1 : Int32) :: _) dm_X12_point_15 rfl rfl rfl rfl ?_
  refine me_2t (pc' := 45) dm_X12_point_16 rfl rfl ?_
  refine me1 (pc' := 46) dm_X12_point_45 rfl rfl rfl rfl ?_
  refine me0 (pc' := 47) (S' := .int (2 : Int32) :: _) dm_X12_point_46 rfl rfl rfl rfl ?_
  refine me_2f (pc' := 50) dm_X12_point_47 rfl (by decide) rfl ?_
  refine me1 (pc' := 51) dm_X12_point_50 rfl rfl rfl rfl ?_
  refine me1 (pc' := 52) dm_X12_point_51 rfl rfl rfl rfl ?_
  refine me3 (pc' := 55) dm_X12_point_52 (g_get (v := .int (3 : Int32)) (lu (n := 102) (j := 0) hn rfl) rfl rfl (Nat.le_of_ble_eq_true rfl)) rfl rfl rfl ?_
  refine me4 (pc' := 58) (L0 := [(0, .ref 102), (1, .int (3 : Int32))]) dm_X12_point_55 rfl (g_inv (As := [.int (3 : Int32)]) (lu (n := 102) (j := 0) hn rfl) rfl rfl rfl (Nat.le_of_ble_eq_true rfl)) pm_X12_kindOf rfl (Nat.le_of_ble_eq_true rfl) rfl rfl rfl ?_
  refine me1 (pc' := 1) dm_X12_kindOf_0 rfl rfl rfl rfl ?_
  refine me3 (pc' := 4) dm_X12_kindOf_1 (g_get (v := .ref 105) (lu (n := 102) (j := 0) hn rfl) rfl rfl (Nat.le_of_ble_eq_true rfl)) rfl rfl rfl ?_
  refine me1 (pc' := 5) dm_X12_kindOf_4 rfl rfl rfl rfl ?_
  refine me3 (pc' := 6) dm_X12_kindOf_5 (g_iald (v := (8 : Int32)) (lu (n := 102) (j := 3) hn rfl) rfl (by decide) rfl (Nat.le_of_ble_eq_true rfl)) rfl rfl rfl ?_
  refine me0 (pc' := 8) (S' := .int (7 : Int32) :: _) dm_X12_kindOf_6 rfl rfl rfl rfl ?_
  refine me0 (pc' := 9) (S' := .int (0 : Int32) :: _) dm_X12_kindOf_8 rfl rfl rfl rfl ?_
  refine me5 dm_X12_kindOf_9 rfl rfl rfl ?_
  refine me0 (pc' := 60) (S' := .int (6 : Int32) :: _) dm_X12_point_58 rfl rfl rfl rfl ?_
  refine me_2t (pc' := 79) dm_X12_point_60 rfl rfl ?_
  refine me0 (pc' := 80) (S' := .int (0 : Int32) :: _) dm_X12_point_79 rfl rfl rfl rfl ?_
  refine me5 dm_X12_point_80 rfl rfl rfl ?_
  exact k _ rfl (Nat.le_of_ble_eq_true rfl)
set_option maxRecDepth 100000 in
set_option maxHeartbeats 40000000 in
theorem r_point_v2_ge {xt : mj_X} {d : Nat} {h W : mj_H} (hn : h.length = 102) {P : Option Value → mj_H → Prop} {p1 : Int32} (hl1 : 0 ≤ p1.toInt) (k : ∀ U, U.length = 25 → mj_sl U ≤ 3000000 → P (some (.int (0 : Int32))) (h ++ (U ++ W))) : pgE xt (d + 20) 12 3 false (Option.some FieldType.boolean) (mj_dec prog_14_method_113_code) 0 [(0, .ref 102), (1, .int (2 : Int32)), (2, .int p1)] [] (h ++ (rT ++ W)) P := by
  refine me1 (pc' := 1) dm_X12_point_0 rfl rfl rfl rfl ?_
  refine me_1t (pc' := 14) dm_X12_point_1 rfl rfl ?_
  refine me1 (pc' := 15) dm_X12_point_14 rfl rfl rfl rfl ?_
  refine me0 (pc' := 16) (S' := .int (1 : Int32) :: _) dm_X12_point_15 rfl rfl rfl rfl ?_
  refine me_2t (pc' := 45) dm_X12_point_16 rfl rfl ?_
  refine me1 (pc' := 46) dm_X12_point_45 rfl rfl rfl rfl ?_
  refine me0 (pc' := 47) (S' := .int (2 : Int32) :: _) dm_X12_point_46 rfl rfl rfl rfl ?_
  refine me_2f (pc' := 50) dm_X12_point_47 rfl (by decide) rfl ?_
  refine me1 (pc' := 51) dm_X12_point_50 rfl rfl rfl rfl ?_
  refine me1 (pc' := 52) dm_X12_point_51 rfl rfl rfl rfl ?_
  refine me3 (pc' := 55) dm_X12_point_52 (g_get (v := .int (3 : Int32)) (lu (n := 102) (j := 0) hn rfl) rfl rfl (Nat.le_of_ble_eq_true rfl)) rfl rfl rfl ?_
  refine me4 (pc' := 58) (L0 := [(0, .ref 102), (1, .int (3 : Int32))]) dm_X12_point_55 rfl (g_inv (As := [.int (3 : Int32)]) (lu (n := 102) (j := 0) hn rfl) rfl rfl rfl (Nat.le_of_ble_eq_true rfl)) pm_X12_kindOf rfl (Nat.le_of_ble_eq_true rfl) rfl rfl rfl ?_
  refine me1 (pc' := 1) dm_X12_kindOf_0 rfl rfl rfl rfl ?_
  refine me3 (pc' := 4) dm_X12_kindOf_1 (g_get (v := .ref 105) (lu (n := 102) (j := 0) hn rfl) rfl rfl (Nat.le_of_ble_eq_true rfl)) rfl rfl rfl ?_
  refine me1 (pc' := 5) dm_X12_kindOf_4 rfl rfl rfl rfl ?_
  refine me3 (pc' := 6) dm_X12_kindOf_5 (g_iald (v := (8 : Int32)) (lu (n := 102) (j := 3) hn rfl) rfl (by decide) rfl (Nat.le_of_ble_eq_true rfl)) rfl rfl rfl ?_
  refine me0 (pc' := 8) (S' := .int (7 : Int32) :: _) dm_X12_kindOf_6 rfl rfl rfl rfl ?_
  refine me0 (pc' := 9) (S' := .int (0 : Int32) :: _) dm_X12_kindOf_8 rfl rfl rfl rfl ?_
  refine me5 dm_X12_kindOf_9 rfl rfl rfl ?_
  refine me0 (pc' := 60) (S' := .int (6 : Int32) :: _) dm_X12_point_58 rfl rfl rfl rfl ?_
  refine me_2t (pc' := 79) dm_X12_point_60 rfl rfl ?_
  refine me0 (pc' := 80) (S' := .int (0 : Int32) :: _) dm_X12_point_79 rfl rfl rfl rfl ?_
  refine me5 dm_X12_point_80 rfl rfl rfl ?_
  exact k _ rfl (Nat.le_of_ble_eq_true rfl)
set_option maxRecDepth 100000 in
set_option maxHeartbeats 40000000 in
theorem r_point_ge_lt {xt : mj_X} {d : Nat} {h W : mj_H} (hn : h.length = 102) {P : Option Value → mj_H → Prop} {p0 : Int32} {p1 : Int32} (hl0 : 3 ≤ p0.toInt) (hh1 : p1.toInt ≤ -1) (k : ∀ U, U.length = 25 → mj_sl U ≤ 3000000 → P (some (.int (0 : Int32))) (h ++ (U ++ W))) : pgE xt (d + 20) 12 3 false (Option.some FieldType.boolean) (mj_dec prog_14_method_113_code) 0 [(0, .ref 102), (1, .int p0), (2, .int p1)] [] (h ++ (rT ++ W)) P := by
  refine me1 (pc' := 1) dm_X12_point_0 rfl rfl rfl rfl ?_
  refine me_1t (pc' := 14) dm_X12_point_1 rfl (cn_t_ne (c := 0) rfl (by omega)) ?_
  refine me1 (pc' := 15) dm_X12_point_14 rfl rfl rfl rfl ?_
  refine me0 (pc' := 16) (S' := .int (1 : Int32) :: _) dm_X12_point_15 rfl rfl rfl rfl ?_
  refine me_2t (pc' := 45) dm_X12_point_16 rfl (cn_t_ne (c := 1) rfl (by omega)) ?_
  refine me1 (pc' := 46) dm_X12_point_45 rfl rfl rfl rfl ?_
  refine me0 (pc' := 47) (S' := .int (2 : Int32) :: _) dm_X12_point_46 rfl rfl rfl rfl ?_
  refine me_2t (pc' := 79) dm_X12_point_47 rfl (cn_t_ne (c := 2) rfl (by omega)) ?_
  refine me0 (pc' := 80) (S' := .int (0 : Int32) :: _) dm_X12_point_79 rfl rfl rfl rfl ?_
  refine me5 dm_X12_point_80 rfl rfl rfl ?_
  exact k _ rfl (Nat.le_of_ble_eq_true rfl)
set_option maxRecDepth 100000 in
set_option maxHeartbeats 40000000 in
theorem r_point_ge_ge {xt : mj_X} {d : Nat} {h W : mj_H} (hn : h.length = 102) {P : Option Value → mj_H → Prop} {p0 : Int32} {p1 : Int32} (hl0 : 3 ≤ p0.toInt) (hl1 : 0 ≤ p1.toInt) (k : ∀ U, U.length = 25 → mj_sl U ≤ 3000000 → P (some (.int (0 : Int32))) (h ++ (U ++ W))) : pgE xt (d + 20) 12 3 false (Option.some FieldType.boolean) (mj_dec prog_14_method_113_code) 0 [(0, .ref 102), (1, .int p0), (2, .int p1)] [] (h ++ (rT ++ W)) P := by
  refine me1 (pc' := 1) dm_X12_point_0 rfl rfl rfl rfl ?_
  refine me_1t (pc' := 14) dm_X12_point_1 rfl (cn_t_ne (c := 0) rfl (by omega)) ?_
  refine me1 (pc' := 15) dm_X12_point_14 rfl rfl rfl rfl ?_
  refine me0 (pc' := 16) (S' := .int (1 : Int32) :: _) dm_X12_point_15 rfl rfl rfl rfl ?_
  refine me_2t (pc' := 45) dm_X12_point_16 rfl (cn_t_ne (c := 1) rfl (by omega)) ?_
  refine me1 (pc' := 46) dm_X12_point_45 rfl rfl rfl rfl ?_
  refine me0 (pc' := 47) (S' := .int (2 : Int32) :: _) dm_X12_point_46 rfl rfl rfl rfl ?_
  refine me_2t (pc' := 79) dm_X12_point_47 rfl (cn_t_ne (c := 2) rfl (by omega)) ?_
  refine me0 (pc' := 80) (S' := .int (0 : Int32) :: _) dm_X12_point_79 rfl rfl rfl rfl ?_
  refine me5 dm_X12_point_80 rfl rfl rfl ?_
  exact k _ rfl (Nat.le_of_ble_eq_true rfl)
