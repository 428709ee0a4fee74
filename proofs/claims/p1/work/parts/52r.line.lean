set_option maxRecDepth 100000 in
set_option maxHeartbeats 40000000 in
theorem r_line_lt {xt : mj_X} {d : Nat} {h W : mj_H} (hn : h.length = 102) {P : Option Value → mj_H → Prop} {p0 : Int32} (hh0 : p0.toInt ≤ -1) (k : ∀ U, U.length = 25 → mj_sl U ≤ 3000000 → P (some (.int (-100 : Int32))) (h ++ (U ++ W))) : pgE xt (d + 20) 12 5 false (Option.some FieldType.int) (mj_dec prog_14_method_95_code) 0 [(0, .ref 102), (1, .int p0)] [] (h ++ (rT ++ W)) P := by
  refine me1 (pc' := 1) dm_X12_line_0 rfl rfl rfl rfl ?_
  refine me_1t (pc' := 12) dm_X12_line_1 rfl (cn_t_lt (c := 0) rfl (by omega)) ?_
  refine me0 (pc' := 14) (S' := .int (-100 : Int32) :: _) dm_X12_line_12 rfl rfl rfl rfl ?_
  refine me5 dm_X12_line_14 rfl rfl rfl ?_
  exact k _ rfl (Nat.le_of_ble_eq_true rfl)
set_option maxRecDepth 100000 in
set_option maxHeartbeats 40000000 in
theorem r_line_v0 {xt : mj_X} {d : Nat} {h W : mj_H} (hn : h.length = 102) {P : Option Value → mj_H → Prop}  (k : ∀ U, U.length = 25 → mj_sl U ≤ 3000000 → P (some (.int (-1 : Int32))) (h ++ (U ++ W))) : pgE xt (d + 20) 12 5 false (Option.some FieldType.int) (mj_dec prog_14_method_95_code) 0 [(0, .ref 102), (1, .int (0 : Int32))] [] (h ++ (rT ++ W)) P := by
  refine me1 (pc' := 1) dm_X12_line_0 rfl rfl rfl rfl ?_
  refine me_1f (pc' := 4) dm_X12_line_1 rfl (by decide) rfl ?_
  refine me1 (pc' := 5) dm_X12_line_4 rfl rfl rfl rfl ?_
  refine me1 (pc' := 6) dm_X12_line_5 rfl rfl rfl rfl ?_
  refine me3 (pc' := 9) dm_X12_line_6 (g_get (v := .int (0 : Int32)) (lu (n := 102) (j := 0) hn rfl) rfl rfl (Nat.le_of_ble_eq_true rfl)) rfl rfl rfl ?_
  refine me_2t (pc' := 15) dm_X12_line_9 rfl rfl ?_
  refine me1 (pc' := 16) dm_X12_line_15 rfl rfl rfl rfl ?_
  refine me0 (pc' := 17) (S' := .int (0 : Int32) :: _) dm_X12_line_16 rfl rfl rfl rfl ?_
  refine me3 (pc' := 20) dm_X12_line_17 (u_put (fs' := [.ref 103, .ref 104, .ref 105, .int (1 : Int32), .int (4 : Int32), .int (0 : Int32), .int (-1 : Int32), .int (0 : Int32), .int (500000 : Int32), .int (0 : Int32), .int (0 : Int32), .int (0 : Int32), .ref 106, .int (0 : Int32), .ref 107, .ref 108, .ref 109, .int (0 : Int32), .int (0 : Int32), .ref 110, .ref 111, .ref 112, .ref 113, .int (0 : Int32), .int (0 : Int32), .ref 114, .ref 115, .ref 116, .ref 117, .ref 118, .int (3 : Int32), .int (3 : Int32), .ref 119, .int (0 : Int32), .int (0 : Int32), .int (0 : Int32), .int (0 : Int32), .int (0 : Int32), .int (0 : Int32), .int (0 : Int32), .int (0 : Int32), .long (0 : Int64), .long (0 : Int64), .ref 120, .ref 121, .ref 122, .ref 123, .ref 124, .ref 125, .ref 126, .int (0 : Int32), .int (0 : Int32), .int (0 : Int32), .int (0 : Int32), .int (0 : Int32), .int (0 : Int32), .long (0 : Int64), .int (0 : Int32), .int (-1 : Int32), .int (-1 : Int32)]) (n := 102) (j := 0) hn rfl rfl rfl (Nat.le_of_ble_eq_true rfl) rfl (by decide) (fun z => by cases z) rfl (Nat.le_of_ble_eq_true rfl)) rfl rfl rfl ?_
  refine me1 (pc' := 21) dm_X12_line_20 rfl rfl rfl rfl ?_
  refine me3 (pc' := 24) dm_X12_line_21 (g_get (v := .int (1 : Int32)) (lu (n := 102) (j := 0) hn rfl) rfl rfl (Nat.le_of_ble_eq_true rfl)) rfl rfl rfl ?_
  refine me1 (pc' := 25) (L' := [(2, .int (1 : Int32)), (0, .ref 102), (1, .int (0 : Int32))]) dm_X12_line_24 rfl rfl rfl rfl ?_
  refine me1 (pc' := 26) dm_X12_line_25 rfl rfl rfl rfl ?_
  refine me3 (pc' := 29) dm_X12_line_26 (g_get (v := .int (4 : Int32)) (lu (n := 102) (j := 0) hn rfl) rfl rfl (Nat.le_of_ble_eq_true rfl)) rfl rfl rfl ?_
  refine me1 (pc' := 30) (L' := [(3, .int (4 : Int32)), (2, .int (1 : Int32)), (0, .ref 102), (1, .int (0 : Int32))]) dm_X12_line_29 rfl rfl rfl rfl ?_
  refine me1 (pc' := 31) dm_X12_line_30 rfl rfl rfl rfl ?_
  refine me3 (pc' := 34) dm_X12_line_31 (g_get (v := .int (0 : Int32)) (lu (n := 102) (j := 0) hn rfl) rfl rfl (Nat.le_of_ble_eq_true rfl)) rfl rfl rfl ?_
  refine me1 (pc' := 36) (L' := [(4, .int (0 : Int32)), (3, .int (4 : Int32)), (2, .int (1 : Int32)), (0, .ref 102), (1, .int (0 : Int32))]) dm_X12_line_34 rfl rfl rfl rfl ?_
  refine me1 (pc' := 37) dm_X12_line_36 rfl rfl rfl rfl ?_
  refine me0 (pc' := 38) (S' := .int (0 : Int32) :: _) dm_X12_line_37 rfl rfl rfl rfl ?_
  refine me3 (pc' := 41) dm_X12_line_38 (u_put (fs' := [.ref 103, .ref 104, .ref 105, .int (1 : Int32), .int (4 : Int32), .int (0 : Int32), .int (-1 : Int32), .int (0 : Int32), .int (500000 : Int32), .int (0 : Int32), .int (0 : Int32), .int (0 : Int32), .ref 106, .int (0 : Int32), .ref 107, .ref 108, .ref 109, .int (0 : Int32), .int (0 : Int32), .ref 110, .ref 111, .ref 112, .ref 113, .int (0 : Int32), .int (0 : Int32), .ref 114, .ref 115, .ref 116, .ref 117, .ref 118, .int (3 : Int32), .int (3 : Int32), .ref 119, .int (0 : Int32), .int (0 : Int32), .int (0 : Int32), .int (0 : Int32), .int (0 : Int32), .int (0 : Int32), .int (0 : Int32), .int (0 : Int32), .long (0 : Int64), .long (0 : Int64), .ref 120, .ref 121, .ref 122, .ref 123, .ref 124, .ref 125, .ref 126, .int (0 : Int32), .int (0 : Int32), .int (0 : Int32), .int (0 : Int32), .int (0 : Int32), .int (0 : Int32), .long (0 : Int64), .int (0 : Int32), .int (-1 : Int32), .int (-1 : Int32)]) (n := 102) (j := 0) hn rfl rfl rfl (Nat.le_of_ble_eq_true rfl) rfl (by decide) (fun z => by cases z) rfl (Nat.le_of_ble_eq_true rfl)) rfl rfl rfl ?_
  refine me1 (pc' := 42) dm_X12_line_41 rfl rfl rfl rfl ?_
  refine me0 (pc' := 43) (S' := .int (-1 : Int32) :: _) dm_X12_line_42 rfl rfl rfl rfl ?_
  refine me3 (pc' := 46) dm_X12_line_43 (u_put (fs' := [.ref 103, .ref 104, .ref 105, .int (1 : Int32), .int (4 : Int32), .int (0 : Int32), .int (-1 : Int32), .int (0 : Int32), .int (500000 : Int32), .int (0 : Int32), .int (0 : Int32), .int (0 : Int32), .ref 106, .int (0 : Int32), .ref 107, .ref 108, .ref 109, .int (0 : Int32), .int (0 : Int32), .ref 110, .ref 111, .ref 112, .ref 113, .int (0 : Int32), .int (0 : Int32), .ref 114, .ref 115, .ref 116, .ref 117, .ref 118, .int (3 : Int32), .int (3 : Int32), .ref 119, .int (0 : Int32), .int (0 : Int32), .int (0 : Int32), .int (0 : Int32), .int (0 : Int32), .int (0 : Int32), .int (0 : Int32), .int (0 : Int32), .long (0 : Int64), .long (0 : Int64), .ref 120, .ref 121, .ref 122, .ref 123, .ref 124, .ref 125, .ref 126, .int (0 : Int32), .int (0 : Int32), .int (0 : Int32), .int (0 : Int32), .int (0 : Int32), .int (0 : Int32), .long (0 : Int64), .int (0 : Int32), .int (-1 : Int32), .int (-1 : Int32)]) (n := 102) (j := 0) hn rfl rfl rfl (Nat.le_of_ble_eq_true rfl) rfl (by decide) (fun z => by cases z) rfl (Nat.le_of_ble_eq_true rfl)) rfl rfl rfl ?_
  refine me1 (pc' := 47) dm_X12_line_46 rfl rfl rfl rfl ?_
  refine me0 (pc' := 48) (S' := .int (0 : Int32) :: _) dm_X12_line_47 rfl rfl rfl rfl ?_
  refine me3 (pc' := 51) dm_X12_line_48 (u_put (fs' := [.ref 103, .ref 104, .ref 105, .int (1 : Int32), .int (4 : Int32), .int (0 : Int32), .int (-1 : Int32), .int (0 : Int32), .int (500000 : Int32), .int (0 : Int32), .int (0 : Int32), .int (0 : Int32), .ref 106, .int (0 : Int32), .ref 107, .ref 108, .ref 109, .int (0 : Int32), .int (0 : Int32), .ref 110, .ref 111, .ref 112, .ref 113, .int (0 : Int32), .int (0 : Int32), .ref 114, .ref 115, .ref 116, .ref 117, .ref 118, .int (3 : Int32), .int (3 : Int32), .ref 119, .int (0 : Int32), .int (0 : Int32), .int (0 : Int32), .int (0 : Int32), .int (0 : Int32), .int (0 : Int32), .int (0 : Int32), .int (0 : Int32), .long (0 : Int64), .long (0 : Int64), .ref 120, .ref 121, .ref 122, .ref 123, .ref 124, .ref 125, .ref 126, .int (0 : Int32), .int (0 : Int32), .int (0 : Int32), .int (0 : Int32), .int (0 : Int32), .int (0 : Int32), .long (0 : Int64), .int (0 : Int32), .int (-1 : Int32), .int (-1 : Int32)]) (n := 102) (j := 0) hn rfl rfl rfl (Nat.le_of_ble_eq_true rfl) rfl (by decide) (fun z => by cases z) rfl (Nat.le_of_ble_eq_true rfl)) rfl rfl rfl ?_
  refine me1 (pc' := 52) dm_X12_line_51 rfl rfl rfl rfl ?_
  refine me0 (pc' := 53) (S' := .int (0 : Int32) :: _) dm_X12_line_52 rfl rfl rfl rfl ?_
  refine me3 (pc' := 56) dm_X12_line_53 (u_put (fs' := [.ref 103, .ref 104, .ref 105, .int (1 : Int32), .int (4 : Int32), .int (0 : Int32), .int (-1 : Int32), .int (0 : Int32), .int (500000 : Int32), .int (0 : Int32), .int (0 : Int32), .int (0 : Int32), .ref 106, .int (0 : Int32), .ref 107, .ref 108, .ref 109, .int (0 : Int32), .int (0 : Int32), .ref 110, .ref 111, .ref 112, .ref 113, .int (0 : Int32), .int (0 : Int32), .ref 114, .ref 115, .ref 116, .ref 117, .ref 118, .int (3 : Int32), .int (3 : Int32), .ref 119, .int (0 : Int32), .int (0 : Int32), .int (0 : Int32), .int (0 : Int32), .int (0 : Int32), .int (0 : Int32), .int (0 : Int32), .int (0 : Int32), .long (0 : Int64), .long (0 : Int64), .ref 120, .ref 121, .ref 122, .ref 123, .ref 124, .ref 125, .ref 126, .int (0 : Int32), .int (0 : Int32), .int (0 : Int32), .int (0 : Int32), .int (0 : Int32), .int (0 : Int32), .long (0 : Int64), .int (0 : Int32), .int (-1 : Int32), .int (-1 : Int32)]) (n := 102) (j := 0) hn rfl rfl rfl (Nat.le_of_ble_eq_true rfl) rfl (by decide) (fun z => by cases z) rfl (Nat.le_of_ble_eq_true rfl)) rfl rfl rfl ?_
  refine me1 (pc' := 57) dm_X12_line_56 rfl rfl rfl rfl ?_
  refine me0 (pc' := 58) (S' := .int (0 : Int32) :: _) dm_X12_line_57 rfl rfl rfl rfl ?_
  refine me3 (pc' := 61) dm_X12_line_58 (u_put (fs' := [.ref 103, .ref 104, .ref 105, .int (1 : Int32), .int (4 : Int32), .int (0 : Int32), .int (-1 : Int32), .int (0 : Int32), .int (500000 : Int32), .int (0 : Int32), .int (0 : Int32), .int (0 : Int32), .ref 106, .int (0 : Int32), .ref 107, .ref 108, .ref 109, .int (0 : Int32), .int (0 : Int32), .ref 110, .ref 111, .ref 112, .ref 113, .int (0 : Int32), .int (0 : Int32), .ref 114, .ref 115, .ref 116, .ref 117, .ref 118, .int (3 : Int32), .int (3 : Int32), .ref 119, .int (0 : Int32), .int (0 : Int32), .int (0 : Int32), .int (0 : Int32), .int (0 : Int32), .int (0 : Int32), .int (0 : Int32), .int (0 : Int32), .long (0 : Int64), .long (0 : Int64), .ref 120, .ref 121, .ref 122, .ref 123, .ref 124, .ref 125, .ref 126, .int (0 : Int32), .int (0 : Int32), .int (0 : Int32), .int (0 : Int32), .int (0 : Int32), .int (0 : Int32), .long (0 : Int64), .int (0 : Int32), .int (-1 : Int32), .int (-1 : Int32)]) (n := 102) (j := 0) hn rfl rfl rfl (Nat.le_of_ble_eq_true rfl) rfl (by decide) (fun z => by cases z) rfl (Nat.le_of_ble_eq_true rfl)) rfl rfl rfl ?_
  refine me1 (pc' := 62) dm_X12_line_61 rfl rfl rfl rfl ?_
  refine me1 (pc' := 63) dm_X12_line_62 rfl rfl rfl rfl ?_
  refine me4 (pc' := 66) (L0 := [(0, .ref 102), (1, .int (0 : Int32))]) dm_X12_line_63 rfl (g_inv (As := [.int (0 : Int32)]) (lu (n := 102) (j := 0) hn rfl) rfl rfl rfl (Nat.le_of_ble_eq_true rfl)) pm_X12_read rfl (Nat.le_of_ble_eq_true rfl) rfl rfl rfl ?_
  refine me1 (pc' := 1) dm_X12_read_0 rfl rfl rfl rfl ?_
  refine me1 (pc' := 2) dm_X12_read_1 rfl rfl rfl rfl ?_
  refine me4 (pc' := 5) (L0 := [(0, .ref 102), (1, .int (0 : Int32))]) dm_X12_read_2 rfl (g_inv (As := [.int (0 : Int32)]) (lu (n := 102) (j := 0) hn rfl) rfl rfl rfl (Nat.le_of_ble_eq_true rfl)) pm_X12_begin rfl (Nat.le_of_ble_eq_true rfl) rfl rfl rfl ?_
  refine me1 (pc' := 1) dm_X12_begin_0 rfl rfl rfl rfl ?_
  refine me1 (pc' := 2) dm_X12_begin_1 rfl rfl rfl rfl ?_
  refine me3 (pc' := 5) dm_X12_begin_2 (u_put (fs' := [.ref 103, .ref 104, .ref 105, .int (1 : Int32), .int (4 : Int32), .int (0 : Int32), .int (-1 : Int32), .int (0 : Int32), .int (500000 : Int32), .int (0 : Int32), .int (0 : Int32), .int (0 : Int32), .ref 106, .int (0 : Int32), .ref 107, .ref 108, .ref 109, .int (0 : Int32), .int (0 : Int32), .ref 110, .ref 111, .ref 112, .ref 113, .int (0 : Int32), .int (0 : Int32), .ref 114, .ref 115, .ref 116, .ref 117, .ref 118, .int (3 : Int32), .int (3 : Int32), .ref 119, .int (0 : Int32), .int (0 : Int32), .int (0 : Int32), .int (0 : Int32), .int (0 : Int32), .int (0 : Int32), .int (0 : Int32), .int (0 : Int32), .long (0 : Int64), .long (0 : Int64), .ref 120, .ref 121, .ref 122, .ref 123, .ref 124, .ref 125, .ref 126, .int (0 : Int32), .int (0 : Int32), .int (0 : Int32), .int (0 : Int32), .int (0 : Int32), .int (0 : Int32), .long (0 : Int64), .int (0 : Int32), .int (-1 : Int32), .int (-1 : Int32)]) (n := 102) (j := 0) hn rfl rfl rfl (Nat.le_of_ble_eq_true rfl) rfl (by decide) (fun z => by cases z) rfl (Nat.le_of_ble_eq_true rfl)) rfl rfl rfl ?_
  refine me1 (pc' := 6) dm_X12_begin_5 rfl rfl rfl rfl ?_
  refine me0 (pc' := 7) (S' := .int (0 : Int32) :: _) dm_X12_begin_6 rfl rfl rfl rfl ?_
  refine me3 (pc' := 10) dm_X12_begin_7 (u_put (fs' := [.ref 103, .ref 104, .ref 105, .int (1 : Int32), .int (4 : Int32), .int (0 : Int32), .int (-1 : Int32), .int (0 : Int32), .int (500000 : Int32), .int (0 : Int32), .int (0 : Int32), .int (0 : Int32), .ref 106, .int (0 : Int32), .ref 107, .ref 108, .ref 109, .int (0 : Int32), .int (0 : Int32), .ref 110, .ref 111, .ref 112, .ref 113, .int (0 : Int32), .int (0 : Int32), .ref 114, .ref 115, .ref 116, .ref 117, .ref 118, .int (3 : Int32), .int (3 : Int32), .ref 119, .int (0 : Int32), .int (0 : Int32), .int (0 : Int32), .int (0 : Int32), .int (0 : Int32), .int (0 : Int32), .int (0 : Int32), .int (0 : Int32), .long (0 : Int64), .long (0 : Int64), .ref 120, .ref 121, .ref 122, .ref 123, .ref 124, .ref 125, .ref 126, .int (0 : Int32), .int (0 : Int32), .int (0 : Int32), .int (0 : Int32), .int (0 : Int32), .int (0 : Int32), .long (0 : Int64), .int (0 : Int32), .int (-1 : Int32), .int (-1 : Int32)]) (n := 102) (j := 0) hn rfl rfl rfl (Nat.le_of_ble_eq_true rfl) rfl (by decide) (fun z => by cases z) rfl (Nat.le_of_ble_eq_true rfl)) rfl rfl rfl ?_
  refine me1 (pc' := 11) dm_X12_begin_10 rfl rfl rfl rfl ?_
  refine me0 (pc' := 12) (S' := .int (0 : Int32) :: _) dm_X12_begin_11 rfl rfl rfl rfl ?_
  refine me3 (pc' := 15) dm_X12_begin_12 (u_put (fs' := [.ref 103, .ref 104, .ref 105, .int (1 : Int32), .int (4 : Int32), .int (0 : Int32), .int (-1 : Int32), .int (0 : Int32), .int (500000 : Int32), .int (0 : Int32), .int (0 : Int32), .int (0 : Int32), .ref 106, .int (0 : Int32), .ref 107, .ref 108, .ref 109, .int (0 : Int32), .int (0 : Int32), .ref 110, .ref 111, .ref 112, .ref 113, .int (0 : Int32), .int (0 : Int32), .ref 114, .ref 115, .ref 116, .ref 117, .ref 118, .int (3 : Int32), .int (3 : Int32), .ref 119, .int (0 : Int32), .int (0 : Int32), .int (0 : Int32), .int (0 : Int32), .int (0 : Int32), .int (0 : Int32), .int (0 : Int32), .int (0 : Int32), .long (0 : Int64), .long (0 : Int64), .ref 120, .ref 121, .ref 122, .ref 123, .ref 124, .ref 125, .ref 126, .int (0 : Int32), .int (0 : Int32), .int (0 : Int32), .int (0 : Int32), .int (0 : Int32), .int (0 : Int32), .long (0 : Int64), .int (0 : Int32), .int (-1 : Int32), .int (-1 : Int32)]) (n := 102) (j := 0) hn rfl rfl rfl (Nat.le_of_ble_eq_true rfl) rfl (by decide) (fun z => by cases z) rfl (Nat.le_of_ble_eq_true rfl)) rfl rfl rfl ?_
  refine me1 (pc' := 16) dm_X12_begin_15 rfl rfl rfl rfl ?_
  refine me0 (pc' := 17) (S' := .int (-1 : Int32) :: _) dm_X12_begin_16 rfl rfl rfl rfl ?_
  refine me3 (pc' := 20) dm_X12_begin_17 (u_put (fs' := [.ref 103, .ref 104, .ref 105, .int (1 : Int32), .int (4 : Int32), .int (0 : Int32), .int (-1 : Int32), .int (0 : Int32), .int (500000 : Int32), .int (0 : Int32), .int (0 : Int32), .int (0 : Int32), .ref 106, .int (0 : Int32), .ref 107, .ref 108, .ref 109, .int (0 : Int32), .int (0 : Int32), .ref 110, .ref 111, .ref 112, .ref 113, .int (0 : Int32), .int (0 : Int32), .ref 114, .ref 115, .ref 116, .ref 117, .ref 118, .int (3 : Int32), .int (3 : Int32), .ref 119, .int (0 : Int32), .int (0 : Int32), .int (0 : Int32), .int (0 : Int32), .int (-1 : Int32), .int (0 : Int32), .int (0 : Int32), .int (0 : Int32), .long (0 : Int64), .long (0 : Int64), .ref 120, .ref 121, .ref 122, .ref 123, .ref 124, .ref 125, .ref 126, .int (0 : Int32), .int (0 : Int32), .int (0 : Int32), .int (0 : Int32), .int (0 : Int32), .int (0 : Int32), .long (0 : Int64), .int (0 : Int32), .int (-1 : Int32), .int (-1 : Int32)]) (n := 102) (j := 0) hn rfl rfl rfl (Nat.le_of_ble_eq_true rfl) rfl (by decide) (fun z => by cases z) rfl (Nat.le_of_ble_eq_true rfl)) rfl rfl rfl ?_
  refine me1 (pc' := 21) dm_X12_begin_20 rfl rfl rfl rfl ?_
  refine me0 (pc' := 22) (S' := .long (0 : Int64) :: _) dm_X12_begin_21 rfl rfl rfl rfl ?_
  refine me3 (pc' := 25) dm_X12_begin_22 (u_put (fs' := [.ref 103, .ref 104, .ref 105, .int (1 : Int32), .int (4 : Int32), .int (0 : Int32), .int (-1 : Int32), .int (0 : Int32), .int (500000 : Int32), .int (0 : Int32), .int (0 : Int32), .int (0 : Int32), .ref 106, .int (0 : Int32), .ref 107, .ref 108, .ref 109, .int (0 : Int32), .int (0 : Int32), .ref 110, .ref 111, .ref 112, .ref 113, .int (0 : Int32), .int (0 : Int32), .ref 114, .ref 115, .ref 116, .ref 117, .ref 118, .int (3 : Int32), .int (3 : Int32), .ref 119, .int (0 : Int32), .int (0 : Int32), .int (0 : Int32), .int (0 : Int32), .int (-1 : Int32), .int (0 : Int32), .int (0 : Int32), .int (0 : Int32), .long (0 : Int64), .long (0 : Int64), .ref 120, .ref 121, .ref 122, .ref 123, .ref 124, .ref 125, .ref 126, .int (0 : Int32), .int (0 : Int32), .int (0 : Int32), .int (0 : Int32), .int (0 : Int32), .int (0 : Int32), .long (0 : Int64), .int (0 : Int32), .int (-1 : Int32), .int (-1 : Int32)]) (n := 102) (j := 0) hn rfl rfl rfl (Nat.le_of_ble_eq_true rfl) rfl (by decide) (fun z => by cases z) rfl (Nat.le_of_ble_eq_true rfl)) rfl rfl rfl ?_
  refine me1 (pc' := 26) dm_X12_begin_25 rfl rfl rfl rfl ?_
  refine me0 (pc' := 27) (S' := .int (0 : Int32) :: _) dm_X12_begin_26 rfl rfl rfl rfl ?_
  refine me3 (pc' := 30) dm_X12_begin_27 (u_put (fs' := [.ref 103, .ref 104, .ref 105, .int (1 : Int32), .int (4 : Int32), .int (0 : Int32), .int (-1 : Int32), .int (0 : Int32), .int (500000 : Int32), .int (0 : Int32), .int (0 : Int32), .int (0 : Int32), .ref 106, .int (0 : Int32), .ref 107, .ref 108, .ref 109, .int (0 : Int32), .int (0 : Int32), .ref 110, .ref 111, .ref 112, .ref 113, .int (0 : Int32), .int (0 : Int32), .ref 114, .ref 115, .ref 116, .ref 117, .ref 118, .int (3 : Int32), .int (3 : Int32), .ref 119, .int (0 : Int32), .int (0 : Int32), .int (0 : Int32), .int (0 : Int32), .int (-1 : Int32), .int (0 : Int32), .int (0 : Int32), .int (0 : Int32), .long (0 : Int64), .long (0 : Int64), .ref 120, .ref 121, .ref 122, .ref 123, .ref 124, .ref 125, .ref 126, .int (0 : Int32), .int (0 : Int32), .int (0 : Int32), .int (0 : Int32), .int (0 : Int32), .int (0 : Int32), .long (0 : Int64), .int (0 : Int32), .int (-1 : Int32), .int (-1 : Int32)]) (n := 102) (j := 0) hn rfl rfl rfl (Nat.le_of_ble_eq_true rfl) rfl (by decide) (fun z => by cases z) rfl (Nat.le_of_ble_eq_true rfl)) rfl rfl rfl ?_
  refine me1 (pc' := 31) dm_X12_begin_30 rfl rfl rfl rfl ?_
  refine me0 (pc' := 32) (S' := .int (-1 : Int32) :: _) dm_X12_begin_31 rfl rfl rfl rfl ?_
  refine me3 (pc' := 35) dm_X12_begin_32 (u_put (fs' := [.ref 103, .ref 104, .ref 105, .int (1 : Int32), .int (4 : Int32), .int (0 : Int32), .int (-1 : Int32), .int (0 : Int32), .int (500000 : Int32), .int (0 : Int32), .int (0 : Int32), .int (0 : Int32), .ref 106, .int (0 : Int32), .ref 107, .ref 108, .ref 109, .int (0 : Int32), .int (0 : Int32), .ref 110, .ref 111, .ref 112, .ref 113, .int (0 : Int32), .int (0 : Int32), .ref 114, .ref 115, .ref 116, .ref 117, .ref 118, .int (3 : Int32), .int (3 : Int32), .ref 119, .int (0 : Int32), .int (0 : Int32), .int (0 : Int32), .int (0 : Int32), .int (-1 : Int32), .int (0 : Int32), .int (0 : Int32), .int (0 : Int32), .long (0 : Int64), .long (0 : Int64), .ref 120, .ref 121, .ref 122, .ref 123, .ref 124, .ref 125, .ref 126, .int (0 : Int32), .int (0 : Int32), .int (-1 : Int32), .int (0 : Int32), .int (0 : Int32), .int (0 : Int32), .long (0 : Int64), .int (0 : Int32), .int (-1 : Int32), .int (-1 : Int32)]) (n := 102) (j := 0) hn rfl rfl rfl (Nat.le_of_ble_eq_true rfl) rfl (by decide) (fun z => by cases z) rfl (Nat.le_of_ble_eq_true rfl)) rfl rfl rfl ?_
  refine me1 (pc' := 36) dm_X12_begin_35 rfl rfl rfl rfl ?_
  refine me4 (pc' := 39) (L0 := [(0, .ref 102)]) dm_X12_begin_36 rfl (g_inv (As := []) (lu (n := 102) (j := 0) hn rfl) rfl rfl rfl (Nat.le_of_ble_eq_true rfl)) pm_X12_next rfl (Nat.le_of_ble_eq_true rfl) rfl rfl rfl ?_
  refine me1 (pc' := 1) dm_X12_next_0 rfl rfl rfl rfl ?_
  refine me3 (pc' := 4) dm_X12_next_1 (g_get (v := .int (0 : Int32)) (lu (n := 102) (j := 0) hn rfl) rfl rfl (Nat.le_of_ble_eq_true rfl)) rfl rfl rfl ?_
  refine me_1t (pc' := 22) dm_X12_next_4 rfl rfl ?_
  refine me1 (pc' := 23) dm_X12_next_22 rfl rfl rfl rfl ?_
  refine me3 (pc' := 26) dm_X12_next_23 (g_get (v := .int (0 : Int32)) (lu (n := 102) (j := 0) hn rfl) rfl rfl (Nat.le_of_ble_eq_true rfl)) rfl rfl rfl ?_
  refine me1 (pc' := 27) dm_X12_next_26 rfl rfl rfl rfl ?_
  refine me3 (pc' := 30) dm_X12_next_27 (g_get (v := .int (0 : Int32)) (lu (n := 102) (j := 0) hn rfl) rfl rfl (Nat.le_of_ble_eq_true rfl)) rfl rfl rfl ?_
  refine me_2t (pc' := 60) dm_X12_next_30 rfl rfl ?_
  refine me1 (pc' := 61) dm_X12_next_60 rfl rfl rfl rfl ?_
  refine me1 (pc' := 62) dm_X12_next_61 rfl rfl rfl rfl ?_
  refine me3 (pc' := 65) dm_X12_next_62 (g_get (v := .int (0 : Int32)) (lu (n := 102) (j := 0) hn rfl) rfl rfl (Nat.le_of_ble_eq_true rfl)) rfl rfl rfl ?_
  refine me3 (pc' := 68) dm_X12_next_65 (u_put (fs' := [.ref 103, .ref 104, .ref 105, .int (1 : Int32), .int (4 : Int32), .int (0 : Int32), .int (-1 : Int32), .int (0 : Int32), .int (500000 : Int32), .int (0 : Int32), .int (0 : Int32), .int (0 : Int32), .ref 106, .int (0 : Int32), .ref 107, .ref 108, .ref 109, .int (0 : Int32), .int (0 : Int32), .ref 110, .ref 111, .ref 112, .ref 113, .int (0 : Int32), .int (0 : Int32), .ref 114, .ref 115, .ref 116, .ref 117, .ref 118, .int (3 : Int32), .int (3 : Int32), .ref 119, .int (0 : Int32), .int (0 : Int32), .int (0 : Int32), .int (0 : Int32), .int (-1 : Int32), .int (0 : Int32), .int (0 : Int32), .int (0 : Int32), .long (0 : Int64), .long (0 : Int64), .ref 120, .ref 121, .ref 122, .ref 123, .ref 124, .ref 125, .ref 126, .int (0 : Int32), .int (0 : Int32), .int (-1 : Int32), .int (0 : Int32), .int (0 : Int32), .int (0 : Int32), .long (0 : Int64), .int (0 : Int32), .int (-1 : Int32), .int (-1 : Int32)]) (n := 102) (j := 0) hn rfl rfl rfl (Nat.le_of_ble_eq_true rfl) rfl (by decide) (fun z => by cases z) rfl (Nat.le_of_ble_eq_true rfl)) rfl rfl rfl ?_
  refine me1 (pc' := 69) dm_X12_next_68 rfl rfl rfl rfl ?_
  refine me1 (pc' := 70) dm_X12_next_69 rfl rfl rfl rfl ?_
  refine me3 (pc' := 73) dm_X12_next_70 (g_get (v := .int (0 : Int32)) (lu (n := 102) (j := 0) hn rfl) rfl rfl (Nat.le_of_ble_eq_true rfl)) rfl rfl rfl ?_
  refine me4 (pc' := 76) (L0 := [(0, .ref 102), (1, .int (0 : Int32))]) dm_X12_next_73 rfl (g_inv (As := [.int (0 : Int32)]) (lu (n := 102) (j := 0) hn rfl) rfl rfl rfl (Nat.le_of_ble_eq_true rfl)) pm_X12_byteAt rfl (Nat.le_of_ble_eq_true rfl) rfl rfl rfl ?_
  refine me1 (pc' := 1) dm_X12_byteAt_0 rfl rfl rfl rfl ?_
  refine me1 (pc' := 2) dm_X12_byteAt_1 rfl rfl rfl rfl ?_
  refine me3 (pc' := 5) dm_X12_byteAt_2 (g_get (v := .int (0 : Int32)) (lu (n := 102) (j := 0) hn rfl) rfl rfl (Nat.le_of_ble_eq_true rfl)) rfl rfl rfl ?_
  refine me_2t (pc' := 21) dm_X12_byteAt_5 rfl rfl ?_
  refine me0 (pc' := 22) (S' := .int (0 : Int32) :: _) dm_X12_byteAt_21 rfl rfl rfl rfl ?_
  refine me5 dm_X12_byteAt_22 rfl rfl rfl ?_
  refine me1 (pc' := 77) (L' := [(1, .int (0 : Int32)), (0, .ref 102)]) dm_X12_next_76 rfl rfl rfl rfl ?_
  refine me1 (pc' := 78) dm_X12_next_77 rfl rfl rfl rfl ?_
  refine me3 (pc' := 81) dm_X12_next_78 (g_get (v := .int (0 : Int32)) (lu (n := 102) (j := 0) hn rfl) rfl rfl (Nat.le_of_ble_eq_true rfl)) rfl rfl rfl ?_
  refine me1 (pc' := 82) dm_X12_next_81 rfl rfl rfl rfl ?_
  refine me3 (pc' := 85) dm_X12_next_82 (g_get (v := .int (0 : Int32)) (lu (n := 102) (j := 0) hn rfl) rfl rfl (Nat.le_of_ble_eq_true rfl)) rfl rfl rfl ?_
  refine me_2f (pc' := 88) dm_X12_next_85 rfl (by decide) rfl ?_
  refine me1 (pc' := 89) dm_X12_next_88 rfl rfl rfl rfl ?_
  refine me0 (pc' := 90) (S' := .int (0 : Int32) :: _) dm_X12_next_89 rfl rfl rfl rfl ?_
  refine me3 (pc' := 93) dm_X12_next_90 (u_put (fs' := [.ref 103, .ref 104, .ref 105, .int (1 : Int32), .int (4 : Int32), .int (0 : Int32), .int (-1 : Int32), .int (0 : Int32), .int (500000 : Int32), .int (0 : Int32), .int (0 : Int32), .int (0 : Int32), .ref 106, .int (0 : Int32), .ref 107, .ref 108, .ref 109, .int (0 : Int32), .int (0 : Int32), .ref 110, .ref 111, .ref 112, .ref 113, .int (0 : Int32), .int (0 : Int32), .ref 114, .ref 115, .ref 116, .ref 117, .ref 118, .int (3 : Int32), .int (3 : Int32), .ref 119, .int (0 : Int32), .int (0 : Int32), .int (0 : Int32), .int (0 : Int32), .int (-1 : Int32), .int (0 : Int32), .int (0 : Int32), .int (0 : Int32), .long (0 : Int64), .long (0 : Int64), .ref 120, .ref 121, .ref 122, .ref 123, .ref 124, .ref 125, .ref 126, .int (0 : Int32), .int (0 : Int32), .int (-1 : Int32), .int (0 : Int32), .int (0 : Int32), .int (0 : Int32), .long (0 : Int64), .int (0 : Int32), .int (-1 : Int32), .int (-1 : Int32)]) (n := 102) (j := 0) hn rfl rfl rfl (Nat.le_of_ble_eq_true rfl) rfl (by decide) (fun z => by cases z) rfl (Nat.le_of_ble_eq_true rfl)) rfl rfl rfl ?_
  refine me2 (pc' := 287) dm_X12_next_93 rfl rfl rfl ?_
  refine me5 dm_X12_next_287 rfl rfl rfl ?_
  refine me5 dm_X12_begin_39 rfl rfl rfl ?_
  refine me1 (pc' := 6) dm_X12_read_5 rfl rfl rfl rfl ?_
  refine me0 (pc' := 7) (S' := .int (0 : Int32) :: _) dm_X12_read_6 rfl rfl rfl rfl ?_
  refine me3 (pc' := 10) dm_X12_read_7 (u_put (fs' := [.ref 103, .ref 104, .ref 105, .int (1 : Int32), .int (4 : Int32), .int (0 : Int32), .int (-1 : Int32), .int (0 : Int32), .int (500000 : Int32), .int (0 : Int32), .int (0 : Int32), .int (0 : Int32), .ref 106, .int (0 : Int32), .ref 107, .ref 108, .ref 109, .int (0 : Int32), .int (0 : Int32), .ref 110, .ref 111, .ref 112, .ref 113, .int (0 : Int32), .int (0 : Int32), .ref 114, .ref 115, .ref 116, .ref 117, .ref 118, .int (3 : Int32), .int (3 : Int32), .ref 119, .int (0 : Int32), .int (0 : Int32), .int (0 : Int32), .int (0 : Int32), .int (-1 : Int32), .int (0 : Int32), .int (0 : Int32), .int (0 : Int32), .long (0 : Int64), .long (0 : Int64), .ref 120, .ref 121, .ref 122, .ref 123, .ref 124, .ref 125, .ref 126, .int (0 : Int32), .int (0 : Int32), .int (-1 : Int32), .int (0 : Int32), .int (0 : Int32), .int (0 : Int32), .long (0 : Int64), .int (0 : Int32), .int (-1 : Int32), .int (-1 : Int32)]) (n := 102) (j := 0) hn rfl rfl rfl (Nat.le_of_ble_eq_true rfl) rfl (by decide) (fun z => by cases z) rfl (Nat.le_of_ble_eq_true rfl)) rfl rfl rfl ?_
  refine me1 (pc' := 11) dm_X12_read_10 rfl rfl rfl rfl ?_
  refine me1 (pc' := 12) dm_X12_read_11 rfl rfl rfl rfl ?_
  refine me4 (pc' := 15) (L0 := [(0, .ref 102), (1, .int (0 : Int32))]) dm_X12_read_12 rfl (g_inv (As := [.int (0 : Int32)]) (lu (n := 102) (j := 0) hn rfl) rfl rfl rfl (Nat.le_of_ble_eq_true rfl)) pm_X12_isNaming rfl (Nat.le_of_ble_eq_true rfl) rfl rfl rfl ?_
  refine me1 (pc' := 1) dm_X12_isNaming_0 rfl rfl rfl rfl ?_
  refine me3 (pc' := 4) dm_X12_isNaming_1 (g_get (v := .int (0 : Int32)) (lu (n := 102) (j := 0) hn rfl) rfl rfl (Nat.le_of_ble_eq_true rfl)) rfl rfl rfl ?_
  refine me0 (pc' := 5) (S' := .int (3 : Int32) :: _) dm_X12_isNaming_4 rfl rfl rfl rfl ?_
  refine me_2f (pc' := 8) dm_X12_isNaming_5 rfl (by decide) rfl ?_
  refine me1 (pc' := 9) dm_X12_isNaming_8 rfl rfl rfl rfl ?_
  refine me3 (pc' := 12) dm_X12_isNaming_9 (g_get (v := .int (0 : Int32)) (lu (n := 102) (j := 0) hn rfl) rfl rfl (Nat.le_of_ble_eq_true rfl)) rfl rfl rfl ?_
  refine me0 (pc' := 13) (S' := .int (4 : Int32) :: _) dm_X12_isNaming_12 rfl rfl rfl rfl ?_
  refine me_2t (pc' := 20) dm_X12_isNaming_13 rfl rfl ?_
  refine me0 (pc' := 21) (S' := .int (0 : Int32) :: _) dm_X12_isNaming_20 rfl rfl rfl rfl ?_
  refine me1 (pc' := 22) (L' := [(2, .int (0 : Int32)), (0, .ref 102), (1, .int (0 : Int32))]) dm_X12_isNaming_21 rfl rfl rfl rfl ?_
  refine me1 (pc' := 23) dm_X12_isNaming_22 rfl rfl rfl rfl ?_
  refine me4 (pc' := 26) (L0 := [(0, .ref 102)]) dm_X12_isNaming_23 rfl (g_inv (As := []) (lu (n := 102) (j := 0) hn rfl) rfl rfl rfl (Nat.le_of_ble_eq_true rfl)) pm_X12_next rfl (Nat.le_of_ble_eq_true rfl) rfl rfl rfl ?_
  refine me1 (pc' := 1) dm_X12_next_0 rfl rfl rfl rfl ?_
  refine me3 (pc' := 4) dm_X12_next_1 (g_get (v := .int (0 : Int32)) (lu (n := 102) (j := 0) hn rfl) rfl rfl (Nat.le_of_ble_eq_true rfl)) rfl rfl rfl ?_
  refine me_1t (pc' := 22) dm_X12_next_4 rfl rfl ?_
  refine me1 (pc' := 23) dm_X12_next_22 rfl rfl rfl rfl ?_
  refine me3 (pc' := 26) dm_X12_next_23 (g_get (v := .int (0 : Int32)) (lu (n := 102) (j := 0) hn rfl) rfl rfl (Nat.le_of_ble_eq_true rfl)) rfl rfl rfl ?_
  refine me1 (pc' := 27) dm_X12_next_26 rfl rfl rfl rfl ?_
  refine me3 (pc' := 30) dm_X12_next_27 (g_get (v := .int (0 : Int32)) (lu (n := 102) (j := 0) hn rfl) rfl rfl (Nat.le_of_ble_eq_true rfl)) rfl rfl rfl ?_
  refine me_2t (pc' := 60) dm_X12_next_30 rfl rfl ?_
  refine me1 (pc' := 61) dm_X12_next_60 rfl rfl rfl rfl ?_
  refine me1 (pc' := 62) dm_X12_next_61 rfl rfl rfl rfl ?_
  refine me3 (pc' := 65) dm_X12_next_62 (g_get (v := .int (0 : Int32)) (lu (n := 102) (j := 0) hn rfl) rfl rfl (Nat.le_of_ble_eq_true rfl)) rfl rfl rfl ?_
  refine me3 (pc' := 68) dm_X12_next_65 (u_put (fs' := [.ref 103, .ref 104, .ref 105, .int (1 : Int32), .int (4 : Int32), .int (0 : Int32), .int (-1 : Int32), .int (0 : Int32), .int (500000 : Int32), .int (0 : Int32), .int (0 : Int32), .int (0 : Int32), .ref 106, .int (0 : Int32), .ref 107, .ref 108, .ref 109, .int (0 : Int32), .int (0 : Int32), .ref 110, .ref 111, .ref 112, .ref 113, .int (0 : Int32), .int (0 : Int32), .ref 114, .ref 115, .ref 116, .ref 117, .ref 118, .int (3 : Int32), .int (3 : Int32), .ref 119, .int (0 : Int32), .int (0 : Int32), .int (0 : Int32), .int (0 : Int32), .int (-1 : Int32), .int (0 : Int32), .int (0 : Int32), .int (0 : Int32), .long (0 : Int64), .long (0 : Int64), .ref 120, .ref 121, .ref 122, .ref 123, .ref 124, .ref 125, .ref 126, .int (0 : Int32), .int (0 : Int32), .int (-1 : Int32), .int (0 : Int32), .int (0 : Int32), .int (0 : Int32), .long (0 : Int64), .int (0 : Int32), .int (-1 : Int32), .int (-1 : Int32)]) (n := 102) (j := 0) hn rfl rfl rfl (Nat.le_of_ble_eq_true rfl) rfl (by decide) (fun z => by cases z) rfl (Nat.le_of_ble_eq_true rfl)) rfl rfl rfl ?_
  refine me1 (pc' := 69) dm_X12_next_68 rfl rfl rfl rfl ?_
  refine me1 (pc' := 70) dm_X12_next_69 rfl rfl rfl rfl ?_
  refine me3 (pc' := 73) dm_X12_next_70 (g_get (v := .int (0 : Int32)) (lu (n := 102) (j := 0) hn rfl) rfl rfl (Nat.le_of_ble_eq_true rfl)) rfl rfl rfl ?_
  refine me4 (pc' := 76) (L0 := [(0, .ref 102), (1, .int (0 : Int32))]) dm_X12_next_73 rfl (g_inv (As := [.int (0 : Int32)]) (lu (n := 102) (j := 0) hn rfl) rfl rfl rfl (Nat.le_of_ble_eq_true rfl)) pm_X12_byteAt rfl (Nat.le_of_ble_eq_true rfl) rfl rfl rfl ?_
  refine me1 (pc' := 1) dm_X12_byteAt_0 rfl rfl rfl rfl ?_
  refine me1 (pc' := 2) dm_X12_byteAt_1 rfl rfl rfl rfl ?_
  refine me3 (pc' := 5) dm_X12_byteAt_2 (g_get (v := .int (0 : Int32)) (lu (n := 102) (j := 0) hn rfl) rfl rfl (Nat.le_of_ble_eq_true rfl)) rfl rfl rfl ?_
  refine me_2t (pc' := 21) dm_X12_byteAt_5 rfl rfl ?_
  refine me0 (pc' := 22) (S' := .int (0 : Int32) :: _) dm_X12_byteAt_21 rfl rfl rfl rfl ?_
  refine me5 dm_X12_byteAt_22 rfl rfl rfl ?_
  refine me1 (pc' := 77) (L' := [(1, .int (0 : Int32)), (0, .ref 102)]) dm_X12_next_76 rfl rfl rfl rfl ?_
  refine me1 (pc' := 78) dm_X12_next_77 rfl rfl rfl rfl ?_
  refine me3 (pc' := 81) dm_X12_next_78 (g_get (v := .int (0 : Int32)) (lu (n := 102) (j := 0) hn rfl) rfl rfl (Nat.le_of_ble_eq_true rfl)) rfl rfl rfl ?_
  refine me1 (pc' := 82) dm_X12_next_81 rfl rfl rfl rfl ?_
  refine me3 (pc' := 85) dm_X12_next_82 (g_get (v := .int (0 : Int32)) (lu (n := 102) (j := 0) hn rfl) rfl rfl (Nat.le_of_ble_eq_true rfl)) rfl rfl rfl ?_
  refine me_2f (pc' := 88) dm_X12_next_85 rfl (by decide) rfl ?_
  refine me1 (pc' := 89) dm_X12_next_88 rfl rfl rfl rfl ?_
  refine me0 (pc' := 90) (S' := .int (0 : Int32) :: _) dm_X12_next_89 rfl rfl rfl rfl ?_
  refine me3 (pc' := 93) dm_X12_next_90 (u_put (fs' := [.ref 103, .ref 104, .ref 105, .int (1 : Int32), .int (4 : Int32), .int (0 : Int32), .int (-1 : Int32), .int (0 : Int32), .int (500000 : Int32), .int (0 : Int32), .int (0 : Int32), .int (0 : Int32), .ref 106, .int (0 : Int32), .ref 107, .ref 108, .ref 109, .int (0 : Int32), .int (0 : Int32), .ref 110, .ref 111, .ref 112, .ref 113, .int (0 : Int32), .int (0 : Int32), .ref 114, .ref 115, .ref 116, .ref 117, .ref 118, .int (3 : Int32), .int (3 : Int32), .ref 119, .int (0 : Int32), .int (0 : Int32), .int (0 : Int32), .int (0 : Int32), .int (-1 : Int32), .int (0 : Int32), .int (0 : Int32), .int (0 : Int32), .long (0 : Int64), .long (0 : Int64), .ref 120, .ref 121, .ref 122, .ref 123, .ref 124, .ref 125, .ref 126, .int (0 : Int32), .int (0 : Int32), .int (-1 : Int32), .int (0 : Int32), .int (0 : Int32), .int (0 : Int32), .long (0 : Int64), .int (0 : Int32), .int (-1 : Int32), .int (-1 : Int32)]) (n := 102) (j := 0) hn rfl rfl rfl (Nat.le_of_ble_eq_true rfl) rfl (by decide) (fun z => by cases z) rfl (Nat.le_of_ble_eq_true rfl)) rfl rfl rfl ?_
  refine me2 (pc' := 287) dm_X12_next_93 rfl rfl rfl ?_
  refine me5 dm_X12_next_287 rfl rfl rfl ?_
  refine me1 (pc' := 27) dm_X12_isNaming_26 rfl rfl rfl rfl ?_
  refine me_1t (pc' := 43) dm_X12_isNaming_27 rfl rfl ?_
  refine me0 (pc' := 44) (S' := .int (0 : Int32) :: _) dm_X12_isNaming_43 rfl rfl rfl rfl ?_
  refine me1 (pc' := 45) (L' := [(2, .int (0 : Int32)), (0, .ref 102), (1, .int (0 : Int32))]) dm_X12_isNaming_44 rfl rfl rfl rfl ?_
  refine me1 (pc' := 46) dm_X12_isNaming_45 rfl rfl rfl rfl ?_
  refine me1 (pc' := 47) dm_X12_isNaming_46 rfl rfl rfl rfl ?_
  refine me4 (pc' := 50) (L0 := [(0, .ref 102), (1, .int (0 : Int32))]) dm_X12_isNaming_47 rfl (g_inv (As := [.int (0 : Int32)]) (lu (n := 102) (j := 0) hn rfl) rfl rfl rfl (Nat.le_of_ble_eq_true rfl)) pm_X12_begin rfl (Nat.le_of_ble_eq_true rfl) rfl rfl rfl ?_
  refine me1 (pc' := 1) dm_X12_begin_0 rfl rfl rfl rfl ?_
  refine me1 (pc' := 2) dm_X12_begin_1 rfl rfl rfl rfl ?_
  refine me3 (pc' := 5) dm_X12_begin_2 (u_put (fs' := [.ref 103, .ref 104, .ref 105, .int (1 : Int32), .int (4 : Int32), .int (0 : Int32), .int (-1 : Int32), .int (0 : Int32), .int (500000 : Int32), .int (0 : Int32), .int (0 : Int32), .int (0 : Int32), .ref 106, .int (0 : Int32), .ref 107, .ref 108, .ref 109, .int (0 : Int32), .int (0 : Int32), .ref 110, .ref 111, .ref 112, .ref 113, .int (0 : Int32), .int (0 : Int32), .ref 114, .ref 115, .ref 116, .ref 117, .ref 118, .int (3 : Int32), .int (3 : Int32), .ref 119, .int (0 : Int32), .int (0 : Int32), .int (0 : Int32), .int (0 : Int32), .int (-1 : Int32), .int (0 : Int32), .int (0 : Int32), .int (0 : Int32), .long (0 : Int64), .long (0 : Int64), .ref 120, .ref 121, .ref 122, .ref 123, .ref 124, .ref 125, .ref 126, .int (0 : Int32), .int (0 : Int32), .int (-1 : Int32), .int (0 : Int32), .int (0 : Int32), .int (0 : Int32), .long (0 : Int64), .int (0 : Int32), .int (-1 : Int32), .int (-1 : Int32)]) (n := 102) (j := 0) hn rfl rfl rfl (Nat.le_of_ble_eq_true rfl) rfl (by decide) (fun z => by cases z) rfl (Nat.le_of_ble_eq_true rfl)) rfl rfl rfl ?_
  refine me1 (pc' := 6) dm_X12_begin_5 rfl rfl rfl rfl ?_
  refine me0 (pc' := 7) (S' := .int (0 : Int32) :: _) dm_X12_begin_6 rfl rfl rfl rfl ?_
  refine me3 (pc' := 10) dm_X12_begin_7 (u_put (fs' := [.ref 103, .ref 104, .ref 105, .int (1 : Int32), .int (4 : Int32), .int (0 : Int32), .int (-1 : Int32), .int (0 : Int32), .int (500000 : Int32), .int (0 : Int32), .int (0 : Int32), .int (0 : Int32), .ref 106, .int (0 : Int32), .ref 107, .ref 108, .ref 109, .int (0 : Int32), .int (0 : Int32), .ref 110, .ref 111, .ref 112, .ref 113, .int (0 : Int32), .int (0 : Int32), .ref 114, .ref 115, .ref 116, .ref 117, .ref 118, .int (3 : Int32), .int (3 : Int32), .ref 119, .int (0 : Int32), .int (0 : Int32), .int (0 : Int32), .int (0 : Int32), .int (-1 : Int32), .int (0 : Int32), .int (0 : Int32), .int (0 : Int32), .long (0 : Int64), .long (0 : Int64), .ref 120, .ref 121, .ref 122, .ref 123, .ref 124, .ref 125, .ref 126, .int (0 : Int32), .int (0 : Int32), .int (-1 : Int32), .int (0 : Int32), .int (0 : Int32), .int (0 : Int32), .long (0 : Int64), .int (0 : Int32), .int (-1 : Int32), .int (-1 : Int32)]) (n := 102) (j := 0) hn rfl rfl rfl (Nat.le_of_ble_eq_true rfl) rfl (by decide) (fun z => by cases z) rfl (Nat.le_of_ble_eq_true rfl)) rfl rfl rfl ?_
  refine me1 (pc' := 11) dm_X12_begin_10 rfl rfl rfl rfl ?_
  refine me0 (pc' := 12) (S' := .int (0 : Int32) :: _) dm_X12_begin_11 rfl rfl rfl rfl ?_
  refine me3 (pc' := 15) dm_X12_begin_12 (u_put (fs' := [.ref 103, .ref 104, .ref 105, .int (1 : Int32), .int (4 : Int32), .int (0 : Int32), .int (-1 : Int32), .int (0 : Int32), .int (500000 : Int32), .int (0 : Int32), .int (0 : Int32), .int (0 : Int32), .ref 106, .int (0 : Int32), .ref 107, .ref 108, .ref 109, .int (0 : Int32), .int (0 : Int32), .ref 110, .ref 111, .ref 112, .ref 113, .int (0 : Int32), .int (0 : Int32), .ref 114, .ref 115, .ref 116, .ref 117, .ref 118, .int (3 : Int32), .int (3 : Int32), .ref 119, .int (0 : Int32), .int (0 : Int32), .int (0 : Int32), .int (0 : Int32), .int (-1 : Int32), .int (0 : Int32), .int (0 : Int32), .int (0 : Int32), .long (0 : Int64), .long (0 : Int64), .ref 120, .ref 121, .ref 122, .ref 123, .ref 124, .ref 125, .ref 126, .int (0 : Int32), .int (0 : Int32), .int (-1 : Int32), .int (0 : Int32), .int (0 : Int32), .int (0 : Int32), .long (0 : Int64), .int (0 : Int32), .int (-1 : Int32), .int (-1 : Int32)]) (n := 102) (j := 0) hn rfl rfl rfl (Nat.le_of_ble_eq_true rfl) rfl (by decide) (fun z => by cases z) rfl (Nat.le_of_ble_eq_true rfl)) rfl rfl rfl ?_
  refine me1 (pc' := 16) dm_X12_begin_15 rfl rfl rfl rfl ?_
  refine me0 (pc' := 17) (S' := .int (-1 : Int32) :: _) dm_X12_begin_16 rfl rfl rfl rfl ?_
  refine me3 (pc' := 20) dm_X12_begin_17 (u_put (fs' := [.ref 103, .ref 104, .ref 105, .int (1 : Int32), .int (4 : Int32), .int (0 : Int32), .int (-1 : Int32), .int (0 : Int32), .int (500000 : Int32), .int (0 : Int32), .int (0 : Int32), .int (0 : Int32), .ref 106, .int (0 : Int32), .ref 107, .ref 108, .ref 109, .int (0 : Int32), .int (0 : Int32), .ref 110, .ref 111, .ref 112, .ref 113, .int (0 : Int32), .int (0 : Int32), .ref 114, .ref 115, .ref 116, .ref 117, .ref 118, .int (3 : Int32), .int (3 : Int32), .ref 119, .int (0 : Int32), .int (0 : Int32), .int (0 : Int32), .int (0 : Int32), .int (-1 : Int32), .int (0 : Int32), .int (0 : Int32), .int (0 : Int32), .long (0 : Int64), .long (0 : Int64), .ref 120, .ref 121, .ref 122, .ref 123, .ref 124, .ref 125, .ref 126, .int (0 : Int32), .int (0 : Int32), .int (-1 : Int32), .int (0 : Int32), .int (0 : Int32), .int (0 : Int32), .long (0 : Int64), .int (0 : Int32), .int (-1 : Int32), .int (-1 : Int32)]) (n := 102) (j := 0) hn rfl rfl rfl (Nat.le_of_ble_eq_true rfl) rfl (by decide) (fun z => by cases z) rfl (Nat.le_of_ble_eq_true rfl)) rfl rfl rfl ?_
  refine me1 (pc' := 21) dm_X12_begin_20 rfl rfl rfl rfl ?_
  refine me0 (pc' := 22) (S' := .long (0 : Int64) :: _) dm_X12_begin_21 rfl rfl rfl rfl ?_
  refine me3 (pc' := 25) dm_X12_begin_22 (u_put (fs' := [.ref 103, .ref 104, .ref 105, .int (1 : Int32), .int (4 : Int32), .int (0 : Int32), .int (-1 : Int32), .int (0 : Int32), .int (500000 : Int32), .int (0 : Int32), .int (0 : Int32), .int (0 : Int32), .ref 106, .int (0 : Int32), .ref 107, .ref 108, .ref 109, .int (0 : Int32), .int (0 : Int32), .ref 110, .ref 111, .ref 112, .ref 113, .int (0 : Int32), .int (0 : Int32), .ref 114, .ref 115, .ref 116, .ref 117, .ref 118, .int (3 : Int32), .int (3 : Int32), .ref 119, .int (0 : Int32), .int (0 : Int32), .int (0 : Int32), .int (0 : Int32), .int (-1 : Int32), .int (0 : Int32), .int (0 : Int32), .int (0 : Int32), .long (0 : Int64), .long (0 : Int64), .ref 120, .ref 121, .ref 122, .ref 123, .ref 124, .ref 125, .ref 126, .int (0 : Int32), .int (0 : Int32), .int (-1 : Int32), .int (0 : Int32), .int (0 : Int32), .int (0 : Int32), .long (0 : Int64), .int (0 : Int32), .int (-1 : Int32), .int (-1 : Int32)]) (n := 102) (j := 0) hn rfl rfl rfl (Nat.le_of_ble_eq_true rfl) rfl (by decide) (fun z => by cases z) rfl (Nat.le_of_ble_eq_true rfl)) rfl rfl rfl ?_
  refine me1 (pc' := 26) dm_X12_begin_25 rfl rfl rfl rfl ?_
  refine me0 (pc' := 27) (S' := .int (0 : Int32) :: _) dm_X12_begin_26 rfl rfl rfl rfl ?_
  refine me3 (pc' := 30) dm_X12_begin_27 (u_put (fs' := [.ref 103, .ref 104, .ref 105, .int (1 : Int32), .int (4 : Int32), .int (0 : Int32), .int (-1 : Int32), .int (0 : Int32), .int (500000 : Int32), .int (0 : Int32), .int (0 : Int32), .int (0 : Int32), .ref 106, .int (0 : Int32), .ref 107, .ref 108, .ref 109, .int (0 : Int32), .int (0 : Int32), .ref 110, .ref 111, .ref 112, .ref 113, .int (0 : Int32), .int (0 : Int32), .ref 114, .ref 115, .ref 116, .ref 117, .ref 118, .int (3 : Int32), .int (3 : Int32), .ref 119, .int (0 : Int32), .int (0 : Int32), .int (0 : Int32), .int (0 : Int32), .int (-1 : Int32), .int (0 : Int32), .int (0 : Int32), .int (0 : Int32), .long (0 : Int64), .long (0 : Int64), .ref 120, .ref 121, .ref 122, .ref 123, .ref 124, .ref 125, .ref 126, .int (0 : Int32), .int (0 : Int32), .int (-1 : Int32), .int (0 : Int32), .int (0 : Int32), .int (0 : Int32), .long (0 : Int64), .int (0 : Int32), .int (-1 : Int32), .int (-1 : Int32)]) (n := 102) (j := 0) hn rfl rfl rfl (Nat.le_of_ble_eq_true rfl) rfl (by decide) (fun z => by cases z) rfl (Nat.le_of_ble_eq_true rfl)) rfl rfl rfl ?_
  refine me1 (pc' := 31) dm_X12_begin_30 rfl rfl rfl rfl ?_
  refine me0 (pc' := 32) (S' := .int (-1 : Int32) :: _) dm_X12_begin_31 rfl rfl rfl rfl ?_
  refine me3 (pc' := 35) dm_X12_begin_32 (u_put (fs' := [.ref 103, .ref 104, .ref 105, .int (1 : Int32), .int (4 : Int32), .int (0 : Int32), .int (-1 : Int32), .int (0 : Int32), .int (500000 : Int32), .int (0 : Int32), .int (0 : Int32), .int (0 : Int32), .ref 106, .int (0 : Int32), .ref 107, .ref 108, .ref 109, .int (0 : Int32), .int (0 : Int32), .ref 110, .ref 111, .ref 112, .ref 113, .int (0 : Int32), .int (0 : Int32), .ref 114, .ref 115, .ref 116, .ref 117, .ref 118, .int (3 : Int32), .int (3 : Int32), .ref 119, .int (0 : Int32), .int (0 : Int32), .int (0 : Int32), .int (0 : Int32), .int (-1 : Int32), .int (0 : Int32), .int (0 : Int32), .int (0 : Int32), .long (0 : Int64), .long (0 : Int64), .ref 120, .ref 121, .ref 122, .ref 123, .ref 124, .ref 125, .ref 126, .int (0 : Int32), .int (0 : Int32), .int (-1 : Int32), .int (0 : Int32), .int (0 : Int32), .int (0 : Int32), .long (0 : Int64), .int (0 : Int32), .int (-1 : Int32), .int (-1 : Int32)]) (n := 102) (j := 0) hn rfl rfl rfl (Nat.le_of_ble_eq_true rfl) rfl (by decide) (fun z => by cases z) rfl (Nat.le_of_ble_eq_true rfl)) rfl rfl rfl ?_
  refine me1 (pc' := 36) dm_X12_begin_35 rfl rfl rfl rfl ?_
  refine me4 (pc' := 39) (L0 := [(0, .ref 102)]) dm_X12_begin_36 rfl (g_inv (As := []) (lu (n := 102) (j := 0) hn rfl) rfl rfl rfl (Nat.le_of_ble_eq_true rfl)) pm_X12_next rfl (Nat.le_of_ble_eq_true rfl) rfl rfl rfl ?_
  refine me1 (pc' := 1) dm_X12_next_0 rfl rfl rfl rfl ?_
  refine me3 (pc' := 4) dm_X12_next_1 (g_get (v := .int (0 : Int32)) (lu (n := 102) (j := 0) hn rfl) rfl rfl (Nat.le_of_ble_eq_true rfl)) rfl rfl rfl ?_
  refine me_1t (pc' := 22) dm_X12_next_4 rfl rfl ?_
  refine me1 (pc' := 23) dm_X12_next_22 rfl rfl rfl rfl ?_
  refine me3 (pc' := 26) dm_X12_next_23 (g_get (v := .int (0 : Int32)) (lu (n := 102) (j := 0) hn rfl) rfl rfl (Nat.le_of_ble_eq_true rfl)) rfl rfl rfl ?_
  refine me1 (pc' := 27) dm_X12_next_26 rfl rfl rfl rfl ?_
  refine me3 (pc' := 30) dm_X12_next_27 (g_get (v := .int (0 : Int32)) (lu (n := 102) (j := 0) hn rfl) rfl rfl (Nat.le_of_ble_eq_true rfl)) rfl rfl rfl ?_
  refine me_2t (pc' := 60) dm_X12_next_30 rfl rfl ?_
  refine me1 (pc' := 61) dm_X12_next_60 rfl rfl rfl rfl ?_
  refine me1 (pc' := 62) dm_X12_next_61 rfl rfl rfl rfl ?_
  refine me3 (pc' := 65) dm_X12_next_62 (g_get (v := .int (0 : Int32)) (lu (n := 102) (j := 0) hn rfl) rfl rfl (Nat.le_of_ble_eq_true rfl)) rfl rfl rfl ?_
  refine me3 (pc' := 68) dm_X12_next_65 (u_put (fs' := [.ref 103, .ref 104, .ref 105, .int (1 : Int32), .int (4 : Int32), .int (0 : Int32), .int (-1 : Int32), .int (0 : Int32), .int (500000 : Int32), .int (0 : Int32), .int (0 : Int32), .int (0 : Int32), .ref 106, .int (0 : Int32), .ref 107, .ref 108, .ref 109, .int (0 : Int32), .int (0 : Int32), .ref 110, .ref 111, .ref 112, .ref 113, .int (0 : Int32), .int (0 : Int32), .ref 114, .ref 115, .ref 116, .ref 117, .ref 118, .int (3 : Int32), .int (3 : Int32), .ref 119, .int (0 : Int32), .int (0 : Int32), .int (0 : Int32), .int (0 : Int32), .int (-1 : Int32), .int (0 : Int32), .int (0 : Int32), .int (0 : Int32), .long (0 : Int64), .long (0 : Int64), .ref 120, .ref 121, .ref 122, .ref 123, .ref 124, .ref 125, .ref 126, .int (0 : Int32), .int (0 : Int32), .int (-1 : Int32), .int (0 : Int32), .int (0 : Int32), .int (0 : Int32), .long (0 : Int64), .int (0 : Int32), .int (-1 : Int32), .int (-1 : Int32)]) (n := 102) (j := 0) hn rfl rfl rfl (Nat.le_of_ble_eq_true rfl) rfl (by decide) (fun z => by cases z) rfl (Nat.le_of_ble_eq_true rfl)) rfl rfl rfl ?_
  refine me1 (pc' := 69) dm_X12_next_68 rfl rfl rfl rfl ?_
  refine me1 (pc' := 70) dm_X12_next_69 rfl rfl rfl rfl ?_
  refine me3 (pc' := 73) dm_X12_next_70 (g_get (v := .int (0 : Int32)) (lu (n := 102) (j := 0) hn rfl) rfl rfl (Nat.le_of_ble_eq_true rfl)) rfl rfl rfl ?_
  refine me4 (pc' := 76) (L0 := [(0, .ref 102), (1, .int (0 : Int32))]) dm_X12_next_73 rfl (g_inv (As := [.int (0 : Int32)]) (lu (n := 102) (j := 0) hn rfl) rfl rfl rfl (Nat.le_of_ble_eq_true rfl)) pm_X12_byteAt rfl (Nat.le_of_ble_eq_true rfl) rfl rfl rfl ?_
  refine me1 (pc' := 1) dm_X12_byteAt_0 rfl rfl rfl rfl ?_
  refine me1 (pc' := 2) dm_X12_byteAt_1 rfl rfl rfl rfl ?_
  refine me3 (pc' := 5) dm_X12_byteAt_2 (g_get (v := .int (0 : Int32)) (lu (n := 102) (j := 0) hn rfl) rfl rfl (Nat.le_of_ble_eq_true rfl)) rfl rfl rfl ?_
  refine me_2t (pc' := 21) dm_X12_byteAt_5 rfl rfl ?_
  refine me0 (pc' := 22) (S' := .int (0 : Int32) :: _) dm_X12_byteAt_21 rfl rfl rfl rfl ?_
  refine me5 dm_X12_byteAt_22 rfl rfl rfl ?_
  refine me1 (pc' := 77) (L' := [(1, .int (0 : Int32)), (0, .ref 102)]) dm_X12_next_76 rfl rfl rfl rfl ?_
  refine me1 (pc' := 78) dm_X12_next_77 rfl rfl rfl rfl ?_
  refine me3 (pc' := 81) dm_X12_next_78 (g_get (v := .int (0 : Int32)) (lu (n := 102) (j := 0) hn rfl) rfl rfl (Nat.le_of_ble_eq_true rfl)) rfl rfl rfl ?_
  refine me1 (pc' := 82) dm_X12_next_81 rfl rfl rfl rfl ?_
  refine me3 (pc' := 85) dm_X12_next_82 (g_get (v := .int (0 : Int32)) (lu (n := 102) (j := 0) hn rfl) rfl rfl (Nat.le_of_ble_eq_true rfl)) rfl rfl rfl ?_
  refine me_2f (pc' := 88) dm_X12_next_85 rfl (by decide) rfl ?_
  refine me1 (pc' := 89) dm_X12_next_88 rfl rfl rfl rfl ?_
  refine me0 (pc' := 90) (S' := .int (0 : Int32) :: _) dm_X12_next_89 rfl rfl rfl rfl ?_
  refine me3 (pc' := 93) dm_X12_next_90 (u_put (fs' := [.ref 103, .ref 104, .ref 105, .int (1 : Int32), .int (4 : Int32), .int (0 : Int32), .int (-1 : Int32), .int (0 : Int32), .int (500000 : Int32), .int (0 : Int32), .int (0 : Int32), .int (0 : Int32), .ref 106, .int (0 : Int32), .ref 107, .ref 108, .ref 109, .int (0 : Int32), .int (0 : Int32), .ref 110, .ref 111, .ref 112, .ref 113, .int (0 : Int32), .int (0 : Int32), .ref 114, .ref 115, .ref 116, .ref 117, .ref 118, .int (3 : Int32), .int (3 : Int32), .ref 119, .int (0 : Int32), .int (0 : Int32), .int (0 : Int32), .int (0 : Int32), .int (-1 : Int32), .int (0 : Int32), .int (0 : Int32), .int (0 : Int32), .long (0 : Int64), .long (0 : Int64), .ref 120, .ref 121, .ref 122, .ref 123, .ref 124, .ref 125, .ref 126, .int (0 : Int32), .int (0 : Int32), .int (-1 : Int32), .int (0 : Int32), .int (0 : Int32), .int (0 : Int32), .long (0 : Int64), .int (0 : Int32), .int (-1 : Int32), .int (-1 : Int32)]) (n := 102) (j := 0) hn rfl rfl rfl (Nat.le_of_ble_eq_true rfl) rfl (by decide) (fun z => by cases z) rfl (Nat.le_of_ble_eq_true rfl)) rfl rfl rfl ?_
  refine me2 (pc' := 287) dm_X12_next_93 rfl rfl rfl ?_
  refine me5 dm_X12_next_287 rfl rfl rfl ?_
  refine me5 dm_X12_begin_39 rfl rfl rfl ?_
  refine me1 (pc' := 51) dm_X12_isNaming_50 rfl rfl rfl rfl ?_
  refine me5 dm_X12_isNaming_51 rfl rfl rfl ?_
  refine me1 (pc' := 16) (L' := [(2, .int (0 : Int32)), (0, .ref 102), (1, .int (0 : Int32))]) dm_X12_read_15 rfl rfl rfl rfl ?_
  refine me1 (pc' := 17) dm_X12_read_16 rfl rfl rfl rfl ?_
  refine me_1f (pc' := 20) dm_X12_read_17 rfl (by decide) rfl ?_
  refine me1 (pc' := 21) dm_X12_read_20 rfl rfl rfl rfl ?_
  refine me1 (pc' := 22) dm_X12_read_21 rfl rfl rfl rfl ?_
  refine me4 (pc' := 25) (L0 := [(0, .ref 102), (1, .int (0 : Int32))]) dm_X12_read_22 rfl (g_inv (As := [.int (0 : Int32)]) (lu (n := 102) (j := 0) hn rfl) rfl rfl rfl (Nat.le_of_ble_eq_true rfl)) pm_X12_isAmending rfl (Nat.le_of_ble_eq_true rfl) rfl rfl rfl ?_
  refine me1 (pc' := 1) dm_X12_isAmending_0 rfl rfl rfl rfl ?_
  refine me3 (pc' := 4) dm_X12_isAmending_1 (g_get (v := .int (0 : Int32)) (lu (n := 102) (j := 0) hn rfl) rfl rfl (Nat.le_of_ble_eq_true rfl)) rfl rfl rfl ?_
  refine me0 (pc' := 5) (S' := .int (3 : Int32) :: _) dm_X12_isAmending_4 rfl rfl rfl rfl ?_
  refine me_2f (pc' := 8) dm_X12_isAmending_5 rfl (by decide) rfl ?_
  refine me1 (pc' := 9) dm_X12_isAmending_8 rfl rfl rfl rfl ?_
  refine me3 (pc' := 12) dm_X12_isAmending_9 (g_get (v := .int (0 : Int32)) (lu (n := 102) (j := 0) hn rfl) rfl rfl (Nat.le_of_ble_eq_true rfl)) rfl rfl rfl ?_
  refine me0 (pc' := 13) (S' := .int (4 : Int32) :: _) dm_X12_isAmending_12 rfl rfl rfl rfl ?_
  refine me_2t (pc' := 20) dm_X12_isAmending_13 rfl rfl ?_
  refine me0 (pc' := 21) (S' := .int (0 : Int32) :: _) dm_X12_isAmending_20 rfl rfl rfl rfl ?_
  refine me1 (pc' := 22) (L' := [(2, .int (0 : Int32)), (0, .ref 102), (1, .int (0 : Int32))]) dm_X12_isAmending_21 rfl rfl rfl rfl ?_
  refine me1 (pc' := 23) dm_X12_isAmending_22 rfl rfl rfl rfl ?_
  refine me4 (pc' := 26) (L0 := [(0, .ref 102)]) dm_X12_isAmending_23 rfl (g_inv (As := []) (lu (n := 102) (j := 0) hn rfl) rfl rfl rfl (Nat.le_of_ble_eq_true rfl)) pm_X12_next rfl (Nat.le_of_ble_eq_true rfl) rfl rfl rfl ?_
  refine me1 (pc' := 1) dm_X12_next_0 rfl rfl rfl rfl ?_
  refine me3 (pc' := 4) dm_X12_next_1 (g_get (v := .int (0 : Int32)) (lu (n := 102) (j := 0) hn rfl) rfl rfl (Nat.le_of_ble_eq_true rfl)) rfl rfl rfl ?_
  refine me_1t (pc' := 22) dm_X12_next_4 rfl rfl ?_
  refine me1 (pc' := 23) dm_X12_next_22 rfl rfl rfl rfl ?_
  refine me3 (pc' := 26) dm_X12_next_23 (g_get (v := .int (0 : Int32)) (lu (n := 102) (j := 0) hn rfl) rfl rfl (Nat.le_of_ble_eq_true rfl)) rfl rfl rfl ?_
  refine me1 (pc' := 27) dm_X12_next_26 rfl rfl rfl rfl ?_
  refine me3 (pc' := 30) dm_X12_next_27 (g_get (v := .int (0 : Int32)) (lu (n := 102) (j := 0) hn rfl) rfl rfl (Nat.le_of_ble_eq_true rfl)) rfl rfl rfl ?_
  refine me_2t (pc' := 60) dm_X12_next_30 rfl rfl ?_
  refine me1 (pc' := 61) dm_X12_next_60 rfl rfl rfl rfl ?_
  refine me1 (pc' := 62) dm_X12_next_61 rfl rfl rfl rfl ?_
  refine me3 (pc' := 65) dm_X12_next_62 (g_get (v := .int (0 : Int32)) (lu (n := 102) (j := 0) hn rfl) rfl rfl (Nat.le_of_ble_eq_true rfl)) rfl rfl rfl ?_
  refine me3 (pc' := 68) dm_X12_next_65 (u_put (fs' := [.ref 103, .ref 104, .ref 105, .int (1 : Int32), .int (4 : Int32), .int (0 : Int32), .int (-1 : Int32), .int (0 : Int32), .int (500000 : Int32), .int (0 : Int32), .int (0 : Int32), .int (0 : Int32), .ref 106, .int (0 : Int32), .ref 107, .ref 108, .ref 109, .int (0 : Int32), .int (0 : Int32), .ref 110, .ref 111, .ref 112, .ref 113, .int (0 : Int32), .int (0 : Int32), .ref 114, .ref 115, .ref 116, .ref 117, .ref 118, .int (3 : Int32), .int (3 : Int32), .ref 119, .int (0 : Int32), .int (0 : Int32), .int (0 : Int32), .int (0 : Int32), .int (-1 : Int32), .int (0 : Int32), .int (0 : Int32), .int (0 : Int32), .long (0 : Int64), .long (0 : Int64), .ref 120, .ref 121, .ref 122, .ref 123, .ref 124, .ref 125, .ref 126, .int (0 : Int32), .int (0 : Int32), .int (-1 : Int32), .int (0 : Int32), .int (0 : Int32), .int (0 : Int32), .long (0 : Int64), .int (0 : Int32), .int (-1 : Int32), .int (-1 : Int32)]) (n := 102) (j := 0) hn rfl rfl rfl (Nat.le_of_ble_eq_true rfl) rfl (by decide) (fun z => by cases z) rfl (Nat.le_of_ble_eq_true rfl)) rfl rfl rfl ?_
  refine me1 (pc' := 69) dm_X12_next_68 rfl rfl rfl rfl ?_
  refine me1 (pc' := 70) dm_X12_next_69 rfl rfl rfl rfl ?_
  refine me3 (pc' := 73) dm_X12_next_70 (g_get (v := .int (0 : Int32)) (lu (n := 102) (j := 0) hn rfl) rfl rfl (Nat.le_of_ble_eq_true rfl)) rfl rfl rfl ?_
  refine me4 (pc' := 76) (L0 := [(0, .ref 102), (1, .int (0 : Int32))]) dm_X12_next_73 rfl (g_inv (As := [.int (0 : Int32)]) (lu (n := 102) (j := 0) hn rfl) rfl rfl rfl (Nat.le_of_ble_eq_true rfl)) pm_X12_byteAt rfl (Nat.le_of_ble_eq_true rfl) rfl rfl rfl ?_
  refine me1 (pc' := 1) dm_X12_byteAt_0 rfl rfl rfl rfl ?_
  refine me1 (pc' := 2) dm_X12_byteAt_1 rfl rfl rfl rfl ?_
  refine me3 (pc' := 5) dm_X12_byteAt_2 (g_get (v := .int (0 : Int32)) (lu (n := 102) (j := 0) hn rfl) rfl rfl (Nat.le_of_ble_eq_true rfl)) rfl rfl rfl ?_
  refine me_2t (pc' := 21) dm_X12_byteAt_5 rfl rfl ?_
  refine me0 (pc' := 22) (S' := .int (0 : Int32) :: _) dm_X12_byteAt_21 rfl rfl rfl rfl ?_
  refine me5 dm_X12_byteAt_22 rfl rfl rfl ?_
  refine me1 (pc' := 77) (L' := [(1, .int (0 : Int32)), (0, .ref 102)]) dm_X12_next_76 rfl rfl rfl rfl ?_
  refine me1 (pc' := 78) dm_X12_next_77 rfl rfl rfl rfl ?_
  refine me3 (pc' := 81) dm_X12_next_78 (g_get (v := .int (0 : Int32)) (lu (n := 102) (j := 0) hn rfl) rfl rfl (Nat.le_of_ble_eq_true rfl)) rfl rfl rfl ?_
  refine me1 (pc' := 82) dm_X12_next_81 rfl rfl rfl rfl ?_
  refine me3 (pc' := 85) dm_X12_next_82 (g_get (v := .int (0 : Int32)) (lu (n := 102) (j := 0) hn rfl) rfl rfl (Nat.le_of_ble_eq_true rfl)) rfl rfl rfl ?_
  refine me_2f (pc' := 88) dm_X12_next_85 rfl (by decide) rfl ?_
  refine me1 (pc' := 89) dm_X12_next_88 rfl rfl rfl rfl ?_
  refine me0 (pc' := 90) (S' := .int (0 : Int32) :: _) dm_X12_next_89 rfl rfl rfl rfl ?_
  refine me3 (pc' := 93) dm_X12_next_90 (u_put (fs' := [.ref 103, .ref 104, .ref 105, .int (1 : Int32), .int (4 : Int32), .int (0 : Int32), .int (-1 : Int32), .int (0 : Int32), .int (500000 : Int32), .int (0 : Int32), .int (0 : Int32), .int (0 : Int32), .ref 106, .int (0 : Int32), .ref 107, .ref 108, .ref 109, .int (0 : Int32), .int (0 : Int32), .ref 110, .ref 111, .ref 112, .ref 113, .int (0 : Int32), .int (0 : Int32), .ref 114, .ref 115, .ref 116, .ref 117, .ref 118, .int (3 : Int32), .int (3 : Int32), .ref 119, .int (0 : Int32), .int (0 : Int32), .int (0 : Int32), .int (0 : Int32), .int (-1 : Int32), .int (0 : Int32), .int (0 : Int32), .int (0 : Int32), .long (0 : Int64), .long (0 : Int64), .ref 120, .ref 121, .ref 122, .ref 123, .ref 124, .ref 125, .ref 126, .int (0 : Int32), .int (0 : Int32), .int (-1 : Int32), .int (0 : Int32), .int (0 : Int32), .int (0 : Int32), .long (0 : Int64), .int (0 : Int32), .int (-1 : Int32), .int (-1 : Int32)]) (n := 102) (j := 0) hn rfl rfl rfl (Nat.le_of_ble_eq_true rfl) rfl (by decide) (fun z => by cases z) rfl (Nat.le_of_ble_eq_true rfl)) rfl rfl rfl ?_
  refine me2 (pc' := 287) dm_X12_next_93 rfl rfl rfl ?_
  refine me5 dm_X12_next_287 rfl rfl rfl ?_
  refine me1 (pc' := 27) dm_X12_isAmending_26 rfl rfl rfl rfl ?_
  refine me_1t (pc' := 43) dm_X12_isAmending_27 rfl rfl ?_
  refine me0 (pc' := 44) (S' := .int (0 : Int32) :: _) dm_X12_isAmending_43 rfl rfl rfl rfl ?_
  refine me1 (pc' := 45) (L' := [(2, .int (0 : Int32)), (0, .ref 102), (1, .int (0 : Int32))]) dm_X12_isAmending_44 rfl rfl rfl rfl ?_
  refine me1 (pc' := 46) dm_X12_isAmending_45 rfl rfl rfl rfl ?_
  refine me4 (pc' := 49) (L0 := [(0, .ref 102)]) dm_X12_isAmending_46 rfl (g_inv (As := []) (lu (n := 102) (j := 0) hn rfl) rfl rfl rfl (Nat.le_of_ble_eq_true rfl)) pm_X12_next rfl (Nat.le_of_ble_eq_true rfl) rfl rfl rfl ?_
  refine me1 (pc' := 1) dm_X12_next_0 rfl rfl rfl rfl ?_
  refine me3 (pc' := 4) dm_X12_next_1 (g_get (v := .int (0 : Int32)) (lu (n := 102) (j := 0) hn rfl) rfl rfl (Nat.le_of_ble_eq_true rfl)) rfl rfl rfl ?_
  refine me_1t (pc' := 22) dm_X12_next_4 rfl rfl ?_
  refine me1 (pc' := 23) dm_X12_next_22 rfl rfl rfl rfl ?_
  refine me3 (pc' := 26) dm_X12_next_23 (g_get (v := .int (0 : Int32)) (lu (n := 102) (j := 0) hn rfl) rfl rfl (Nat.le_of_ble_eq_true rfl)) rfl rfl rfl ?_
  refine me1 (pc' := 27) dm_X12_next_26 rfl rfl rfl rfl ?_
  refine me3 (pc' := 30) dm_X12_next_27 (g_get (v := .int (0 : Int32)) (lu (n := 102) (j := 0) hn rfl) rfl rfl (Nat.le_of_ble_eq_true rfl)) rfl rfl rfl ?_
  refine me_2t (pc' := 60) dm_X12_next_30 rfl rfl ?_
  refine me1 (pc' := 61) dm_X12_next_60 rfl rfl rfl rfl ?_
  refine me1 (pc' := 62) dm_X12_next_61 rfl rfl rfl rfl ?_
  refine me3 (pc' := 65) dm_X12_next_62 (g_get (v := .int (0 : Int32)) (lu (n := 102) (j := 0) hn rfl) rfl rfl (Nat.le_of_ble_eq_true rfl)) rfl rfl rfl ?_
  refine me3 (pc' := 68) dm_X12_next_65 (u_put (fs' := [.ref 103, .ref 104, .ref 105, .int (1 : Int32), .int (4 : Int32), .int (0 : Int32), .int (-1 : Int32), .int (0 : Int32), .int (500000 : Int32), .int (0 : Int32), .int (0 : Int32), .int (0 : Int32), .ref 106, .int (0 : Int32), .ref 107, .ref 108, .ref 109, .int (0 : Int32), .int (0 : Int32), .ref 110, .ref 111, .ref 112, .ref 113, .int (0 : Int32), .int (0 : Int32), .ref 114, .ref 115, .ref 116, .ref 117, .ref 118, .int (3 : Int32), .int (3 : Int32), .ref 119, .int (0 : Int32), .int (0 : Int32), .int (0 : Int32), .int (0 : Int32), .int (-1 : Int32), .int (0 : Int32), .int (0 : Int32), .int (0 : Int32), .long (0 : Int64), .long (0 : Int64), .ref 120, .ref 121, .ref 122, .ref 123, .ref 124, .ref 125, .ref 126, .int (0 : Int32), .int (0 : Int32), .int (-1 : Int32), .int (0 : Int32), .int (0 : Int32), .int (0 : Int32), .long (0 : Int64), .int (0 : Int32), .int (-1 : Int32), .int (-1 : Int32)]) (n := 102) (j := 0) hn rfl rfl rfl (Nat.le_of_ble_eq_true rfl) rfl (by decide) (fun z => by cases z) rfl (Nat.le_of_ble_eq_true rfl)) rfl rfl rfl ?_
  refine me1 (pc' := 69) dm_X12_next_68 rfl rfl rfl rfl ?_
  refine me1 (pc' := 70) dm_X12_next_69 rfl rfl rfl rfl ?_
  refine me3 (pc' := 73) dm_X12_next_70 (g_get (v := .int (0 : Int32)) (lu (n := 102) (j := 0) hn rfl) rfl rfl (Nat.le_of_ble_eq_true rfl)) rfl rfl rfl ?_
  refine me4 (pc' := 76) (L0 := [(0, .ref 102), (1, .int (0 : Int32))]) dm_X12_next_73 rfl (g_inv (As := [.int (0 : Int32)]) (lu (n := 102) (j := 0) hn rfl) rfl rfl rfl (Nat.le_of_ble_eq_true rfl)) pm_X12_byteAt rfl (Nat.le_of_ble_eq_true rfl) rfl rfl rfl ?_
  refine me1 (pc' := 1) dm_X12_byteAt_0 rfl rfl rfl rfl ?_
  refine me1 (pc' := 2) dm_X12_byteAt_1 rfl rfl rfl rfl ?_
  refine me3 (pc' := 5) dm_X12_byteAt_2 (g_get (v := .int (0 : Int32)) (lu (n := 102) (j := 0) hn rfl) rfl rfl (Nat.le_of_ble_eq_true rfl)) rfl rfl rfl ?_
  refine me_2t (pc' := 21) dm_X12_byteAt_5 rfl rfl ?_
  refine me0 (pc' := 22) (S' := .int (0 : Int32) :: _) dm_X12_byteAt_21 rfl rfl rfl rfl ?_
  refine me5 dm_X12_byteAt_22 rfl rfl rfl ?_
  refine me1 (pc' := 77) (L' := [(1, .int (0 : Int32)), (0, .ref 102)]) dm_X12_next_76 rfl rfl rfl rfl ?_
  refine me1 (pc' := 78) dm_X12_next_77 rfl rfl rfl rfl ?_
  refine me3 (pc' := 81) dm_X12_next_78 (g_get (v := .int (0 : Int32)) (lu (n := 102) (j := 0) hn rfl) rfl rfl (Nat.le_of_ble_eq_true rfl)) rfl rfl rfl ?_
  refine me1 (pc' := 82) dm_X12_next_81 rfl rfl rfl rfl ?_
  refine me3 (pc' := 85) dm_X12_next_82 (g_get (v := .int (0 : Int32)) (lu (n := 102) (j := 0) hn rfl) rfl rfl (Nat.le_of_ble_eq_true rfl)) rfl rfl rfl ?_
  refine me_2f (pc' := 88) dm_X12_next_85 rfl (by decide) rfl ?_
  refine me1 (pc' := 89) dm_X12_next_88 rfl rfl rfl rfl ?_
  refine me0 (pc' := 90) (S' := .int (0 : Int32) :: _) dm_X12_next_89 rfl rfl rfl rfl ?_
  refine me3 (pc' := 93) dm_X12_next_90 (u_put (fs' := [.ref 103, .ref 104, .ref 105, .int (1 : Int32), .int (4 : Int32), .int (0 : Int32), .int (-1 : Int32), .int (0 : Int32), .int (500000 : Int32), .int (0 : Int32), .int (0 : Int32), .int (0 : Int32), .ref 106, .int (0 : Int32), .ref 107, .ref 108, .ref 109, .int (0 : Int32), .int (0 : Int32), .ref 110, .ref 111, .ref 112, .ref 113, .int (0 : Int32), .int (0 : Int32), .ref 114, .ref 115, .ref 116, .ref 117, .ref 118, .int (3 : Int32), .int (3 : Int32), .ref 119, .int (0 : Int32), .int (0 : Int32), .int (0 : Int32), .int (0 : Int32), .int (-1 : Int32), .int (0 : Int32), .int (0 : Int32), .int (0 : Int32), .long (0 : Int64), .long (0 : Int64), .ref 120, .ref 121, .ref 122, .ref 123, .ref 124, .ref 125, .ref 126, .int (0 : Int32), .int (0 : Int32), .int (-1 : Int32), .int (0 : Int32), .int (0 : Int32), .int (0 : Int32), .long (0 : Int64), .int (0 : Int32), .int (-1 : Int32), .int (-1 : Int32)]) (n := 102) (j := 0) hn rfl rfl rfl (Nat.le_of_ble_eq_true rfl) rfl (by decide) (fun z => by cases z) rfl (Nat.le_of_ble_eq_true rfl)) rfl rfl rfl ?_
  refine me2 (pc' := 287) dm_X12_next_93 rfl rfl rfl ?_
  refine me5 dm_X12_next_287 rfl rfl rfl ?_
  refine me1 (pc' := 50) dm_X12_isAmending_49 rfl rfl rfl rfl ?_
  refine me_1t (pc' := 66) dm_X12_isAmending_50 rfl rfl ?_
  refine me0 (pc' := 67) (S' := .int (0 : Int32) :: _) dm_X12_isAmending_66 rfl rfl rfl rfl ?_
  refine me1 (pc' := 68) (L' := [(2, .int (0 : Int32)), (0, .ref 102), (1, .int (0 : Int32))]) dm_X12_isAmending_67 rfl rfl rfl rfl ?_
  refine me1 (pc' := 69) dm_X12_isAmending_68 rfl rfl rfl rfl ?_
  refine me_1t (pc' := 76) dm_X12_isAmending_69 rfl rfl ?_
  refine me0 (pc' := 77) (S' := .int (0 : Int32) :: _) dm_X12_isAmending_76 rfl rfl rfl rfl ?_
  refine me1 (pc' := 78) (L' := [(3, .int (0 : Int32)), (2, .int (0 : Int32)), (0, .ref 102), (1, .int (0 : Int32))]) dm_X12_isAmending_77 rfl rfl rfl rfl ?_
  refine me1 (pc' := 79) dm_X12_isAmending_78 rfl rfl rfl rfl ?_
  refine me_1t (pc' := 173) dm_X12_isAmending_79 rfl rfl ?_
  refine me1 (pc' := 174) dm_X12_isAmending_173 rfl rfl rfl rfl ?_
  refine me_1t (pc' := 185) dm_X12_isAmending_174 rfl rfl ?_
  refine me1 (pc' := 186) dm_X12_isAmending_185 rfl rfl rfl rfl ?_
  refine me_1t (pc' := 206) dm_X12_isAmending_186 rfl rfl ?_
  refine me0 (pc' := 207) (S' := .int (0 : Int32) :: _) dm_X12_isAmending_206 rfl rfl rfl rfl ?_
  refine me1 (pc' := 208) (L' := [(2, .int (0 : Int32)), (3, .int (0 : Int32)), (0, .ref 102), (1, .int (0 : Int32))]) dm_X12_isAmending_207 rfl rfl rfl rfl ?_
  refine me1 (pc' := 209) dm_X12_isAmending_208 rfl rfl rfl rfl ?_
  refine me1 (pc' := 210) dm_X12_isAmending_209 rfl rfl rfl rfl ?_
  refine me4 (pc' := 213) (L0 := [(0, .ref 102), (1, .int (0 : Int32))]) dm_X12_isAmending_210 rfl (g_inv (As := [.int (0 : Int32)]) (lu (n := 102) (j := 0) hn rfl) rfl rfl rfl (Nat.le_of_ble_eq_true rfl)) pm_X12_begin rfl (Nat.le_of_ble_eq_true rfl) rfl rfl rfl ?_
  refine me1 (pc' := 1) dm_X12_begin_0 rfl rfl rfl rfl ?_
  refine me1 (pc' := 2) dm_X12_begin_1 rfl rfl rfl rfl ?_
  refine me3 (pc' := 5) dm_X12_begin_2 (u_put (fs' := [.ref 103, .ref 104, .ref 105, .int (1 : Int32), .int (4 : Int32), .int (0 : Int32), .int (-1 : Int32), .int (0 : Int32), .int (500000 : Int32), .int (0 : Int32), .int (0 : Int32), .int (0 : Int32), .ref 106, .int (0 : Int32), .ref 107, .ref 108, .ref 109, .int (0 : Int32), .int (0 : Int32), .ref 110, .ref 111, .ref 112, .ref 113, .int (0 : Int32), .int (0 : Int32), .ref 114, .ref 115, .ref 116, .ref 117, .ref 118, .int (3 : Int32), .int (3 : Int32), .ref 119, .int (0 : Int32), .int (0 : Int32), .int (0 : Int32), .int (0 : Int32), .int (-1 : Int32), .int (0 : Int32), .int (0 : Int32), .int (0 : Int32), .long (0 : Int64), .long (0 : Int64), .ref 120, .ref 121, .ref 122, .ref 123, .ref 124, .ref 125, .ref 126, .int (0 : Int32), .int (0 : Int32), .int (-1 : Int32), .int (0 : Int32), .int (0 : Int32), .int (0 : Int32), .long (0 : Int64), .int (0 : Int32), .int (-1 : Int32), .int (-1 : Int32)]) (n := 102) (j := 0) hn rfl rfl rfl (Nat.le_of_ble_eq_true rfl) rfl (by decide) (fun z => by cases z) rfl (Nat.le_of_ble_eq_true rfl)) rfl rfl rfl ?_
  refine me1 (pc' := 6) dm_X12_begin_5 rfl rfl rfl rfl ?_
  refine me0 (pc' := 7) (S' := .int (0 : Int32) :: _) dm_X12_begin_6 rfl rfl rfl rfl ?_
  refine me3 (pc' := 10) dm_X12_begin_7 (u_put (fs' := [.ref 103, .ref 104, .ref 105, .int (1 : Int32), .int (4 : Int32), .int (0 : Int32), .int (-1 : Int32), .int (0 : Int32), .int (500000 : Int32), .int (0 : Int32), .int (0 : Int32), .int (0 : Int32), .ref 106, .int (0 : Int32), .ref 107, .ref 108, .ref 109, .int (0 : Int32), .int (0 : Int32), .ref 110, .ref 111, .ref 112, .ref 113, .int (0 : Int32), .int (0 : Int32), .ref 114, .ref 115, .ref 116, .ref 117, .ref 118, .int (3 : Int32), .int (3 : Int32), .ref 119, .int (0 : Int32), .int (0 : Int32), .int (0 : Int32), .int (0 : Int32), .int (-1 : Int32), .int (0 : Int32), .int (0 : Int32), .int (0 : Int32), .long (0 : Int64), .long (0 : Int64), .ref 120, .ref 121, .ref 122, .ref 123, .ref 124, .ref 125, .ref 126, .int (0 : Int32), .int (0 : Int32), .int (-1 : Int32), .int (0 : Int32), .int (0 : Int32), .int (0 : Int32), .long (0 : Int64), .int (0 : Int32), .int (-1 : Int32), .int (-1 : Int32)]) (n := 102) (j := 0) hn rfl rfl rfl (Nat.le_of_ble_eq_true rfl) rfl (by decide) (fun z => by cases z) rfl (Nat.le_of_ble_eq_true rfl)) rfl rfl rfl ?_
  refine me1 (pc' := 11) dm_X12_begin_10 rfl rfl rfl rfl ?_
  refine me0 (pc' := 12) (S' := .int (0 : Int32) :: _) dm_X12_begin_11 rfl rfl rfl rfl ?_
  refine me3 (pc' := 15) dm_X12_begin_12 (u_put (fs' := [.ref 103, .ref 104, .ref 105, .int (1 : Int32), .int (4 : Int32), .int (0 : Int32), .int (-1 : Int32), .int (0 : Int32), .int (500000 : Int32), .int (0 : Int32), .int (0 : Int32), .int (0 : Int32), .ref 106, .int (0 : Int32), .ref 107, .ref 108, .ref 109, .int (0 : Int32), .int (0 : Int32), .ref 110, .ref 111, .ref 112, .ref 113, .int (0 : Int32), .int (0 : Int32), .ref 114, .ref 115, .ref 116, .ref 117, .ref 118, .int (3 : Int32), .int (3 : Int32), .ref 119, .int (0 : Int32), .int (0 : Int32), .int (0 : Int32), .int (0 : Int32), .int (-1 : Int32), .int (0 : Int32), .int (0 : Int32), .int (0 : Int32), .long (0 : Int64), .long (0 : Int64), .ref 120, .ref 121, .ref 122, .ref 123, .ref 124, .ref 125, .ref 126, .int (0 : Int32), .int (0 : Int32), .int (-1 : Int32), .int (0 : Int32), .int (0 : Int32), .int (0 : Int32), .long (0 : Int64), .int (0 : Int32), .int (-1 : Int32), .int (-1 : Int32)]) (n := 102) (j := 0) hn rfl rfl rfl (Nat.le_of_ble_eq_true rfl) rfl (by decide) (fun z => by cases z) rfl (Nat.le_of_ble_eq_true rfl)) rfl rfl rfl ?_
  refine me1 (pc' := 16) dm_X12_begin_15 rfl rfl rfl rfl ?_
  refine me0 (pc' := 17) (S' := .int (-1 : Int32) :: _) dm_X12_begin_16 rfl rfl rfl rfl ?_
  refine me3 (pc' := 20) dm_X12_begin_17 (u_put (fs' := [.ref 103, .ref 104, .ref 105, .int (1 : Int32), .int (4 : Int32), .int (0 : Int32), .int (-1 : Int32), .int (0 : Int32), .int (500000 : Int32), .int (0 : Int32), .int (0 : Int32), .int (0 : Int32), .ref 106, .int (0 : Int32), .ref 107, .ref 108, .ref 109, .int (0 : Int32), .int (0 : Int32), .ref 110, .ref 111, .ref 112, .ref 113, .int (0 : Int32), .int (0 : Int32), .ref 114, .ref 115, .ref 116, .ref 117, .ref 118, .int (3 : Int32), .int (3 : Int32), .ref 119, .int (0 : Int32), .int (0 : Int32), .int (0 : Int32), .int (0 : Int32), .int (-1 : Int32), .int (0 : Int32), .int (0 : Int32), .int (0 : Int32), .long (0 : Int64), .long (0 : Int64), .ref 120, .ref 121, .ref 122, .ref 123, .ref 124, .ref 125, .ref 126, .int (0 : Int32), .int (0 : Int32), .int (-1 : Int32), .int (0 : Int32), .int (0 : Int32), .int (0 : Int32), .long (0 : Int64), .int (0 : Int32), .int (-1 : Int32), .int (-1 : Int32)]) (n := 102) (j := 0) hn rfl rfl rfl (Nat.le_of_ble_eq_true rfl) rfl (by decide) (fun z => by cases z) rfl (Nat.le_of_ble_eq_true rfl)) rfl rfl rfl ?_
  refine me1 (pc' := 21) dm_X12_begin_20 rfl rfl rfl rfl ?_
  refine me0 (pc' := 22) (S' := .long (0 : Int64) :: _) dm_X12_begin_21 rfl rfl rfl rfl ?_
  refine me3 (pc' := 25) dm_X12_begin_22 (u_put (fs' := [.ref 103, .ref 104, .ref 105, .int (1 : Int32), .int (4 : Int32), .int (0 : Int32), .int (-1 : Int32), .int (0 : Int32), .int (500000 : Int32), .int (0 : Int32), .int (0 : Int32), .int (0 : Int32), .ref 106, .int (0 : Int32), .ref 107, .ref 108, .ref 109, .int (0 : Int32), .int (0 : Int32), .ref 110, .ref 111, .ref 112, .ref 113, .int (0 : Int32), .int (0 : Int32), .ref 114, .ref 115, .ref 116, .ref 117, .ref 118, .int (3 : Int32), .int (3 : Int32), .ref 119, .int (0 : Int32), .int (0 : Int32), .int (0 : Int32), .int (0 : Int32), .int (-1 : Int32), .int (0 : Int32), .int (0 : Int32), .int (0 : Int32), .long (0 : Int64), .long (0 : Int64), .ref 120, .ref 121, .ref 122, .ref 123, .ref 124, .ref 125, .ref 126, .int (0 : Int32), .int (0 : Int32), .int (-1 : Int32), .int (0 : Int32), .int (0 : Int32), .int (0 : Int32), .long (0 : Int64), .int (0 : Int32), .int (-1 : Int32), .int (-1 : Int32)]) (n := 102) (j := 0) hn rfl rfl rfl (Nat.le_of_ble_eq_true rfl) rfl (by decide) (fun z => by cases z) rfl (Nat.le_of_ble_eq_true rfl)) rfl rfl rfl ?_
  refine me1 (pc' := 26) dm_X12_begin_25 rfl rfl rfl rfl ?_
  refine me0 (pc' := 27) (S' := .int (0 : Int32) :: _) dm_X12_begin_26 rfl rfl rfl rfl ?_
  refine me3 (pc' := 30) dm_X12_begin_27 (u_put (fs' := [.ref 103, .ref 104, .ref 105, .int (1 : Int32), .int (4 : Int32), .int (0 : Int32), .int (-1 : Int32), .int (0 : Int32), .int (500000 : Int32), .int (0 : Int32), .int (0 : Int32), .int (0 : Int32), .ref 106, .int (0 : Int32), .ref 107, .ref 108, .ref 109, .int (0 : Int32), .int (0 : Int32), .ref 110, .ref 111, .ref 112, .ref 113, .int (0 : Int32), .int (0 : Int32), .ref 114, .ref 115, .ref 116, .ref 117, .ref 118, .int (3 : Int32), .int (3 : Int32), .ref 119, .int (0 : Int32), .int (0 : Int32), .int (0 : Int32), .int (0 : Int32), .int (-1 : Int32), .int (0 : Int32), .int (0 : Int32), .int (0 : Int32), .long (0 : Int64), .long (0 : Int64), .ref 120, .ref 121, .ref 122, .ref 123, .ref 124, .ref 125, .ref 126, .int (0 : Int32), .int (0 : Int32), .int (-1 : Int32), .int (0 : Int32), .int (0 : Int32), .int (0 : Int32), .long (0 : Int64), .int (0 : Int32), .int (-1 : Int32), .int (-1 : Int32)]) (n := 102) (j := 0) hn rfl rfl rfl (Nat.le_of_ble_eq_true rfl) rfl (by decide) (fun z => by cases z) rfl (Nat.le_of_ble_eq_true rfl)) rfl rfl rfl ?_
  refine me1 (pc' := 31) dm_X12_begin_30 rfl rfl rfl rfl ?_
  refine me0 (pc' := 32) (S' := .int (-1 : Int32) :: _) dm_X12_begin_31 rfl rfl rfl rfl ?_
  refine me3 (pc' := 35) dm_X12_begin_32 (u_put (fs' := [.ref 103, .ref 104, .ref 105, .int (1 : Int32), .int (4 : Int32), .int (0 : Int32), .int (-1 : Int32), .int (0 : Int32), .int (500000 : Int32), .int (0 : Int32), .int (0 : Int32), .int (0 : Int32), .ref 106, .int (0 : Int32), .ref 107, .ref 108, .ref 109, .int (0 : Int32), .int (0 : Int32), .ref 110, .ref 111, .ref 112, .ref 113, .int (0 : Int32), .int (0 : Int32), .ref 114, .ref 115, .ref 116, .ref 117, .ref 118, .int (3 : Int32), .int (3 : Int32), .ref 119, .int (0 : Int32), .int (0 : Int32), .int (0 : Int32), .int (0 : Int32), .int (-1 : Int32), .int (0 : Int32), .int (0 : Int32), .int (0 : Int32), .long (0 : Int64), .long (0 : Int64), .ref 120, .ref 121, .ref 122, .ref 123, .ref 124, .ref 125, .ref 126, .int (0 : Int32), .int (0 : Int32), .int (-1 : Int32), .int (0 : Int32), .int (0 : Int32), .int (0 : Int32), .long (0 : Int64), .int (0 : Int32), .int (-1 : Int32), .int (-1 : Int32)]) (n := 102) (j := 0) hn rfl rfl rfl (Nat.le_of_ble_eq_true rfl) rfl (by decide) (fun z => by cases z) rfl (Nat.le_of_ble_eq_true rfl)) rfl rfl rfl ?_
  refine me1 (pc' := 36) dm_X12_begin_35 rfl rfl rfl rfl ?_
  refine me4 (pc' := 39) (L0 := [(0, .ref 102)]) dm_X12_begin_36 rfl (g_inv (As := []) (lu (n := 102) (j := 0) hn rfl) rfl rfl rfl (Nat.le_of_ble_eq_true rfl)) pm_X12_next rfl (Nat.le_of_ble_eq_true rfl) rfl rfl rfl ?_
  refine me1 (pc' := 1) dm_X12_next_0 rfl rfl rfl rfl ?_
  refine me3 (pc' := 4) dm_X12_next_1 (g_get (v := .int (0 : Int32)) (lu (n := 102) (j := 0) hn rfl) rfl rfl (Nat.le_of_ble_eq_true rfl)) rfl rfl rfl ?_
  refine me_1t (pc' := 22) dm_X12_next_4 rfl rfl ?_
  refine me1 (pc' := 23) dm_X12_next_22 rfl rfl rfl rfl ?_
  refine me3 (pc' := 26) dm_X12_next_23 (g_get (v := .int (0 : Int32)) (lu (n := 102) (j := 0) hn rfl) rfl rfl (Nat.le_of_ble_eq_true rfl)) rfl rfl rfl ?_
  refine me1 (pc' := 27) dm_X12_next_26 rfl rfl rfl rfl ?_
  refine me3 (pc' := 30) dm_X12_next_27 (g_get (v := .int (0 : Int32)) (lu (n := 102) (j := 0) hn rfl) rfl rfl (Nat.le_of_ble_eq_true rfl)) rfl rfl rfl ?_
  refine me_2t (pc' := 60) dm_X12_next_30 rfl rfl ?_
  refine me1 (pc' := 61) dm_X12_next_60 rfl rfl rfl rfl ?_
  refine me1 (pc' := 62) dm_X12_next_61 rfl rfl rfl rfl ?_
  refine me3 (pc' := 65) dm_X12_next_62 (g_get (v := .int (0 : Int32)) (lu (n := 102) (j := 0) hn rfl) rfl rfl (Nat.le_of_ble_eq_true rfl)) rfl rfl rfl ?_
  refine me3 (pc' := 68) dm_X12_next_65 (u_put (fs' := [.ref 103, .ref 104, .ref 105, .int (1 : Int32), .int (4 : Int32), .int (0 : Int32), .int (-1 : Int32), .int (0 : Int32), .int (500000 : Int32), .int (0 : Int32), .int (0 : Int32), .int (0 : Int32), .ref 106, .int (0 : Int32), .ref 107, .ref 108, .ref 109, .int (0 : Int32), .int (0 : Int32), .ref 110, .ref 111, .ref 112, .ref 113, .int (0 : Int32), .int (0 : Int32), .ref 114, .ref 115, .ref 116, .ref 117, .ref 118, .int (3 : Int32), .int (3 : Int32), .ref 119, .int (0 : Int32), .int (0 : Int32), .int (0 : Int32), .int (0 : Int32), .int (-1 : Int32), .int (0 : Int32), .int (0 : Int32), .int (0 : Int32), .long (0 : Int64), .long (0 : Int64), .ref 120, .ref 121, .ref 122, .ref 123, .ref 124, .ref 125, .ref 126, .int (0 : Int32), .int (0 : Int32), .int (-1 : Int32), .int (0 : Int32), .int (0 : Int32), .int (0 : Int32), .long (0 : Int64), .int (0 : Int32), .int (-1 : Int32), .int (-1 : Int32)]) (n := 102) (j := 0) hn rfl rfl rfl (Nat.le_of_ble_eq_true rfl) rfl (by decide) (fun z => by cases z) rfl (Nat.le_of_ble_eq_true rfl)) rfl rfl rfl ?_
  refine me1 (pc' := 69) dm_X12_next_68 rfl rfl rfl rfl ?_
  refine me1 (pc' := 70) dm_X12_next_69 rfl rfl rfl rfl ?_
  refine me3 (pc' := 73) dm_X12_next_70 (g_get (v := .int (0 : Int32)) (lu (n := 102) (j := 0) hn rfl) rfl rfl (Nat.le_of_ble_eq_true rfl)) rfl rfl rfl ?_
  refine me4 (pc' := 76) (L0 := [(0, .ref 102), (1, .int (0 : Int32))]) dm_X12_next_73 rfl (g_inv (As := [.int (0 : Int32)]) (lu (n := 102) (j := 0) hn rfl) rfl rfl rfl (Nat.le_of_ble_eq_true rfl)) pm_X12_byteAt rfl (Nat.le_of_ble_eq_true rfl) rfl rfl rfl ?_
  refine me1 (pc' := 1) dm_X12_byteAt_0 rfl rfl rfl rfl ?_
  refine me1 (pc' := 2) dm_X12_byteAt_1 rfl rfl rfl rfl ?_
  refine me3 (pc' := 5) dm_X12_byteAt_2 (g_get (v := .int (0 : Int32)) (lu (n := 102) (j := 0) hn rfl) rfl rfl (Nat.le_of_ble_eq_true rfl)) rfl rfl rfl ?_
  refine me_2t (pc' := 21) dm_X12_byteAt_5 rfl rfl ?_
  refine me0 (pc' := 22) (S' := .int (0 : Int32) :: _) dm_X12_byteAt_21 rfl rfl rfl rfl ?_
  refine me5 dm_X12_byteAt_22 rfl rfl rfl ?_
  refine me1 (pc' := 77) (L' := [(1, .int (0 : Int32)), (0, .ref 102)]) dm_X12_next_76 rfl rfl rfl rfl ?_
  refine me1 (pc' := 78) dm_X12_next_77 rfl rfl rfl rfl ?_
  refine me3 (pc' := 81) dm_X12_next_78 (g_get (v := .int (0 : Int32)) (lu (n := 102) (j := 0) hn rfl) rfl rfl (Nat.le_of_ble_eq_true rfl)) rfl rfl rfl ?_
  refine me1 (pc' := 82) dm_X12_next_81 rfl rfl rfl rfl ?_
  refine me3 (pc' := 85) dm_X12_next_82 (g_get (v := .int (0 : Int32)) (lu (n := 102) (j := 0) hn rfl) rfl rfl (Nat.le_of_ble_eq_true rfl)) rfl rfl rfl ?_
  refine me_2f (pc' := 88) dm_X12_next_85 rfl (by decide) rfl ?_
  refine me1 (pc' := 89) dm_X12_next_88 rfl rfl rfl rfl ?_
  refine me0 (pc' := 90) (S' := .int (0 : Int32) :: _) dm_X12_next_89 rfl rfl rfl rfl ?_
  refine me3 (pc' := 93) dm_X12_next_90 (u_put (fs' := [.ref 103, .ref 104, .ref 105, .int (1 : Int32), .int (4 : Int32), .int (0 : Int32), .int (-1 : Int32), .int (0 : Int32), .int (500000 : Int32), .int (0 : Int32), .int (0 : Int32), .int (0 : Int32), .ref 106, .int (0 : Int32), .ref 107, .ref 108, .ref 109, .int (0 : Int32), .int (0 : Int32), .ref 110, .ref 111, .ref 112, .ref 113, .int (0 : Int32), .int (0 : Int32), .ref 114, .ref 115, .ref 116, .ref 117, .ref 118, .int (3 : Int32), .int (3 : Int32), .ref 119, .int (0 : Int32), .int (0 : Int32), .int (0 : Int32), .int (0 : Int32), .int (-1 : Int32), .int (0 : Int32), .int (0 : Int32), .int (0 : Int32), .long (0 : Int64), .long (0 : Int64), .ref 120, .ref 121, .ref 122, .ref 123, .ref 124, .ref 125, .ref 126, .int (0 : Int32), .int (0 : Int32), .int (-1 : Int32), .int (0 : Int32), .int (0 : Int32), .int (0 : Int32), .long (0 : Int64), .int (0 : Int32), .int (-1 : Int32), .int (-1 : Int32)]) (n := 102) (j := 0) hn rfl rfl rfl (Nat.le_of_ble_eq_true rfl) rfl (by decide) (fun z => by cases z) rfl (Nat.le_of_ble_eq_true rfl)) rfl rfl rfl ?_
  refine me2 (pc' := 287) dm_X12_next_93 rfl rfl rfl ?_
  refine me5 dm_X12_next_287 rfl rfl rfl ?_
  refine me5 dm_X12_begin_39 rfl rfl rfl ?_
  refine me1 (pc' := 214) dm_X12_isAmending_213 rfl rfl rfl rfl ?_
  refine me5 dm_X12_isAmending_214 rfl rfl rfl ?_
  refine me_1t (pc' := 32) dm_X12_read_25 rfl rfl ?_
  refine me0 (pc' := 33) (S' := .int (0 : Int32) :: _) dm_X12_read_32 rfl rfl rfl rfl ?_
  refine me1 (pc' := 34) (L' := [(3, .int (0 : Int32)), (2, .int (0 : Int32)), (0, .ref 102), (1, .int (0 : Int32))]) dm_X12_read_33 rfl rfl rfl rfl ?_
  refine me1 (pc' := 35) dm_X12_read_34 rfl rfl rfl rfl ?_
  refine me_1f (pc' := 38) dm_X12_read_35 rfl (by decide) rfl ?_
  refine me1 (pc' := 39) dm_X12_read_38 rfl rfl rfl rfl ?_
  refine me_1t (pc' := 94) dm_X12_read_39 rfl rfl ?_
  refine me1 (pc' := 95) dm_X12_read_94 rfl rfl rfl rfl ?_
  refine me_1t (pc' := 161) dm_X12_read_95 rfl rfl ?_
  refine me1 (pc' := 162) dm_X12_read_161 rfl rfl rfl rfl ?_
  refine me_1t (pc' := 217) dm_X12_read_162 rfl rfl ?_
  refine me1 (pc' := 218) dm_X12_read_217 rfl rfl rfl rfl ?_
  refine me1 (pc' := 219) dm_X12_read_218 rfl rfl rfl rfl ?_
  refine me4 (pc' := 222) (L0 := [(0, .ref 102)]) dm_X12_read_219 rfl (g_inv (As := []) (lu (n := 102) (j := 0) hn rfl) rfl rfl rfl (Nat.le_of_ble_eq_true rfl)) pm_X12_expression rfl (Nat.le_of_ble_eq_true rfl) rfl rfl rfl ?_
  refine me0 (pc' := 1) (S' := .int (-1 : Int32) :: _) dm_X12_expression_0 rfl rfl rfl rfl ?_
  refine me1 (pc' := 2) (L' := [(1, .int (-1 : Int32)), (0, .ref 102)]) dm_X12_expression_1 rfl rfl rfl rfl ?_
  refine me1 (pc' := 3) dm_X12_expression_2 rfl rfl rfl rfl ?_
  refine me3 (pc' := 6) dm_X12_expression_3 (g_get (v := .int (-1 : Int32)) (lu (n := 102) (j := 0) hn rfl) rfl rfl (Nat.le_of_ble_eq_true rfl)) rfl rfl rfl ?_
  refine me_1f (pc' := 9) dm_X12_expression_6 rfl (by decide) rfl ?_
  refine me0 (pc' := 10) (S' := .int (-1 : Int32) :: _) dm_X12_expression_9 rfl rfl rfl rfl ?_
  refine me1 (pc' := 11) (L' := [(2, .int (-1 : Int32)), (1, .int (-1 : Int32)), (0, .ref 102)]) dm_X12_expression_10 rfl rfl rfl rfl ?_
  refine me1 (pc' := 12) dm_X12_expression_11 rfl rfl rfl rfl ?_
  refine me4 (pc' := 15) (L0 := [(0, .ref 102)]) dm_X12_expression_12 rfl (g_inv (As := []) (lu (n := 102) (j := 0) hn rfl) rfl rfl rfl (Nat.le_of_ble_eq_true rfl)) pm_X12_isNoun rfl (Nat.le_of_ble_eq_true rfl) rfl rfl rfl ?_
  refine me1 (pc' := 1) dm_X12_isNoun_0 rfl rfl rfl rfl ?_
  refine me3 (pc' := 4) dm_X12_isNoun_1 (g_get (v := .int (0 : Int32)) (lu (n := 102) (j := 0) hn rfl) rfl rfl (Nat.le_of_ble_eq_true rfl)) rfl rfl rfl ?_
  refine me0 (pc' := 5) (S' := .int (1 : Int32) :: _) dm_X12_isNoun_4 rfl rfl rfl rfl ?_
  refine me_2f (pc' := 8) dm_X12_isNoun_5 rfl (by decide) rfl ?_
  refine me1 (pc' := 9) dm_X12_isNoun_8 rfl rfl rfl rfl ?_
  refine me3 (pc' := 12) dm_X12_isNoun_9 (g_get (v := .int (0 : Int32)) (lu (n := 102) (j := 0) hn rfl) rfl rfl (Nat.le_of_ble_eq_true rfl)) rfl rfl rfl ?_
  refine me0 (pc' := 13) (S' := .int (2 : Int32) :: _) dm_X12_isNoun_12 rfl rfl rfl rfl ?_
  refine me_2f (pc' := 16) dm_X12_isNoun_13 rfl (by decide) rfl ?_
  refine me1 (pc' := 17) dm_X12_isNoun_16 rfl rfl rfl rfl ?_
  refine me3 (pc' := 20) dm_X12_isNoun_17 (g_get (v := .int (0 : Int32)) (lu (n := 102) (j := 0) hn rfl) rfl rfl (Nat.le_of_ble_eq_true rfl)) rfl rfl rfl ?_
  refine me0 (pc' := 21) (S' := .int (3 : Int32) :: _) dm_X12_isNoun_20 rfl rfl rfl rfl ?_
  refine me_2f (pc' := 24) dm_X12_isNoun_21 rfl (by decide) rfl ?_
  refine me1 (pc' := 25) dm_X12_isNoun_24 rfl rfl rfl rfl ?_
  refine me0 (pc' := 27) (S' := .int (40 : Int32) :: _) dm_X12_isNoun_25 rfl rfl rfl rfl ?_
  refine me4 (pc' := 30) (L0 := [(0, .ref 102), (1, .int (40 : Int32))]) dm_X12_isNoun_27 rfl (g_inv (As := [.int (40 : Int32)]) (lu (n := 102) (j := 0) hn rfl) rfl rfl rfl (Nat.le_of_ble_eq_true rfl)) pm_X12_isMarked rfl (Nat.le_of_ble_eq_true rfl) rfl rfl rfl ?_
  refine me1 (pc' := 1) dm_X12_isMarked_0 rfl rfl rfl rfl ?_
  refine me3 (pc' := 4) dm_X12_isMarked_1 (g_get (v := .int (0 : Int32)) (lu (n := 102) (j := 0) hn rfl) rfl rfl (Nat.le_of_ble_eq_true rfl)) rfl rfl rfl ?_
  refine me0 (pc' := 6) (S' := .int (7 : Int32) :: _) dm_X12_isMarked_4 rfl rfl rfl rfl ?_
  refine me_2t (pc' := 21) dm_X12_isMarked_6 rfl rfl ?_
  refine me0 (pc' := 22) (S' := .int (0 : Int32) :: _) dm_X12_isMarked_21 rfl rfl rfl rfl ?_
  refine me5 dm_X12_isMarked_22 rfl rfl rfl ?_
  refine me_1f (pc' := 33) dm_X12_isNoun_30 rfl (by decide) rfl ?_
  refine me1 (pc' := 34) dm_X12_isNoun_33 rfl rfl rfl rfl ?_
  refine me0 (pc' := 36) (S' := .int (91 : Int32) :: _) dm_X12_isNoun_34 rfl rfl rfl rfl ?_
  refine me4 (pc' := 39) (L0 := [(0, .ref 102), (1, .int (91 : Int32))]) dm_X12_isNoun_36 rfl (g_inv (As := [.int (91 : Int32)]) (lu (n := 102) (j := 0) hn rfl) rfl rfl rfl (Nat.le_of_ble_eq_true rfl)) pm_X12_isMarked rfl (Nat.le_of_ble_eq_true rfl) rfl rfl rfl ?_
  refine me1 (pc' := 1) dm_X12_isMarked_0 rfl rfl rfl rfl ?_
  refine me3 (pc' := 4) dm_X12_isMarked_1 (g_get (v := .int (0 : Int32)) (lu (n := 102) (j := 0) hn rfl) rfl rfl (Nat.le_of_ble_eq_true rfl)) rfl rfl rfl ?_
  refine me0 (pc' := 6) (S' := .int (7 : Int32) :: _) dm_X12_isMarked_4 rfl rfl rfl rfl ?_
  refine me_2t (pc' := 21) dm_X12_isMarked_6 rfl rfl ?_
  refine me0 (pc' := 22) (S' := .int (0 : Int32) :: _) dm_X12_isMarked_21 rfl rfl rfl rfl ?_
  refine me5 dm_X12_isMarked_22 rfl rfl rfl ?_
  refine me_1t (pc' := 46) dm_X12_isNoun_39 rfl rfl ?_
  refine me0 (pc' := 47) (S' := .int (0 : Int32) :: _) dm_X12_isNoun_46 rfl rfl rfl rfl ?_
  refine me5 dm_X12_isNoun_47 rfl rfl rfl ?_
  refine me_1t (pc' := 58) dm_X12_expression_15 rfl rfl ?_
  refine me1 (pc' := 59) dm_X12_expression_58 rfl rfl rfl rfl ?_
  refine me3 (pc' := 62) dm_X12_expression_59 (g_get (v := .int (0 : Int32)) (lu (n := 102) (j := 0) hn rfl) rfl rfl (Nat.le_of_ble_eq_true rfl)) rfl rfl rfl ?_
  refine me0 (pc' := 63) (S' := .int (5 : Int32) :: _) dm_X12_expression_62 rfl rfl rfl rfl ?_
  refine me_2f (pc' := 66) dm_X12_expression_63 rfl (by decide) rfl ?_
  refine me1 (pc' := 67) dm_X12_expression_66 rfl rfl rfl rfl ?_
  refine me3 (pc' := 70) dm_X12_expression_67 (g_get (v := .int (0 : Int32)) (lu (n := 102) (j := 0) hn rfl) rfl rfl (Nat.le_of_ble_eq_true rfl)) rfl rfl rfl ?_
  refine me0 (pc' := 71) (S' := .int (4 : Int32) :: _) dm_X12_expression_70 rfl rfl rfl rfl ?_
  refine me_2f (pc' := 74) dm_X12_expression_71 rfl (by decide) rfl ?_
  refine me1 (pc' := 75) dm_X12_expression_74 rfl rfl rfl rfl ?_
  refine me4 (pc' := 78) (L0 := [(0, .ref 102)]) dm_X12_expression_75 rfl (g_inv (As := []) (lu (n := 102) (j := 0) hn rfl) rfl rfl rfl (Nat.le_of_ble_eq_true rfl)) pm_X12_wrong rfl (Nat.le_of_ble_eq_true rfl) rfl rfl rfl ?_
  refine me1 (pc' := 1) dm_X12_wrong_0 rfl rfl rfl rfl ?_
  refine me3 (pc' := 4) dm_X12_wrong_1 (g_get (v := .int (-1 : Int32)) (lu (n := 102) (j := 0) hn rfl) rfl rfl (Nat.le_of_ble_eq_true rfl)) rfl rfl rfl ?_
  refine me_1f (pc' := 7) dm_X12_wrong_4 rfl (by decide) rfl ?_
  refine me1 (pc' := 8) dm_X12_wrong_7 rfl rfl rfl rfl ?_
  refine me1 (pc' := 9) dm_X12_wrong_8 rfl rfl rfl rfl ?_
  refine me3 (pc' := 12) dm_X12_wrong_9 (g_get (v := .int (0 : Int32)) (lu (n := 102) (j := 0) hn rfl) rfl rfl (Nat.le_of_ble_eq_true rfl)) rfl rfl rfl ?_
  refine me3 (pc' := 15) dm_X12_wrong_12 (u_put (fs' := [.ref 103, .ref 104, .ref 105, .int (1 : Int32), .int (4 : Int32), .int (0 : Int32), .int (-1 : Int32), .int (0 : Int32), .int (500000 : Int32), .int (0 : Int32), .int (0 : Int32), .int (0 : Int32), .ref 106, .int (0 : Int32), .ref 107, .ref 108, .ref 109, .int (0 : Int32), .int (0 : Int32), .ref 110, .ref 111, .ref 112, .ref 113, .int (0 : Int32), .int (0 : Int32), .ref 114, .ref 115, .ref 116, .ref 117, .ref 118, .int (3 : Int32), .int (3 : Int32), .ref 119, .int (0 : Int32), .int (0 : Int32), .int (0 : Int32), .int (0 : Int32), .int (-1 : Int32), .int (0 : Int32), .int (0 : Int32), .int (0 : Int32), .long (0 : Int64), .long (0 : Int64), .ref 120, .ref 121, .ref 122, .ref 123, .ref 124, .ref 125, .ref 126, .int (0 : Int32), .int (0 : Int32), .int (0 : Int32), .int (0 : Int32), .int (0 : Int32), .int (0 : Int32), .long (0 : Int64), .int (0 : Int32), .int (-1 : Int32), .int (-1 : Int32)]) (n := 102) (j := 0) hn rfl rfl rfl (Nat.le_of_ble_eq_true rfl) rfl (by decide) (fun z => by cases z) rfl (Nat.le_of_ble_eq_true rfl)) rfl rfl rfl ?_
  refine me0 (pc' := 16) (S' := .int (-1 : Int32) :: _) dm_X12_wrong_15 rfl rfl rfl rfl ?_
  refine me5 dm_X12_wrong_16 rfl rfl rfl ?_
  refine me5 dm_X12_expression_78 rfl rfl rfl ?_
  refine me3 (pc' := 225) dm_X12_read_222 (u_put (fs' := [.ref 103, .ref 104, .ref 105, .int (1 : Int32), .int (4 : Int32), .int (0 : Int32), .int (-1 : Int32), .int (0 : Int32), .int (500000 : Int32), .int (0 : Int32), .int (0 : Int32), .int (0 : Int32), .ref 106, .int (0 : Int32), .ref 107, .ref 108, .ref 109, .int (0 : Int32), .int (0 : Int32), .ref 110, .ref 111, .ref 112, .ref 113, .int (0 : Int32), .int (0 : Int32), .ref 114, .ref 115, .ref 116, .ref 117, .ref 118, .int (3 : Int32), .int (3 : Int32), .ref 119, .int (0 : Int32), .int (0 : Int32), .int (0 : Int32), .int (0 : Int32), .int (-1 : Int32), .int (0 : Int32), .int (0 : Int32), .int (0 : Int32), .long (0 : Int64), .long (0 : Int64), .ref 120, .ref 121, .ref 122, .ref 123, .ref 124, .ref 125, .ref 126, .int (0 : Int32), .int (0 : Int32), .int (0 : Int32), .int (0 : Int32), .int (-1 : Int32), .int (0 : Int32), .long (0 : Int64), .int (0 : Int32), .int (-1 : Int32), .int (-1 : Int32)]) (n := 102) (j := 0) hn rfl rfl rfl (Nat.le_of_ble_eq_true rfl) rfl (by decide) (fun z => by cases z) rfl (Nat.le_of_ble_eq_true rfl)) rfl rfl rfl ?_
  refine me1 (pc' := 226) dm_X12_read_225 rfl rfl rfl rfl ?_
  refine me3 (pc' := 229) dm_X12_read_226 (g_get (v := .int (0 : Int32)) (lu (n := 102) (j := 0) hn rfl) rfl rfl (Nat.le_of_ble_eq_true rfl)) rfl rfl rfl ?_
  refine me_1t (pc' := 244) dm_X12_read_229 rfl rfl ?_
  refine me5 dm_X12_read_244 rfl rfl rfl ?_
  refine me1 (pc' := 67) dm_X12_line_66 rfl rfl rfl rfl ?_
  refine me3 (pc' := 70) dm_X12_line_67 (g_get (v := .int (0 : Int32)) (lu (n := 102) (j := 0) hn rfl) rfl rfl (Nat.le_of_ble_eq_true rfl)) rfl rfl rfl ?_
  refine me_1f (pc' := 73) dm_X12_line_70 rfl (by decide) rfl ?_
  refine me1 (pc' := 74) dm_X12_line_73 rfl rfl rfl rfl ?_
  refine me0 (pc' := 75) (S' := .int (1 : Int32) :: _) dm_X12_line_74 rfl rfl rfl rfl ?_
  refine me1 (pc' := 76) dm_X12_line_75 rfl rfl rfl rfl ?_
  refine me3 (pc' := 79) dm_X12_line_76 (g_get (v := .int (0 : Int32)) (lu (n := 102) (j := 0) hn rfl) rfl rfl (Nat.le_of_ble_eq_true rfl)) rfl rfl rfl ?_
  refine me4 (pc' := 82) (L0 := [(0, .ref 102), (1, .int (1 : Int32)), (2, .int (0 : Int32))]) dm_X12_line_79 rfl (g_inv (As := [.int (1 : Int32), .int (0 : Int32)]) (lu (n := 102) (j := 0) hn rfl) rfl rfl rfl (Nat.le_of_ble_eq_true rfl)) pm_X12_fail rfl (Nat.le_of_ble_eq_true rfl) rfl rfl rfl ?_
  refine me1 (pc' := 1) dm_X12_fail_0 rfl rfl rfl rfl ?_
  refine me3 (pc' := 4) dm_X12_fail_1 (g_get (v := .int (0 : Int32)) (lu (n := 102) (j := 0) hn rfl) rfl rfl (Nat.le_of_ble_eq_true rfl)) rfl rfl rfl ?_
  refine me_1f (pc' := 7) dm_X12_fail_4 rfl (by decide) rfl ?_
  refine me1 (pc' := 8) dm_X12_fail_7 rfl rfl rfl rfl ?_
  refine me1 (pc' := 9) dm_X12_fail_8 rfl rfl rfl rfl ?_
  refine me3 (pc' := 12) dm_X12_fail_9 (u_put (fs' := [.ref 103, .ref 104, .ref 105, .int (1 : Int32), .int (4 : Int32), .int (1 : Int32), .int (-1 : Int32), .int (0 : Int32), .int (500000 : Int32), .int (0 : Int32), .int (0 : Int32), .int (0 : Int32), .ref 106, .int (0 : Int32), .ref 107, .ref 108, .ref 109, .int (0 : Int32), .int (0 : Int32), .ref 110, .ref 111, .ref 112, .ref 113, .int (0 : Int32), .int (0 : Int32), .ref 114, .ref 115, .ref 116, .ref 117, .ref 118, .int (3 : Int32), .int (3 : Int32), .ref 119, .int (0 : Int32), .int (0 : Int32), .int (0 : Int32), .int (0 : Int32), .int (-1 : Int32), .int (0 : Int32), .int (0 : Int32), .int (0 : Int32), .long (0 : Int64), .long (0 : Int64), .ref 120, .ref 121, .ref 122, .ref 123, .ref 124, .ref 125, .ref 126, .int (0 : Int32), .int (0 : Int32), .int (0 : Int32), .int (0 : Int32), .int (-1 : Int32), .int (0 : Int32), .long (0 : Int64), .int (0 : Int32), .int (-1 : Int32), .int (-1 : Int32)]) (n := 102) (j := 0) hn rfl rfl rfl (Nat.le_of_ble_eq_true rfl) rfl (by decide) (fun z => by cases z) rfl (Nat.le_of_ble_eq_true rfl)) rfl rfl rfl ?_
  refine me1 (pc' := 13) dm_X12_fail_12 rfl rfl rfl rfl ?_
  refine me1 (pc' := 14) dm_X12_fail_13 rfl rfl rfl rfl ?_
  refine me3 (pc' := 17) dm_X12_fail_14 (g_get (v := .int (0 : Int32)) (lu (n := 102) (j := 0) hn rfl) rfl rfl (Nat.le_of_ble_eq_true rfl)) rfl rfl rfl ?_
  refine me_1t (pc' := 27) dm_X12_fail_17 rfl rfl ?_
  refine me1 (pc' := 28) dm_X12_fail_27 rfl rfl rfl rfl ?_
  refine me3 (pc' := 31) dm_X12_fail_28 (u_put (fs' := [.ref 103, .ref 104, .ref 105, .int (1 : Int32), .int (4 : Int32), .int (1 : Int32), .int (0 : Int32), .int (0 : Int32), .int (500000 : Int32), .int (0 : Int32), .int (0 : Int32), .int (0 : Int32), .ref 106, .int (0 : Int32), .ref 107, .ref 108, .ref 109, .int (0 : Int32), .int (0 : Int32), .ref 110, .ref 111, .ref 112, .ref 113, .int (0 : Int32), .int (0 : Int32), .ref 114, .ref 115, .ref 116, .ref 117, .ref 118, .int (3 : Int32), .int (3 : Int32), .ref 119, .int (0 : Int32), .int (0 : Int32), .int (0 : Int32), .int (0 : Int32), .int (-1 : Int32), .int (0 : Int32), .int (0 : Int32), .int (0 : Int32), .long (0 : Int64), .long (0 : Int64), .ref 120, .ref 121, .ref 122, .ref 123, .ref 124, .ref 125, .ref 126, .int (0 : Int32), .int (0 : Int32), .int (0 : Int32), .int (0 : Int32), .int (-1 : Int32), .int (0 : Int32), .long (0 : Int64), .int (0 : Int32), .int (-1 : Int32), .int (-1 : Int32)]) (n := 102) (j := 0) hn rfl rfl rfl (Nat.le_of_ble_eq_true rfl) rfl (by decide) (fun z => by cases z) rfl (Nat.le_of_ble_eq_true rfl)) rfl rfl rfl ?_
  refine me0 (pc' := 32) (S' := .int (-1 : Int32) :: _) dm_X12_fail_31 rfl rfl rfl rfl ?_
  refine me5 dm_X12_fail_32 rfl rfl rfl ?_
  refine me0 (pc' := 83) dm_X12_line_82 rfl rfl rfl rfl ?_
  refine me2 (pc' := 90) dm_X12_line_83 rfl rfl rfl ?_
  refine me1 (pc' := 91) dm_X12_line_90 rfl rfl rfl rfl ?_
  refine me3 (pc' := 94) dm_X12_line_91 (g_get (v := .int (1 : Int32)) (lu (n := 102) (j := 0) hn rfl) rfl rfl (Nat.le_of_ble_eq_true rfl)) rfl rfl rfl ?_
  refine me_1f (pc' := 97) dm_X12_line_94 rfl (by decide) rfl ?_
  refine me1 (pc' := 98) dm_X12_line_97 rfl rfl rfl rfl ?_
  refine me1 (pc' := 99) dm_X12_line_98 rfl rfl rfl rfl ?_
  refine me3 (pc' := 102) dm_X12_line_99 (u_put (fs' := [.ref 103, .ref 104, .ref 105, .int (1 : Int32), .int (4 : Int32), .int (1 : Int32), .int (0 : Int32), .int (0 : Int32), .int (500000 : Int32), .int (0 : Int32), .int (0 : Int32), .int (0 : Int32), .ref 106, .int (0 : Int32), .ref 107, .ref 108, .ref 109, .int (0 : Int32), .int (0 : Int32), .ref 110, .ref 111, .ref 112, .ref 113, .int (0 : Int32), .int (0 : Int32), .ref 114, .ref 115, .ref 116, .ref 117, .ref 118, .int (3 : Int32), .int (3 : Int32), .ref 119, .int (0 : Int32), .int (0 : Int32), .int (0 : Int32), .int (0 : Int32), .int (-1 : Int32), .int (0 : Int32), .int (0 : Int32), .int (0 : Int32), .long (0 : Int64), .long (0 : Int64), .ref 120, .ref 121, .ref 122, .ref 123, .ref 124, .ref 125, .ref 126, .int (0 : Int32), .int (0 : Int32), .int (0 : Int32), .int (0 : Int32), .int (-1 : Int32), .int (0 : Int32), .long (0 : Int64), .int (0 : Int32), .int (-1 : Int32), .int (-1 : Int32)]) (n := 102) (j := 0) hn rfl rfl rfl (Nat.le_of_ble_eq_true rfl) rfl (by decide) (fun z => by cases z) rfl (Nat.le_of_ble_eq_true rfl)) rfl rfl rfl ?_
  refine me1 (pc' := 103) dm_X12_line_102 rfl rfl rfl rfl ?_
  refine me1 (pc' := 104) dm_X12_line_103 rfl rfl rfl rfl ?_
  refine me3 (pc' := 107) dm_X12_line_104 (u_put (fs' := [.ref 103, .ref 104, .ref 105, .int (1 : Int32), .int (4 : Int32), .int (1 : Int32), .int (0 : Int32), .int (0 : Int32), .int (500000 : Int32), .int (0 : Int32), .int (0 : Int32), .int (0 : Int32), .ref 106, .int (0 : Int32), .ref 107, .ref 108, .ref 109, .int (0 : Int32), .int (0 : Int32), .ref 110, .ref 111, .ref 112, .ref 113, .int (0 : Int32), .int (0 : Int32), .ref 114, .ref 115, .ref 116, .ref 117, .ref 118, .int (3 : Int32), .int (3 : Int32), .ref 119, .int (0 : Int32), .int (0 : Int32), .int (0 : Int32), .int (0 : Int32), .int (-1 : Int32), .int (0 : Int32), .int (0 : Int32), .int (0 : Int32), .long (0 : Int64), .long (0 : Int64), .ref 120, .ref 121, .ref 122, .ref 123, .ref 124, .ref 125, .ref 126, .int (0 : Int32), .int (0 : Int32), .int (0 : Int32), .int (0 : Int32), .int (-1 : Int32), .int (0 : Int32), .long (0 : Int64), .int (0 : Int32), .int (-1 : Int32), .int (-1 : Int32)]) (n := 102) (j := 0) hn rfl rfl rfl (Nat.le_of_ble_eq_true rfl) rfl (by decide) (fun z => by cases z) rfl (Nat.le_of_ble_eq_true rfl)) rfl rfl rfl ?_
  refine me1 (pc' := 108) dm_X12_line_107 rfl rfl rfl rfl ?_
  refine me3 (pc' := 111) dm_X12_line_108 (g_get (v := .int (1 : Int32)) (lu (n := 102) (j := 0) hn rfl) rfl rfl (Nat.le_of_ble_eq_true rfl)) rfl rfl rfl ?_
  refine me_1t (pc' := 122) dm_X12_line_111 rfl rfl ?_
  refine me1 (pc' := 123) dm_X12_line_122 rfl rfl rfl rfl ?_
  refine me1 (pc' := 125) dm_X12_line_123 rfl rfl rfl rfl ?_
  refine me3 (pc' := 128) dm_X12_line_125 (u_put (fs' := [.ref 103, .ref 104, .ref 105, .int (1 : Int32), .int (4 : Int32), .int (1 : Int32), .int (0 : Int32), .int (0 : Int32), .int (500000 : Int32), .int (0 : Int32), .int (0 : Int32), .int (0 : Int32), .ref 106, .int (0 : Int32), .ref 107, .ref 108, .ref 109, .int (0 : Int32), .int (0 : Int32), .ref 110, .ref 111, .ref 112, .ref 113, .int (0 : Int32), .int (0 : Int32), .ref 114, .ref 115, .ref 116, .ref 117, .ref 118, .int (3 : Int32), .int (3 : Int32), .ref 119, .int (0 : Int32), .int (0 : Int32), .int (0 : Int32), .int (0 : Int32), .int (-1 : Int32), .int (0 : Int32), .int (0 : Int32), .int (0 : Int32), .long (0 : Int64), .long (0 : Int64), .ref 120, .ref 121, .ref 122, .ref 123, .ref 124, .ref 125, .ref 126, .int (0 : Int32), .int (0 : Int32), .int (0 : Int32), .int (0 : Int32), .int (-1 : Int32), .int (0 : Int32), .long (0 : Int64), .int (0 : Int32), .int (-1 : Int32), .int (-1 : Int32)]) (n := 102) (j := 0) hn rfl rfl rfl (Nat.le_of_ble_eq_true rfl) rfl (by decide) (fun z => by cases z) rfl (Nat.le_of_ble_eq_true rfl)) rfl rfl rfl ?_
  refine me1 (pc' := 129) dm_X12_line_128 rfl rfl rfl rfl ?_
  refine me1 (pc' := 130) dm_X12_line_129 rfl rfl rfl rfl ?_
  refine me3 (pc' := 133) dm_X12_line_130 (g_get (v := .int (3 : Int32)) (lu (n := 102) (j := 0) hn rfl) rfl rfl (Nat.le_of_ble_eq_true rfl)) rfl rfl rfl ?_
  refine me3 (pc' := 136) dm_X12_line_133 (u_put (fs' := [.ref 103, .ref 104, .ref 105, .int (1 : Int32), .int (4 : Int32), .int (1 : Int32), .int (0 : Int32), .int (0 : Int32), .int (500000 : Int32), .int (0 : Int32), .int (0 : Int32), .int (0 : Int32), .ref 106, .int (0 : Int32), .ref 107, .ref 108, .ref 109, .int (0 : Int32), .int (0 : Int32), .ref 110, .ref 111, .ref 112, .ref 113, .int (0 : Int32), .int (0 : Int32), .ref 114, .ref 115, .ref 116, .ref 117, .ref 118, .int (3 : Int32), .int (3 : Int32), .ref 119, .int (0 : Int32), .int (0 : Int32), .int (0 : Int32), .int (0 : Int32), .int (-1 : Int32), .int (0 : Int32), .int (0 : Int32), .int (0 : Int32), .long (0 : Int64), .long (0 : Int64), .ref 120, .ref 121, .ref 122, .ref 123, .ref 124, .ref 125, .ref 126, .int (0 : Int32), .int (0 : Int32), .int (0 : Int32), .int (0 : Int32), .int (-1 : Int32), .int (0 : Int32), .long (0 : Int64), .int (0 : Int32), .int (-1 : Int32), .int (-1 : Int32)]) (n := 102) (j := 0) hn rfl rfl rfl (Nat.le_of_ble_eq_true rfl) rfl (by decide) (fun z => by cases z) rfl (Nat.le_of_ble_eq_true rfl)) rfl rfl rfl ?_
  refine me1 (pc' := 137) dm_X12_line_136 rfl rfl rfl rfl ?_
  refine me3 (pc' := 140) dm_X12_line_137 (g_get (v := .int (1 : Int32)) (lu (n := 102) (j := 0) hn rfl) rfl rfl (Nat.le_of_ble_eq_true rfl)) rfl rfl rfl ?_
  refine me0 (pc' := 141) (S' := .int (-1 : Int32) :: _) dm_X12_line_140 rfl rfl rfl rfl ?_
  refine me5 dm_X12_line_141 rfl rfl rfl ?_
  exact k _ rfl (Nat.le_of_ble_eq_true rfl)
set_option maxRecDepth 100000 in
set_option maxHeartbeats 40000000 in
theorem r_line_ge {xt : mj_X} {d : Nat} {h W : mj_H} (hn : h.length = 102) {P : Option Value → mj_H → Prop} {p0 : Int32} (hl0 : 1 ≤ p0.toInt) (k : ∀ U, U.length = 25 → mj_sl U ≤ 3000000 → P (some (.int (-100 : Int32))) (h ++ (U ++ W))) : pgE xt (d + 20) 12 5 false (Option.some FieldType.int) (mj_dec prog_14_method_95_code) 0 [(0, .ref 102), (1, .int p0)] [] (h ++ (rT ++ W)) P := by
  refine me1 (pc' := 1) dm_X12_line_0 rfl rfl rfl rfl ?_
  refine me_1f (pc' := 4) dm_X12_line_1 rfl (cn_f_lt (c := 0) rfl (by omega)) rfl ?_
  refine me1 (pc' := 5) dm_X12_line_4 rfl rfl rfl rfl ?_
  refine me1 (pc' := 6) dm_X12_line_5 rfl rfl rfl rfl ?_
  refine me3 (pc' := 9) dm_X12_line_6 (g_get (v := .int (0 : Int32)) (lu (n := 102) (j := 0) hn rfl) rfl rfl (Nat.le_of_ble_eq_true rfl)) rfl rfl rfl ?_
  refine me_2f (pc' := 12) dm_X12_line_9 rfl (cn_f_le (c := 0) rfl (by omega)) rfl ?_
  refine me0 (pc' := 14) (S' := .int (-100 : Int32) :: _) dm_X12_line_12 rfl rfl rfl rfl ?_
  refine me5 dm_X12_line_14 rfl rfl rfl ?_
  exact k _ rfl (Nat.le_of_ble_eq_true rfl)
