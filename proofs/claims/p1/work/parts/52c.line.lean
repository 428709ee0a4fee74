set_option maxRecDepth 100000 in
set_option maxHeartbeats 40000000 in
theorem c_line_lt {xt : mj_X} {d : Nat} {h V : mj_H} (hn : h.length = 2) (hv : V.length = 25) {P : Option Value → mj_H → Prop} {p0 : Int32} (hh0 : p0.toInt ≤ -1) (k : ∀ U D, U.length = 100 → mj_sl U ≤ 20000 → D.length ≤ 10 → mj_sl D ≤ 2000 → P (some (.int (-100 : Int32))) (h ++ (U ++ (V ++ D)))) : pgE xt (d + 20) 11 3 false (Option.some FieldType.int) (mj_dec prog_1_method_4_code) 0 [(0, .ref 2), (1, .int p0)] [] (h ++ (cT ++ (V ++ []))) P := by
  refine me1 (pc' := 1) dm_X11_line_0 rfl rfl rfl rfl ?_
  refine me_1t (pc' := 12) dm_X11_line_1 rfl (cn_t_lt (c := 0) rfl (by omega)) ?_
  refine me0 (pc' := 14) (S' := .int (-100 : Int32) :: _) dm_X11_line_12 rfl rfl rfl rfl ?_
  refine me5 dm_X11_line_14 rfl rfl rfl ?_
  exact k _ _ rfl (Nat.le_of_ble_eq_true rfl) (Nat.le_of_ble_eq_true rfl) (Nat.le_of_ble_eq_true rfl)
set_option maxRecDepth 100000 in
set_option maxHeartbeats 40000000 in
theorem c_line_v0 {xt : mj_X} {d : Nat} {h V : mj_H} (hn : h.length = 2) (hv : V.length = 25) {P : Option Value → mj_H → Prop}  (k : ∀ U D, U.length = 100 → mj_sl U ≤ 20000 → D.length ≤ 10 → mj_sl D ≤ 2000 → P (some (.int (-1 : Int32))) (h ++ (U ++ (V ++ D)))) : pgE xt (d + 20) 11 3 false (Option.some FieldType.int) (mj_dec prog_1_method_4_code) 0 [(0, .ref 2), (1, .int (0 : Int32))] [] (h ++ (cT ++ (V ++ []))) P := by
  refine me1 (pc' := 1) dm_X11_line_0 rfl rfl rfl rfl ?_
  refine me_1f (pc' := 4) dm_X11_line_1 rfl (by decide) rfl ?_
  refine me1 (pc' := 5) dm_X11_line_4 rfl rfl rfl rfl ?_
  refine me1 (pc' := 6) dm_X11_line_5 rfl rfl rfl rfl ?_
  refine me3 (pc' := 9) dm_X11_line_6 (g_get (v := .int (0 : Int32)) (lu (n := 2) (j := 0) hn rfl) rfl rfl (Nat.le_of_ble_eq_true rfl)) rfl rfl rfl ?_
  refine me_2t (pc' := 15) dm_X11_line_9 rfl rfl ?_
  refine me1 (pc' := 16) dm_X11_line_15 rfl rfl rfl rfl ?_
  refine me0 (pc' := 17) (S' := .int (0 : Int32) :: _) dm_X11_line_16 rfl rfl rfl rfl ?_
  refine me3 (pc' := 20) dm_X11_line_17 (u_put (fs' := [.ref 3, .int (0 : Int32), .ref 4, .ref 9, .ref 13, .ref 15, .ref 16, .ref 98, .ref 101, .ref 101, .int (0 : Int32), .int (-1 : Int32), .int (0 : Int32)]) (n := 2) (j := 0) hn rfl rfl rfl (Nat.le_of_ble_eq_true rfl) rfl (by decide) (fun z => by cases z) rfl (Nat.le_of_ble_eq_true rfl)) rfl rfl rfl ?_
  refine me1 (pc' := 21) dm_X11_line_20 rfl rfl rfl rfl ?_
  refine me3 (pc' := 24) dm_X11_line_21 (g_get (v := .ref 16) (lu (n := 2) (j := 0) hn rfl) rfl rfl (Nat.le_of_ble_eq_true rfl)) rfl rfl rfl ?_
  refine me4 (pc' := 27) (L0 := [(0, .ref 16)]) dm_X11_line_24 rfl (g_inv (As := []) (lu (n := 2) (j := 14) hn rfl) rfl rfl rfl (Nat.le_of_ble_eq_true rfl)) pm_X1_workLeft rfl (Nat.le_of_ble_eq_true rfl) rfl rfl rfl ?_
  refine me1 (pc' := 1) dm_X1_workLeft_0 rfl rfl rfl rfl ?_
  refine me3 (pc' := 4) dm_X1_workLeft_1 (g_get (v := .int (500000 : Int32)) (lu (n := 2) (j := 14) hn rfl) rfl rfl (Nat.le_of_ble_eq_true rfl)) rfl rfl rfl ?_
  refine me5 dm_X1_workLeft_4 rfl rfl rfl ?_
  refine me1 (pc' := 28) (L' := [(2, .int (500000 : Int32)), (0, .ref 2), (1, .int (0 : Int32))]) dm_X11_line_27 rfl rfl rfl rfl ?_
  refine me1 (pc' := 29) dm_X11_line_28 rfl rfl rfl rfl ?_
  refine me3 (pc' := 32) dm_X11_line_29 (g_get (v := .ref 9) (lu (n := 2) (j := 0) hn rfl) rfl rfl (Nat.le_of_ble_eq_true rfl)) rfl rfl rfl ?_
  refine me1 (pc' := 33) dm_X11_line_32 rfl rfl rfl rfl ?_
  refine me4 (pc' := 36) (L0 := [(0, .ref 9), (1, .int (0 : Int32))]) dm_X11_line_33 rfl (g_inv (As := [.int (0 : Int32)]) (lu (n := 2) (j := 7) hn rfl) rfl rfl rfl (Nat.le_of_ble_eq_true rfl)) pm_X8_split rfl (Nat.le_of_ble_eq_true rfl) rfl rfl rfl ?_
  refine me1 (pc' := 1) dm_X8_split_0 rfl rfl rfl rfl ?_
  refine me1 (pc' := 2) dm_X8_split_1 rfl rfl rfl rfl ?_
  refine me1 (pc' := 3) dm_X8_split_2 rfl rfl rfl rfl ?_
  refine me3 (pc' := 6) dm_X8_split_3 (g_get (v := .ref 3) (lu (n := 2) (j := 7) hn rfl) rfl rfl (Nat.le_of_ble_eq_true rfl)) rfl rfl rfl ?_
  refine me3 (pc' := 7) dm_X8_split_6 (g_len (v := (200 : Int32)) (lu (n := 2) (j := 1) hn rfl) rfl rfl (Nat.le_of_ble_eq_true rfl)) rfl rfl rfl ?_
  refine me4p (pc' := 10) (S' := .int (0 : Int32) :: _) dm_X8_split_7 rfl (by omega) rfl rfl rfl ?_
  refine me3 (pc' := 13) dm_X8_split_10 (u_put (fs' := [.ref 10, .ref 11, .ref 12, .int (0 : Int32), .int (0 : Int32), .ref 3, .ref 4, .int (0 : Int32), .int (0 : Int32)]) (n := 2) (j := 7) hn rfl rfl rfl (Nat.le_of_ble_eq_true rfl) rfl (by decide) (fun z => by cases z) rfl (Nat.le_of_ble_eq_true rfl)) rfl rfl rfl ?_
  refine me1 (pc' := 14) dm_X8_split_13 rfl rfl rfl rfl ?_
  refine me0 (pc' := 15) (S' := .int (0 : Int32) :: _) dm_X8_split_14 rfl rfl rfl rfl ?_
  refine me3 (pc' := 18) dm_X8_split_15 (u_put (fs' := [.ref 10, .ref 11, .ref 12, .int (0 : Int32), .int (0 : Int32), .ref 3, .ref 4, .int (0 : Int32), .int (0 : Int32)]) (n := 2) (j := 7) hn rfl rfl rfl (Nat.le_of_ble_eq_true rfl) rfl (by decide) (fun z => by cases z) rfl (Nat.le_of_ble_eq_true rfl)) rfl rfl rfl ?_
  refine me1 (pc' := 19) dm_X8_split_18 rfl rfl rfl rfl ?_
  refine me0 (pc' := 20) (S' := .int (0 : Int32) :: _) dm_X8_split_19 rfl rfl rfl rfl ?_
  refine me3 (pc' := 23) dm_X8_split_20 (u_put (fs' := [.ref 10, .ref 11, .ref 12, .int (0 : Int32), .int (0 : Int32), .ref 3, .ref 4, .int (0 : Int32), .int (0 : Int32)]) (n := 2) (j := 7) hn rfl rfl rfl (Nat.le_of_ble_eq_true rfl) rfl (by decide) (fun z => by cases z) rfl (Nat.le_of_ble_eq_true rfl)) rfl rfl rfl ?_
  refine me1 (pc' := 24) dm_X8_split_23 rfl rfl rfl rfl ?_
  refine me0 (pc' := 25) (S' := .int (1 : Int32) :: _) dm_X8_split_24 rfl rfl rfl rfl ?_
  refine me3 (pc' := 28) dm_X8_split_25 (u_put (fs' := [.ref 10, .ref 11, .ref 12, .int (0 : Int32), .int (0 : Int32), .ref 3, .ref 4, .int (0 : Int32), .int (1 : Int32)]) (n := 2) (j := 7) hn rfl rfl rfl (Nat.le_of_ble_eq_true rfl) rfl (by decide) (fun z => by cases z) rfl (Nat.le_of_ble_eq_true rfl)) rfl rfl rfl ?_
  refine me0 (pc' := 29) (S' := .int (0 : Int32) :: _) dm_X8_split_28 rfl rfl rfl rfl ?_
  refine me1 (pc' := 30) (L' := [(2, .int (0 : Int32)), (0, .ref 9), (1, .int (0 : Int32))]) dm_X8_split_29 rfl rfl rfl rfl ?_
  refine me0 (pc' := 31) (S' := .int (0 : Int32) :: _) dm_X8_split_30 rfl rfl rfl rfl ?_
  refine me1 (pc' := 32) (L' := [(3, .int (0 : Int32)), (2, .int (0 : Int32)), (0, .ref 9), (1, .int (0 : Int32))]) dm_X8_split_31 rfl rfl rfl rfl ?_
  refine me1 (pc' := 33) dm_X8_split_32 rfl rfl rfl rfl ?_
  refine me1 (pc' := 34) dm_X8_split_33 rfl rfl rfl rfl ?_
  refine me3 (pc' := 37) dm_X8_split_34 (g_get (v := .int (0 : Int32)) (lu (n := 2) (j := 7) hn rfl) rfl rfl (Nat.le_of_ble_eq_true rfl)) rfl rfl rfl ?_
  refine me_2t (pc' := 99) dm_X8_split_37 rfl rfl ?_
  refine me1 (pc' := 100) dm_X8_split_99 rfl rfl rfl rfl ?_
  refine me0 (pc' := 101) (S' := .int (0 : Int32) :: _) dm_X8_split_100 rfl rfl rfl rfl ?_
  refine me1 (pc' := 102) dm_X8_split_101 rfl rfl rfl rfl ?_
  refine me0 (pc' := 103) (S' := .long (0 : Int64) :: _) dm_X8_split_102 rfl rfl rfl rfl ?_
  refine me1 (pc' := 104) dm_X8_split_103 rfl rfl rfl rfl ?_
  refine me4 (pc' := 107) (L0 := [(0, .ref 9), (1, .int (0 : Int32)), (2, .int (0 : Int32)), (3, .long (0 : Int64)), (5, .int (0 : Int32))]) dm_X8_split_104 rfl (g_inv (As := [.int (0 : Int32), .int (0 : Int32), .long (0 : Int64), .int (0 : Int32)]) (lu (n := 2) (j := 7) hn rfl) rfl rfl rfl (Nat.le_of_ble_eq_true rfl)) pm_X8_add rfl (Nat.le_of_ble_eq_true rfl) rfl rfl rfl ?_
  refine me1 (pc' := 1) dm_X8_add_0 rfl rfl rfl rfl ?_
  refine me3 (pc' := 4) dm_X8_add_1 (g_get (v := .int (0 : Int32)) (lu (n := 2) (j := 7) hn rfl) rfl rfl (Nat.le_of_ble_eq_true rfl)) rfl rfl rfl ?_
  refine me1 (pc' := 5) dm_X8_add_4 rfl rfl rfl rfl ?_
  refine me3 (pc' := 8) dm_X8_add_5 (g_get (v := .ref 10) (lu (n := 2) (j := 7) hn rfl) rfl rfl (Nat.le_of_ble_eq_true rfl)) rfl rfl rfl ?_
  refine me3 (pc' := 9) dm_X8_add_8 (g_len (v := (201 : Int32)) (lu (n := 2) (j := 8) hn rfl) rfl rfl (Nat.le_of_ble_eq_true rfl)) rfl rfl rfl ?_
  refine me_2f (pc' := 12) dm_X8_add_9 rfl (by decide) rfl ?_
  refine me1 (pc' := 13) dm_X8_add_12 rfl rfl rfl rfl ?_
  refine me3 (pc' := 16) dm_X8_add_13 (g_get (v := .ref 10) (lu (n := 2) (j := 7) hn rfl) rfl rfl (Nat.le_of_ble_eq_true rfl)) rfl rfl rfl ?_
  refine me1 (pc' := 17) dm_X8_add_16 rfl rfl rfl rfl ?_
  refine me3 (pc' := 20) dm_X8_add_17 (g_get (v := .int (0 : Int32)) (lu (n := 2) (j := 7) hn rfl) rfl rfl (Nat.le_of_ble_eq_true rfl)) rfl rfl rfl ?_
  refine me1 (pc' := 21) dm_X8_add_20 rfl rfl rfl rfl ?_
  refine me3 (pc' := 22) dm_X8_add_21 (u_iast (n := 2) (j := 8) hn rfl rfl (by decide) rfl (Nat.le_of_ble_eq_true rfl)) rfl rfl rfl ?_
  refine me1 (pc' := 23) dm_X8_add_22 rfl rfl rfl rfl ?_
  refine me3 (pc' := 26) dm_X8_add_23 (g_get (v := .ref 11) (lu (n := 2) (j := 7) hn rfl) rfl rfl (Nat.le_of_ble_eq_true rfl)) rfl rfl rfl ?_
  refine me1 (pc' := 27) dm_X8_add_26 rfl rfl rfl rfl ?_
  refine me3 (pc' := 30) dm_X8_add_27 (g_get (v := .int (0 : Int32)) (lu (n := 2) (j := 7) hn rfl) rfl rfl (Nat.le_of_ble_eq_true rfl)) rfl rfl rfl ?_
  refine me1 (pc' := 31) dm_X8_add_30 rfl rfl rfl rfl ?_
  refine me3 (pc' := 32) dm_X8_add_31 (u_iast (n := 2) (j := 9) hn rfl rfl (by decide) rfl (Nat.le_of_ble_eq_true rfl)) rfl rfl rfl ?_
  refine me1 (pc' := 33) dm_X8_add_32 rfl rfl rfl rfl ?_
  refine me3 (pc' := 36) dm_X8_add_33 (g_get (v := .ref 12) (lu (n := 2) (j := 7) hn rfl) rfl rfl (Nat.le_of_ble_eq_true rfl)) rfl rfl rfl ?_
  refine me1 (pc' := 37) dm_X8_add_36 rfl rfl rfl rfl ?_
  refine me3 (pc' := 40) dm_X8_add_37 (g_get (v := .int (0 : Int32)) (lu (n := 2) (j := 7) hn rfl) rfl rfl (Nat.le_of_ble_eq_true rfl)) rfl rfl rfl ?_
  refine me1 (pc' := 41) dm_X8_add_40 rfl rfl rfl rfl ?_
  refine me3 (pc' := 42) dm_X8_add_41 (u_last (n := 2) (j := 10) hn rfl rfl (by decide) rfl (Nat.le_of_ble_eq_true rfl)) rfl rfl rfl ?_
  refine me1 (pc' := 43) dm_X8_add_42 rfl rfl rfl rfl ?_
  refine me0 (pc' := 44) dm_X8_add_43 rfl rfl rfl rfl ?_
  refine me3 (pc' := 47) dm_X8_add_44 (g_get (v := .int (0 : Int32)) (lu (n := 2) (j := 7) hn rfl) rfl rfl (Nat.le_of_ble_eq_true rfl)) rfl rfl rfl ?_
  refine me0 (pc' := 48) (S' := .int (1 : Int32) :: _) dm_X8_add_47 rfl rfl rfl rfl ?_
  refine me0 (pc' := 49) (S' := .int (1 : Int32) :: _) dm_X8_add_48 rfl rfl rfl rfl ?_
  refine me3 (pc' := 52) dm_X8_add_49 (u_put (fs' := [.ref 10, .ref 11, .ref 12, .int (1 : Int32), .int (0 : Int32), .ref 3, .ref 4, .int (0 : Int32), .int (1 : Int32)]) (n := 2) (j := 7) hn rfl rfl rfl (Nat.le_of_ble_eq_true rfl) rfl (by decide) (fun z => by cases z) rfl (Nat.le_of_ble_eq_true rfl)) rfl rfl rfl ?_
  refine me1 (pc' := 53) dm_X8_add_52 rfl rfl rfl rfl ?_
  refine me1 (pc' := 55) dm_X8_add_53 rfl rfl rfl rfl ?_
  refine me3 (pc' := 58) dm_X8_add_55 (u_put (fs' := [.ref 10, .ref 11, .ref 12, .int (1 : Int32), .int (0 : Int32), .ref 3, .ref 4, .int (0 : Int32), .int (1 : Int32)]) (n := 2) (j := 7) hn rfl rfl rfl (Nat.le_of_ble_eq_true rfl) rfl (by decide) (fun z => by cases z) rfl (Nat.le_of_ble_eq_true rfl)) rfl rfl rfl ?_
  refine me5 dm_X8_add_58 rfl rfl rfl ?_
  refine me5 dm_X8_split_107 rfl rfl rfl ?_
  refine me1 (pc' := 37) dm_X11_line_36 rfl rfl rfl rfl ?_
  refine me3 (pc' := 40) dm_X11_line_37 (g_get (v := .ref 13) (lu (n := 2) (j := 0) hn rfl) rfl rfl (Nat.le_of_ble_eq_true rfl)) rfl rfl rfl ?_
  refine me4 (pc' := 43) (L0 := [(0, .ref 13)]) dm_X11_line_40 rfl (g_inv (As := []) (lu (n := 2) (j := 11) hn rfl) rfl rfl rfl (Nat.le_of_ble_eq_true rfl)) pm_X7_read rfl (Nat.le_of_ble_eq_true rfl) rfl rfl rfl ?_
  refine me1 (pc' := 1) dm_X7_read_0 rfl rfl rfl rfl ?_
  refine me0 (pc' := 2) (S' := .int (0 : Int32) :: _) dm_X7_read_1 rfl rfl rfl rfl ?_
  refine me3 (pc' := 5) dm_X7_read_2 (u_put (fs' := [.ref 9, .int (0 : Int32), .int (0 : Int32), .int (0 : Int32), .long (0 : Int64), .null, .ref 14]) (n := 2) (j := 11) hn rfl rfl rfl (Nat.le_of_ble_eq_true rfl) rfl (by decide) (fun z => by cases z) rfl (Nat.le_of_ble_eq_true rfl)) rfl rfl rfl ?_
  refine me1 (pc' := 6) dm_X7_read_5 rfl rfl rfl rfl ?_
  refine me1 (pc' := 7) dm_X7_read_6 rfl rfl rfl rfl ?_
  refine me3 (pc' := 10) dm_X7_read_7 (g_get (v := .ref 9) (lu (n := 2) (j := 11) hn rfl) rfl rfl (Nat.le_of_ble_eq_true rfl)) rfl rfl rfl ?_
  refine me0 (pc' := 11) (S' := .int (0 : Int32) :: _) dm_X7_read_10 rfl rfl rfl rfl ?_
  refine me4 (pc' := 14) (L0 := [(0, .ref 9), (1, .int (0 : Int32))]) dm_X7_read_11 rfl (g_inv (As := [.int (0 : Int32)]) (lu (n := 2) (j := 7) hn rfl) rfl rfl rfl (Nat.le_of_ble_eq_true rfl)) pm_X8_dataAt rfl (Nat.le_of_ble_eq_true rfl) rfl rfl rfl ?_
  refine me1 (pc' := 1) dm_X8_dataAt_0 rfl rfl rfl rfl ?_
  refine me_1f (pc' := 4) dm_X8_dataAt_1 rfl (by decide) rfl ?_
  refine me1 (pc' := 5) dm_X8_dataAt_4 rfl rfl rfl rfl ?_
  refine me1 (pc' := 6) dm_X8_dataAt_5 rfl rfl rfl rfl ?_
  refine me3 (pc' := 9) dm_X8_dataAt_6 (g_get (v := .int (1 : Int32)) (lu (n := 2) (j := 7) hn rfl) rfl rfl (Nat.le_of_ble_eq_true rfl)) rfl rfl rfl ?_
  refine me_2f (pc' := 12) dm_X8_dataAt_9 rfl (by decide) rfl ?_
  refine me1 (pc' := 13) dm_X8_dataAt_12 rfl rfl rfl rfl ?_
  refine me3 (pc' := 16) dm_X8_dataAt_13 (g_get (v := .ref 12) (lu (n := 2) (j := 7) hn rfl) rfl rfl (Nat.le_of_ble_eq_true rfl)) rfl rfl rfl ?_
  refine me1 (pc' := 17) dm_X8_dataAt_16 rfl rfl rfl rfl ?_
  refine me3 (pc' := 18) dm_X8_dataAt_17 (g_lald (v := (0 : Int64)) (lu (n := 2) (j := 10) hn rfl) rfl (by decide) rfl (Nat.le_of_ble_eq_true rfl)) rfl rfl rfl ?_
  refine me2 (pc' := 22) dm_X8_dataAt_18 rfl rfl rfl ?_
  refine me5 dm_X8_dataAt_22 rfl rfl rfl ?_
  refine me3 (pc' := 17) dm_X7_read_14 (u_put (fs' := [.ref 9, .int (0 : Int32), .int (0 : Int32), .int (0 : Int32), .long (0 : Int64), .null, .ref 14]) (n := 2) (j := 11) hn rfl rfl rfl (Nat.le_of_ble_eq_true rfl) rfl (by decide) (fun z => by cases z) rfl (Nat.le_of_ble_eq_true rfl)) rfl rfl rfl ?_
  refine me1 (pc' := 18) dm_X7_read_17 rfl rfl rfl rfl ?_
  refine me1 (pc' := 19) dm_X7_read_18 rfl rfl rfl rfl ?_
  refine me3 (pc' := 22) dm_X7_read_19 (g_get (v := .ref 9) (lu (n := 2) (j := 11) hn rfl) rfl rfl (Nat.le_of_ble_eq_true rfl)) rfl rfl rfl ?_
  refine me0 (pc' := 23) (S' := .int (0 : Int32) :: _) dm_X7_read_22 rfl rfl rfl rfl ?_
  refine me4 (pc' := 26) (L0 := [(0, .ref 9), (1, .int (0 : Int32))]) dm_X7_read_23 rfl (g_inv (As := [.int (0 : Int32)]) (lu (n := 2) (j := 7) hn rfl) rfl rfl rfl (Nat.le_of_ble_eq_true rfl)) pm_X8_isName rfl (Nat.le_of_ble_eq_true rfl) rfl rfl rfl ?_
  refine me1 (pc' := 1) dm_X8_isName_0 rfl rfl rfl rfl ?_
  refine me1 (pc' := 2) dm_X8_isName_1 rfl rfl rfl rfl ?_
  refine me4 (pc' := 5) (L0 := [(0, .ref 9), (1, .int (0 : Int32))]) dm_X8_isName_2 rfl (g_inv (As := [.int (0 : Int32)]) (lu (n := 2) (j := 7) hn rfl) rfl rfl rfl (Nat.le_of_ble_eq_true rfl)) pm_X8_sortAt rfl (Nat.le_of_ble_eq_true rfl) rfl rfl rfl ?_
  refine me1 (pc' := 1) dm_X8_sortAt_0 rfl rfl rfl rfl ?_
  refine me_1f (pc' := 4) dm_X8_sortAt_1 rfl (by decide) rfl ?_
  refine me1 (pc' := 5) dm_X8_sortAt_4 rfl rfl rfl rfl ?_
  refine me1 (pc' := 6) dm_X8_sortAt_5 rfl rfl rfl rfl ?_
  refine me3 (pc' := 9) dm_X8_sortAt_6 (g_get (v := .int (1 : Int32)) (lu (n := 2) (j := 7) hn rfl) rfl rfl (Nat.le_of_ble_eq_true rfl)) rfl rfl rfl ?_
  refine me_2f (pc' := 12) dm_X8_sortAt_9 rfl (by decide) rfl ?_
  refine me1 (pc' := 13) dm_X8_sortAt_12 rfl rfl rfl rfl ?_
  refine me3 (pc' := 16) dm_X8_sortAt_13 (g_get (v := .ref 10) (lu (n := 2) (j := 7) hn rfl) rfl rfl (Nat.le_of_ble_eq_true rfl)) rfl rfl rfl ?_
  refine me1 (pc' := 17) dm_X8_sortAt_16 rfl rfl rfl rfl ?_
  refine me3 (pc' := 18) dm_X8_sortAt_17 (g_iald (v := (0 : Int32)) (lu (n := 2) (j := 8) hn rfl) rfl (by decide) rfl (Nat.le_of_ble_eq_true rfl)) rfl rfl rfl ?_
  refine me2 (pc' := 22) dm_X8_sortAt_18 rfl rfl rfl ?_
  refine me5 dm_X8_sortAt_22 rfl rfl rfl ?_
  refine me0 (pc' := 6) (S' := .int (3 : Int32) :: _) dm_X8_isName_5 rfl rfl rfl rfl ?_
  refine me_2f (pc' := 9) dm_X8_isName_6 rfl (by decide) rfl ?_
  refine me1 (pc' := 10) dm_X8_isName_9 rfl rfl rfl rfl ?_
  refine me1 (pc' := 11) dm_X8_isName_10 rfl rfl rfl rfl ?_
  refine me4 (pc' := 14) (L0 := [(0, .ref 9), (1, .int (0 : Int32))]) dm_X8_isName_11 rfl (g_inv (As := [.int (0 : Int32)]) (lu (n := 2) (j := 7) hn rfl) rfl rfl rfl (Nat.le_of_ble_eq_true rfl)) pm_X8_sortAt rfl (Nat.le_of_ble_eq_true rfl) rfl rfl rfl ?_
  refine me1 (pc' := 1) dm_X8_sortAt_0 rfl rfl rfl rfl ?_
  refine me_1f (pc' := 4) dm_X8_sortAt_1 rfl (by decide) rfl ?_
  refine me1 (pc' := 5) dm_X8_sortAt_4 rfl rfl rfl rfl ?_
  refine me1 (pc' := 6) dm_X8_sortAt_5 rfl rfl rfl rfl ?_
  refine me3 (pc' := 9) dm_X8_sortAt_6 (g_get (v := .int (1 : Int32)) (lu (n := 2) (j := 7) hn rfl) rfl rfl (Nat.le_of_ble_eq_true rfl)) rfl rfl rfl ?_
  refine me_2f (pc' := 12) dm_X8_sortAt_9 rfl (by decide) rfl ?_
  refine me1 (pc' := 13) dm_X8_sortAt_12 rfl rfl rfl rfl ?_
  refine me3 (pc' := 16) dm_X8_sortAt_13 (g_get (v := .ref 10) (lu (n := 2) (j := 7) hn rfl) rfl rfl (Nat.le_of_ble_eq_true rfl)) rfl rfl rfl ?_
  refine me1 (pc' := 17) dm_X8_sortAt_16 rfl rfl rfl rfl ?_
  refine me3 (pc' := 18) dm_X8_sortAt_17 (g_iald (v := (0 : Int32)) (lu (n := 2) (j := 8) hn rfl) rfl (by decide) rfl (Nat.le_of_ble_eq_true rfl)) rfl rfl rfl ?_
  refine me2 (pc' := 22) dm_X8_sortAt_18 rfl rfl rfl ?_
  refine me5 dm_X8_sortAt_22 rfl rfl rfl ?_
  refine me0 (pc' := 15) (S' := .int (4 : Int32) :: _) dm_X8_isName_14 rfl rfl rfl rfl ?_
  refine me_2t (pc' := 22) dm_X8_isName_15 rfl rfl ?_
  refine me0 (pc' := 23) (S' := .int (0 : Int32) :: _) dm_X8_isName_22 rfl rfl rfl rfl ?_
  refine me5 dm_X8_isName_23 rfl rfl rfl ?_
  refine me_1t (pc' := 36) dm_X7_read_26 rfl rfl ?_
  refine me0 (pc' := 37) (S' := .int (0 : Int32) :: _) dm_X7_read_36 rfl rfl rfl rfl ?_
  refine me3 (pc' := 40) dm_X7_read_37 (u_put (fs' := [.ref 9, .int (0 : Int32), .int (0 : Int32), .int (0 : Int32), .long (0 : Int64), .null, .ref 14]) (n := 2) (j := 11) hn rfl rfl rfl (Nat.le_of_ble_eq_true rfl) rfl (by decide) (fun z => by cases z) rfl (Nat.le_of_ble_eq_true rfl)) rfl rfl rfl ?_
  refine me1 (pc' := 41) dm_X7_read_40 rfl rfl rfl rfl ?_
  refine me3 (pc' := 44) dm_X7_read_41 (g_get (v := .long (0 : Int64)) (lu (n := 2) (j := 11) hn rfl) rfl rfl (Nat.le_of_ble_eq_true rfl)) rfl rfl rfl ?_
  refine me3 (pc' := 47) (S' := .long (24 : Int64) :: _) dm_X7_read_44 rfl rfl rfl rfl ?_
  refine me0 (pc' := 48) (S' := .int (-1 : Int32) :: _) dm_X7_read_47 rfl rfl rfl rfl ?_
  refine me_1f (pc' := 51) dm_X7_read_48 rfl (by decide) rfl ?_
  refine me1 (pc' := 52) dm_X7_read_51 rfl rfl rfl rfl ?_
  refine me3 (pc' := 55) dm_X7_read_52 (g_get (v := .long (0 : Int64)) (lu (n := 2) (j := 11) hn rfl) rfl rfl (Nat.le_of_ble_eq_true rfl)) rfl rfl rfl ?_
  refine me3 (pc' := 58) (S' := .long (25 : Int64) :: _) dm_X7_read_55 rfl rfl rfl rfl ?_
  refine me0 (pc' := 59) (S' := .int (-1 : Int32) :: _) dm_X7_read_58 rfl rfl rfl rfl ?_
  refine me_1t (pc' := 66) dm_X7_read_59 rfl rfl ?_
  refine me0 (pc' := 67) (S' := .int (0 : Int32) :: _) dm_X7_read_66 rfl rfl rfl rfl ?_
  refine me1 (pc' := 68) (L' := [(1, .int (0 : Int32)), (0, .ref 13)]) dm_X7_read_67 rfl rfl rfl rfl ?_
  refine me1 (pc' := 69) dm_X7_read_68 rfl rfl rfl rfl ?_
  refine me3 (pc' := 72) dm_X7_read_69 (g_get (v := .int (0 : Int32)) (lu (n := 2) (j := 11) hn rfl) rfl rfl (Nat.le_of_ble_eq_true rfl)) rfl rfl rfl ?_
  refine me_1t (pc' := 109) dm_X7_read_72 rfl rfl ?_
  refine me0 (pc' := 110) dm_X7_read_109 rfl rfl rfl rfl ?_
  refine me1 (pc' := 111) (L' := [(2, .null), (1, .int (0 : Int32)), (0, .ref 13)]) dm_X7_read_110 rfl rfl rfl rfl ?_
  refine me1 (pc' := 112) dm_X7_read_111 rfl rfl rfl rfl ?_
  refine me3 (pc' := 115) dm_X7_read_112 (g_get (v := .int (0 : Int32)) (lu (n := 2) (j := 11) hn rfl) rfl rfl (Nat.le_of_ble_eq_true rfl)) rfl rfl rfl ?_
  refine me0 (pc' := 116) (S' := .int (3 : Int32) :: _) dm_X7_read_115 rfl rfl rfl rfl ?_
  refine me_2t (pc' := 158) dm_X7_read_116 rfl rfl ?_
  refine me1 (pc' := 159) dm_X7_read_158 rfl rfl rfl rfl ?_
  refine me3 (pc' := 162) dm_X7_read_159 (g_get (v := .int (0 : Int32)) (lu (n := 2) (j := 11) hn rfl) rfl rfl (Nat.le_of_ble_eq_true rfl)) rfl rfl rfl ?_
  refine me_1t (pc' := 182) dm_X7_read_162 rfl rfl ?_
  refine me1 (pc' := 183) dm_X7_read_182 rfl rfl rfl rfl ?_
  refine me1 (pc' := 184) dm_X7_read_183 rfl rfl rfl rfl ?_
  refine me1 (pc' := 185) dm_X7_read_184 rfl rfl rfl rfl ?_
  refine me1 (pc' := 186) dm_X7_read_185 rfl rfl rfl rfl ?_
  refine me3 (pc' := 189) dm_X7_read_186 (g_get (v := .int (0 : Int32)) (lu (n := 2) (j := 11) hn rfl) rfl rfl (Nat.le_of_ble_eq_true rfl)) rfl rfl rfl ?_
  refine me0 (pc' := 190) (S' := .int (2 : Int32) :: _) dm_X7_read_189 rfl rfl rfl rfl ?_
  refine me_2t (pc' := 197) dm_X7_read_190 rfl rfl ?_
  refine me0 (pc' := 198) (S' := .int (0 : Int32) :: _) dm_X7_read_197 rfl rfl rfl rfl ?_
  refine me4 (pc' := 201) (L0 := [(0, .ref 13), (1, .null), (2, .int (0 : Int32))]) dm_X7_read_198 rfl (g_inv (As := [.null, .int (0 : Int32)]) (lu (n := 2) (j := 11) hn rfl) rfl rfl rfl (Nat.le_of_ble_eq_true rfl)) pm_X7_expr rfl (Nat.le_of_ble_eq_true rfl) rfl rfl rfl ?_
  refine me1 (pc' := 1) dm_X7_expr_0 rfl rfl rfl rfl ?_
  refine me1 (pc' := 2) (L' := [(3, .null), (0, .ref 13), (1, .null), (2, .int (0 : Int32))]) dm_X7_expr_1 rfl rfl rfl rfl ?_
  refine me0 (pc' := 3) (S' := .int (0 : Int32) :: _) dm_X7_expr_2 rfl rfl rfl rfl ?_
  refine me1 (pc' := 5) (L' := [(4, .int (0 : Int32)), (3, .null), (0, .ref 13), (1, .null), (2, .int (0 : Int32))]) dm_X7_expr_3 rfl rfl rfl rfl ?_
  refine me1 (pc' := 7) dm_X7_expr_5 rfl rfl rfl rfl ?_
  refine me0 (pc' := 10) (S' := .int (200 : Int32) :: _) dm_X7_expr_7 rfl rfl rfl rfl ?_
  refine me_2f (pc' := 13) dm_X7_expr_10 rfl (by decide) rfl ?_
  refine me1 (pc' := 14) dm_X7_expr_13 rfl rfl rfl rfl ?_
  refine me4 (pc' := 17) (L0 := [(0, .ref 13)]) dm_X7_expr_14 rfl (g_inv (As := []) (lu (n := 2) (j := 11) hn rfl) rfl rfl rfl (Nat.le_of_ble_eq_true rfl)) pm_X7_isDoes rfl (Nat.le_of_ble_eq_true rfl) rfl rfl rfl ?_
  refine me1 (pc' := 1) dm_X7_isDoes_0 rfl rfl rfl rfl ?_
  refine me3 (pc' := 4) dm_X7_isDoes_1 (g_get (v := .ref 9) (lu (n := 2) (j := 11) hn rfl) rfl rfl (Nat.le_of_ble_eq_true rfl)) rfl rfl rfl ?_
  refine me1 (pc' := 5) dm_X7_isDoes_4 rfl rfl rfl rfl ?_
  refine me3 (pc' := 8) dm_X7_isDoes_5 (g_get (v := .int (0 : Int32)) (lu (n := 2) (j := 11) hn rfl) rfl rfl (Nat.le_of_ble_eq_true rfl)) rfl rfl rfl ?_
  refine me4 (pc' := 11) (L0 := [(0, .ref 9), (1, .int (0 : Int32))]) dm_X7_isDoes_8 rfl (g_inv (As := [.int (0 : Int32)]) (lu (n := 2) (j := 7) hn rfl) rfl rfl rfl (Nat.le_of_ble_eq_true rfl)) pm_X8_sortAt rfl (Nat.le_of_ble_eq_true rfl) rfl rfl rfl ?_
  refine me1 (pc' := 1) dm_X8_sortAt_0 rfl rfl rfl rfl ?_
  refine me_1f (pc' := 4) dm_X8_sortAt_1 rfl (by decide) rfl ?_
  refine me1 (pc' := 5) dm_X8_sortAt_4 rfl rfl rfl rfl ?_
  refine me1 (pc' := 6) dm_X8_sortAt_5 rfl rfl rfl rfl ?_
  refine me3 (pc' := 9) dm_X8_sortAt_6 (g_get (v := .int (1 : Int32)) (lu (n := 2) (j := 7) hn rfl) rfl rfl (Nat.le_of_ble_eq_true rfl)) rfl rfl rfl ?_
  refine me_2f (pc' := 12) dm_X8_sortAt_9 rfl (by decide) rfl ?_
  refine me1 (pc' := 13) dm_X8_sortAt_12 rfl rfl rfl rfl ?_
  refine me3 (pc' := 16) dm_X8_sortAt_13 (g_get (v := .ref 10) (lu (n := 2) (j := 7) hn rfl) rfl rfl (Nat.le_of_ble_eq_true rfl)) rfl rfl rfl ?_
  refine me1 (pc' := 17) dm_X8_sortAt_16 rfl rfl rfl rfl ?_
  refine me3 (pc' := 18) dm_X8_sortAt_17 (g_iald (v := (0 : Int32)) (lu (n := 2) (j := 8) hn rfl) rfl (by decide) rfl (Nat.le_of_ble_eq_true rfl)) rfl rfl rfl ?_
  refine me2 (pc' := 22) dm_X8_sortAt_18 rfl rfl rfl ?_
  refine me5 dm_X8_sortAt_22 rfl rfl rfl ?_
  refine me0 (pc' := 12) (S' := .int (5 : Int32) :: _) dm_X7_isDoes_11 rfl rfl rfl rfl ?_
  refine me_2f (pc' := 15) dm_X7_isDoes_12 rfl (by decide) rfl ?_
  refine me1 (pc' := 16) dm_X7_isDoes_15 rfl rfl rfl rfl ?_
  refine me3 (pc' := 19) dm_X7_isDoes_16 (g_get (v := .ref 9) (lu (n := 2) (j := 11) hn rfl) rfl rfl (Nat.le_of_ble_eq_true rfl)) rfl rfl rfl ?_
  refine me1 (pc' := 20) dm_X7_isDoes_19 rfl rfl rfl rfl ?_
  refine me3 (pc' := 23) dm_X7_isDoes_20 (g_get (v := .int (0 : Int32)) (lu (n := 2) (j := 11) hn rfl) rfl rfl (Nat.le_of_ble_eq_true rfl)) rfl rfl rfl ?_
  refine me4 (pc' := 26) (L0 := [(0, .ref 9), (1, .int (0 : Int32))]) dm_X7_isDoes_23 rfl (g_inv (As := [.int (0 : Int32)]) (lu (n := 2) (j := 7) hn rfl) rfl rfl rfl (Nat.le_of_ble_eq_true rfl)) pm_X8_sortAt rfl (Nat.le_of_ble_eq_true rfl) rfl rfl rfl ?_
  refine me1 (pc' := 1) dm_X8_sortAt_0 rfl rfl rfl rfl ?_
  refine me_1f (pc' := 4) dm_X8_sortAt_1 rfl (by decide) rfl ?_
  refine me1 (pc' := 5) dm_X8_sortAt_4 rfl rfl rfl rfl ?_
  refine me1 (pc' := 6) dm_X8_sortAt_5 rfl rfl rfl rfl ?_
  refine me3 (pc' := 9) dm_X8_sortAt_6 (g_get (v := .int (1 : Int32)) (lu (n := 2) (j := 7) hn rfl) rfl rfl (Nat.le_of_ble_eq_true rfl)) rfl rfl rfl ?_
  refine me_2f (pc' := 12) dm_X8_sortAt_9 rfl (by decide) rfl ?_
  refine me1 (pc' := 13) dm_X8_sortAt_12 rfl rfl rfl rfl ?_
  refine me3 (pc' := 16) dm_X8_sortAt_13 (g_get (v := .ref 10) (lu (n := 2) (j := 7) hn rfl) rfl rfl (Nat.le_of_ble_eq_true rfl)) rfl rfl rfl ?_
  refine me1 (pc' := 17) dm_X8_sortAt_16 rfl rfl rfl rfl ?_
  refine me3 (pc' := 18) dm_X8_sortAt_17 (g_iald (v := (0 : Int32)) (lu (n := 2) (j := 8) hn rfl) rfl (by decide) rfl (Nat.le_of_ble_eq_true rfl)) rfl rfl rfl ?_
  refine me2 (pc' := 22) dm_X8_sortAt_18 rfl rfl rfl ?_
  refine me5 dm_X8_sortAt_22 rfl rfl rfl ?_
  refine me0 (pc' := 27) (S' := .int (4 : Int32) :: _) dm_X7_isDoes_26 rfl rfl rfl rfl ?_
  refine me_2t (pc' := 34) dm_X7_isDoes_27 rfl rfl ?_
  refine me0 (pc' := 35) (S' := .int (0 : Int32) :: _) dm_X7_isDoes_34 rfl rfl rfl rfl ?_
  refine me5 dm_X7_isDoes_35 rfl rfl rfl ?_
  refine me_1t (pc' := 44) dm_X7_expr_17 rfl rfl ?_
  refine me1 (pc' := 45) dm_X7_expr_44 rfl rfl rfl rfl ?_
  refine me3 (pc' := 48) dm_X7_expr_45 (g_nw (a := 127) (ne_ (n := 2) (u := 100) (v := 25) (j := 0) hn rfl hv rfl) (ae _) rfl) rfl rfl rfl ?_
  refine me0 (pc' := 49) dm_X7_expr_48 rfl rfl rfl rfl ?_
  refine me0 (pc' := 50) (S' := .int (0 : Int32) :: _) dm_X7_expr_49 rfl rfl rfl rfl ?_
  refine me0 (pc' := 51) (S' := .int (0 : Int32) :: _) dm_X7_expr_50 rfl rfl rfl rfl ?_
  refine me1 (pc' := 52) dm_X7_expr_51 rfl rfl rfl rfl ?_
  refine me4 (pc' := 55) (L0 := [(0, .ref 127), (1, .int (0 : Int32)), (2, .int (0 : Int32)), (3, .null)]) dm_X7_expr_52 rfl (g_invp (As := [.int (0 : Int32), .int (0 : Int32), .null]) rfl rfl rfl) pm_X4_init rfl (Nat.le_of_ble_eq_true rfl) rfl rfl rfl ?_
  refine me1 (pc' := 1) dm_X4_init_0 rfl rfl rfl rfl ?_
  refine me4o (pc' := 4) dm_X4_init_1 rfl rfl (by omega) rfl rfl rfl ?_
  refine me1 (pc' := 5) dm_X4_init_4 rfl rfl rfl rfl ?_
  refine me1 (pc' := 6) dm_X4_init_5 rfl rfl rfl rfl ?_
  refine me3 (pc' := 9) dm_X4_init_6 (g_put (fs' := [.int (0 : Int32), .int (0 : Int32), .int (0 : Int32), .long (0 : Int64), .int (0 : Int32), .int (0 : Int32), .int (0 : Int32), .null, .null, .null]) (le_ (n := 2) (u := 100) (v := 25) (j := 0) hn rfl hv rfl) rfl (se (n := 2) (u := 100) (v := 25) (j := 0) hn rfl hv _) rfl (Nat.le_of_ble_eq_true rfl) rfl (by decide) (fun _ => rfl) (Nat.le_of_ble_eq_true rfl)) rfl rfl rfl ?_
  refine me1 (pc' := 10) dm_X4_init_9 rfl rfl rfl rfl ?_
  refine me1 (pc' := 11) dm_X4_init_10 rfl rfl rfl rfl ?_
  refine me3 (pc' := 14) dm_X4_init_11 (g_put (fs' := [.int (0 : Int32), .int (0 : Int32), .int (0 : Int32), .long (0 : Int64), .int (0 : Int32), .int (0 : Int32), .int (0 : Int32), .null, .null, .null]) (le_ (n := 2) (u := 100) (v := 25) (j := 0) hn rfl hv rfl) rfl (se (n := 2) (u := 100) (v := 25) (j := 0) hn rfl hv _) rfl (Nat.le_of_ble_eq_true rfl) rfl (by decide) (fun _ => rfl) (Nat.le_of_ble_eq_true rfl)) rfl rfl rfl ?_
  refine me1 (pc' := 15) dm_X4_init_14 rfl rfl rfl rfl ?_
  refine me1 (pc' := 16) dm_X4_init_15 rfl rfl rfl rfl ?_
  refine me3 (pc' := 19) dm_X4_init_16 (g_put (fs' := [.int (0 : Int32), .int (0 : Int32), .int (0 : Int32), .long (0 : Int64), .int (0 : Int32), .int (0 : Int32), .int (0 : Int32), .null, .null, .null]) (le_ (n := 2) (u := 100) (v := 25) (j := 0) hn rfl hv rfl) rfl (se (n := 2) (u := 100) (v := 25) (j := 0) hn rfl hv _) rfl (Nat.le_of_ble_eq_true rfl) rfl (by decide) (fun _ => rfl) (Nat.le_of_ble_eq_true rfl)) rfl rfl rfl ?_
  refine me5 dm_X4_init_19 rfl rfl rfl ?_
  refine me1 (pc' := 56) dm_X7_expr_55 rfl rfl rfl rfl ?_
  refine me4 (pc' := 59) (L0 := [(0, .ref 13), (1, .ref 127), (2, .int (0 : Int32))]) dm_X7_expr_56 rfl (g_inv (As := [.ref 127, .int (0 : Int32)]) (lu (n := 2) (j := 11) hn rfl) rfl rfl rfl (Nat.le_of_ble_eq_true rfl)) pm_X7_noun rfl (Nat.le_of_ble_eq_true rfl) rfl rfl rfl ?_
  refine me1 (pc' := 1) dm_X7_noun_0 rfl rfl rfl rfl ?_
  refine me1 (pc' := 2) (L' := [(3, .ref 127), (0, .ref 13), (1, .ref 127), (2, .int (0 : Int32))]) dm_X7_noun_1 rfl rfl rfl rfl ?_
  refine me1 (pc' := 3) dm_X7_noun_2 rfl rfl rfl rfl ?_
  refine me1 (pc' := 4) dm_X7_noun_3 rfl rfl rfl rfl ?_
  refine me1 (pc' := 5) dm_X7_noun_4 rfl rfl rfl rfl ?_
  refine me4 (pc' := 8) (L0 := [(0, .ref 13), (1, .ref 127), (2, .int (0 : Int32))]) dm_X7_noun_5 rfl (g_inv (As := [.ref 127, .int (0 : Int32)]) (lu (n := 2) (j := 11) hn rfl) rfl rfl rfl (Nat.le_of_ble_eq_true rfl)) pm_X7_base rfl (Nat.le_of_ble_eq_true rfl) rfl rfl rfl ?_
  refine me1 (pc' := 1) dm_X7_base_0 rfl rfl rfl rfl ?_
  refine me3 (pc' := 4) dm_X7_base_1 (g_get (v := .ref 9) (lu (n := 2) (j := 11) hn rfl) rfl rfl (Nat.le_of_ble_eq_true rfl)) rfl rfl rfl ?_
  refine me1 (pc' := 5) dm_X7_base_4 rfl rfl rfl rfl ?_
  refine me3 (pc' := 8) dm_X7_base_5 (g_get (v := .int (0 : Int32)) (lu (n := 2) (j := 11) hn rfl) rfl rfl (Nat.le_of_ble_eq_true rfl)) rfl rfl rfl ?_
  refine me4 (pc' := 11) (L0 := [(0, .ref 9), (1, .int (0 : Int32))]) dm_X7_base_8 rfl (g_inv (As := [.int (0 : Int32)]) (lu (n := 2) (j := 7) hn rfl) rfl rfl rfl (Nat.le_of_ble_eq_true rfl)) pm_X8_placeAt rfl (Nat.le_of_ble_eq_true rfl) rfl rfl rfl ?_
  refine me1 (pc' := 1) dm_X8_placeAt_0 rfl rfl rfl rfl ?_
  refine me_1f (pc' := 4) dm_X8_placeAt_1 rfl (by decide) rfl ?_
  refine me1 (pc' := 5) dm_X8_placeAt_4 rfl rfl rfl rfl ?_
  refine me1 (pc' := 6) dm_X8_placeAt_5 rfl rfl rfl rfl ?_
  refine me3 (pc' := 9) dm_X8_placeAt_6 (g_get (v := .int (1 : Int32)) (lu (n := 2) (j := 7) hn rfl) rfl rfl (Nat.le_of_ble_eq_true rfl)) rfl rfl rfl ?_
  refine me_2f (pc' := 12) dm_X8_placeAt_9 rfl (by decide) rfl ?_
  refine me1 (pc' := 13) dm_X8_placeAt_12 rfl rfl rfl rfl ?_
  refine me3 (pc' := 16) dm_X8_placeAt_13 (g_get (v := .ref 11) (lu (n := 2) (j := 7) hn rfl) rfl rfl (Nat.le_of_ble_eq_true rfl)) rfl rfl rfl ?_
  refine me1 (pc' := 17) dm_X8_placeAt_16 rfl rfl rfl rfl ?_
  refine me3 (pc' := 18) dm_X8_placeAt_17 (g_iald (v := (0 : Int32)) (lu (n := 2) (j := 9) hn rfl) rfl (by decide) rfl (Nat.le_of_ble_eq_true rfl)) rfl rfl rfl ?_
  refine me2 (pc' := 25) dm_X8_placeAt_18 rfl rfl rfl ?_
  refine me5 dm_X8_placeAt_25 rfl rfl rfl ?_
  refine me1 (pc' := 12) (L' := [(3, .int (0 : Int32)), (0, .ref 13), (1, .ref 127), (2, .int (0 : Int32))]) dm_X7_base_11 rfl rfl rfl rfl ?_
  refine me1 (pc' := 13) dm_X7_base_12 rfl rfl rfl rfl ?_
  refine me3 (pc' := 16) dm_X7_base_13 (g_get (v := .ref 9) (lu (n := 2) (j := 11) hn rfl) rfl rfl (Nat.le_of_ble_eq_true rfl)) rfl rfl rfl ?_
  refine me1 (pc' := 17) dm_X7_base_16 rfl rfl rfl rfl ?_
  refine me3 (pc' := 20) dm_X7_base_17 (g_get (v := .int (0 : Int32)) (lu (n := 2) (j := 11) hn rfl) rfl rfl (Nat.le_of_ble_eq_true rfl)) rfl rfl rfl ?_
  refine me4 (pc' := 23) (L0 := [(0, .ref 9), (1, .int (0 : Int32))]) dm_X7_base_20 rfl (g_inv (As := [.int (0 : Int32)]) (lu (n := 2) (j := 7) hn rfl) rfl rfl rfl (Nat.le_of_ble_eq_true rfl)) pm_X8_sortAt rfl (Nat.le_of_ble_eq_true rfl) rfl rfl rfl ?_
  refine me1 (pc' := 1) dm_X8_sortAt_0 rfl rfl rfl rfl ?_
  refine me_1f (pc' := 4) dm_X8_sortAt_1 rfl (by decide) rfl ?_
  refine me1 (pc' := 5) dm_X8_sortAt_4 rfl rfl rfl rfl ?_
  refine me1 (pc' := 6) dm_X8_sortAt_5 rfl rfl rfl rfl ?_
  refine me3 (pc' := 9) dm_X8_sortAt_6 (g_get (v := .int (1 : Int32)) (lu (n := 2) (j := 7) hn rfl) rfl rfl (Nat.le_of_ble_eq_true rfl)) rfl rfl rfl ?_
  refine me_2f (pc' := 12) dm_X8_sortAt_9 rfl (by decide) rfl ?_
  refine me1 (pc' := 13) dm_X8_sortAt_12 rfl rfl rfl rfl ?_
  refine me3 (pc' := 16) dm_X8_sortAt_13 (g_get (v := .ref 10) (lu (n := 2) (j := 7) hn rfl) rfl rfl (Nat.le_of_ble_eq_true rfl)) rfl rfl rfl ?_
  refine me1 (pc' := 17) dm_X8_sortAt_16 rfl rfl rfl rfl ?_
  refine me3 (pc' := 18) dm_X8_sortAt_17 (g_iald (v := (0 : Int32)) (lu (n := 2) (j := 8) hn rfl) rfl (by decide) rfl (Nat.le_of_ble_eq_true rfl)) rfl rfl rfl ?_
  refine me2 (pc' := 22) dm_X8_sortAt_18 rfl rfl rfl ?_
  refine me5 dm_X8_sortAt_22 rfl rfl rfl ?_
  refine me1 (pc' := 25) (L' := [(4, .int (0 : Int32)), (3, .int (0 : Int32)), (0, .ref 13), (1, .ref 127), (2, .int (0 : Int32))]) dm_X7_base_23 rfl rfl rfl rfl ?_
  refine me1 (pc' := 27) dm_X7_base_25 rfl rfl rfl rfl ?_
  refine me0 (pc' := 28) (S' := .int (1 : Int32) :: _) dm_X7_base_27 rfl rfl rfl rfl ?_
  refine me_2t (pc' := 37) dm_X7_base_28 rfl rfl ?_
  refine me1 (pc' := 39) dm_X7_base_37 rfl rfl rfl rfl ?_
  refine me0 (pc' := 40) (S' := .int (2 : Int32) :: _) dm_X7_base_39 rfl rfl rfl rfl ?_
  refine me_2t (pc' := 84) dm_X7_base_40 rfl rfl ?_
  refine me1 (pc' := 86) dm_X7_base_84 rfl rfl rfl rfl ?_
  refine me0 (pc' := 87) (S' := .int (3 : Int32) :: _) dm_X7_base_86 rfl rfl rfl rfl ?_
  refine me_2t (pc' := 131) dm_X7_base_87 rfl rfl ?_
  refine me1 (pc' := 132) dm_X7_base_131 rfl rfl rfl rfl ?_
  refine me0 (pc' := 134) (S' := .int (12 : Int32) :: _) dm_X7_base_132 rfl rfl rfl rfl ?_
  refine me_2f (pc' := 137) dm_X7_base_134 rfl (by decide) rfl ?_
  refine me1 (pc' := 138) dm_X7_base_137 rfl rfl rfl rfl ?_
  refine me3 (pc' := 141) dm_X7_base_138 (g_get (v := .ref 9) (lu (n := 2) (j := 11) hn rfl) rfl rfl (Nat.le_of_ble_eq_true rfl)) rfl rfl rfl ?_
  refine me1 (pc' := 142) dm_X7_base_141 rfl rfl rfl rfl ?_
  refine me3 (pc' := 145) dm_X7_base_142 (g_get (v := .int (0 : Int32)) (lu (n := 2) (j := 11) hn rfl) rfl rfl (Nat.le_of_ble_eq_true rfl)) rfl rfl rfl ?_
  refine me0 (pc' := 147) (S' := .int (40 : Int32) :: _) dm_X7_base_145 rfl rfl rfl rfl ?_
  refine me4 (pc' := 150) (L0 := [(0, .ref 9), (1, .int (0 : Int32)), (2, .int (40 : Int32))]) dm_X7_base_147 rfl (g_inv (As := [.int (0 : Int32), .int (40 : Int32)]) (lu (n := 2) (j := 7) hn rfl) rfl rfl rfl (Nat.le_of_ble_eq_true rfl)) pm_X8_isMark rfl (Nat.le_of_ble_eq_true rfl) rfl rfl rfl ?_
  refine me1 (pc' := 1) dm_X8_isMark_0 rfl rfl rfl rfl ?_
  refine me_1f (pc' := 4) dm_X8_isMark_1 rfl (by decide) rfl ?_
  refine me1 (pc' := 5) dm_X8_isMark_4 rfl rfl rfl rfl ?_
  refine me1 (pc' := 6) dm_X8_isMark_5 rfl rfl rfl rfl ?_
  refine me3 (pc' := 9) dm_X8_isMark_6 (g_get (v := .int (1 : Int32)) (lu (n := 2) (j := 7) hn rfl) rfl rfl (Nat.le_of_ble_eq_true rfl)) rfl rfl rfl ?_
  refine me_2f (pc' := 12) dm_X8_isMark_9 rfl (by decide) rfl ?_
  refine me1 (pc' := 13) dm_X8_isMark_12 rfl rfl rfl rfl ?_
  refine me3 (pc' := 16) dm_X8_isMark_13 (g_get (v := .ref 10) (lu (n := 2) (j := 7) hn rfl) rfl rfl (Nat.le_of_ble_eq_true rfl)) rfl rfl rfl ?_
  refine me1 (pc' := 17) dm_X8_isMark_16 rfl rfl rfl rfl ?_
  refine me3 (pc' := 18) dm_X8_isMark_17 (g_iald (v := (0 : Int32)) (lu (n := 2) (j := 8) hn rfl) rfl (by decide) rfl (Nat.le_of_ble_eq_true rfl)) rfl rfl rfl ?_
  refine me0 (pc' := 20) (S' := .int (7 : Int32) :: _) dm_X8_isMark_18 rfl rfl rfl rfl ?_
  refine me_2t (pc' := 39) dm_X8_isMark_20 rfl rfl ?_
  refine me0 (pc' := 40) (S' := .int (0 : Int32) :: _) dm_X8_isMark_39 rfl rfl rfl rfl ?_
  refine me5 dm_X8_isMark_40 rfl rfl rfl ?_
  refine me_1t (pc' := 162) dm_X7_base_150 rfl rfl ?_
  refine me1 (pc' := 163) dm_X7_base_162 rfl rfl rfl rfl ?_
  refine me0 (pc' := 165) (S' := .int (12 : Int32) :: _) dm_X7_base_163 rfl rfl rfl rfl ?_
  refine me_2f (pc' := 168) dm_X7_base_165 rfl (by decide) rfl ?_
  refine me1 (pc' := 169) dm_X7_base_168 rfl rfl rfl rfl ?_
  refine me3 (pc' := 172) dm_X7_base_169 (g_get (v := .ref 9) (lu (n := 2) (j := 11) hn rfl) rfl rfl (Nat.le_of_ble_eq_true rfl)) rfl rfl rfl ?_
  refine me1 (pc' := 173) dm_X7_base_172 rfl rfl rfl rfl ?_
  refine me3 (pc' := 176) dm_X7_base_173 (g_get (v := .int (0 : Int32)) (lu (n := 2) (j := 11) hn rfl) rfl rfl (Nat.le_of_ble_eq_true rfl)) rfl rfl rfl ?_
  refine me0 (pc' := 178) (S' := .int (91 : Int32) :: _) dm_X7_base_176 rfl rfl rfl rfl ?_
  refine me4 (pc' := 181) (L0 := [(0, .ref 9), (1, .int (0 : Int32)), (2, .int (91 : Int32))]) dm_X7_base_178 rfl (g_inv (As := [.int (0 : Int32), .int (91 : Int32)]) (lu (n := 2) (j := 7) hn rfl) rfl rfl rfl (Nat.le_of_ble_eq_true rfl)) pm_X8_isMark rfl (Nat.le_of_ble_eq_true rfl) rfl rfl rfl ?_
  refine me1 (pc' := 1) dm_X8_isMark_0 rfl rfl rfl rfl ?_
  refine me_1f (pc' := 4) dm_X8_isMark_1 rfl (by decide) rfl ?_
  refine me1 (pc' := 5) dm_X8_isMark_4 rfl rfl rfl rfl ?_
  refine me1 (pc' := 6) dm_X8_isMark_5 rfl rfl rfl rfl ?_
  refine me3 (pc' := 9) dm_X8_isMark_6 (g_get (v := .int (1 : Int32)) (lu (n := 2) (j := 7) hn rfl) rfl rfl (Nat.le_of_ble_eq_true rfl)) rfl rfl rfl ?_
  refine me_2f (pc' := 12) dm_X8_isMark_9 rfl (by decide) rfl ?_
  refine me1 (pc' := 13) dm_X8_isMark_12 rfl rfl rfl rfl ?_
  refine me3 (pc' := 16) dm_X8_isMark_13 (g_get (v := .ref 10) (lu (n := 2) (j := 7) hn rfl) rfl rfl (Nat.le_of_ble_eq_true rfl)) rfl rfl rfl ?_
  refine me1 (pc' := 17) dm_X8_isMark_16 rfl rfl rfl rfl ?_
  refine me3 (pc' := 18) dm_X8_isMark_17 (g_iald (v := (0 : Int32)) (lu (n := 2) (j := 8) hn rfl) rfl (by decide) rfl (Nat.le_of_ble_eq_true rfl)) rfl rfl rfl ?_
  refine me0 (pc' := 20) (S' := .int (7 : Int32) :: _) dm_X8_isMark_18 rfl rfl rfl rfl ?_
  refine me_2t (pc' := 39) dm_X8_isMark_20 rfl rfl ?_
  refine me0 (pc' := 40) (S' := .int (0 : Int32) :: _) dm_X8_isMark_39 rfl rfl rfl rfl ?_
  refine me5 dm_X8_isMark_40 rfl rfl rfl ?_
  refine me_1t (pc' := 193) dm_X7_base_181 rfl rfl ?_
  refine me1 (pc' := 194) dm_X7_base_193 rfl rfl rfl rfl ?_
  refine me4 (pc' := 197) (L0 := [(0, .ref 13)]) dm_X7_base_194 rfl (g_inv (As := []) (lu (n := 2) (j := 11) hn rfl) rfl rfl rfl (Nat.le_of_ble_eq_true rfl)) pm_X7_fail rfl (Nat.le_of_ble_eq_true rfl) rfl rfl rfl ?_
  refine me1 (pc' := 1) dm_X7_fail_0 rfl rfl rfl rfl ?_
  refine me1 (pc' := 2) dm_X7_fail_1 rfl rfl rfl rfl ?_
  refine me3 (pc' := 5) dm_X7_fail_2 (g_get (v := .ref 9) (lu (n := 2) (j := 11) hn rfl) rfl rfl (Nat.le_of_ble_eq_true rfl)) rfl rfl rfl ?_
  refine me1 (pc' := 6) dm_X7_fail_5 rfl rfl rfl rfl ?_
  refine me3 (pc' := 9) dm_X7_fail_6 (g_get (v := .int (0 : Int32)) (lu (n := 2) (j := 11) hn rfl) rfl rfl (Nat.le_of_ble_eq_true rfl)) rfl rfl rfl ?_
  refine me4 (pc' := 12) (L0 := [(0, .ref 9), (1, .int (0 : Int32))]) dm_X7_fail_9 rfl (g_inv (As := [.int (0 : Int32)]) (lu (n := 2) (j := 7) hn rfl) rfl rfl rfl (Nat.le_of_ble_eq_true rfl)) pm_X8_placeAt rfl (Nat.le_of_ble_eq_true rfl) rfl rfl rfl ?_
  refine me1 (pc' := 1) dm_X8_placeAt_0 rfl rfl rfl rfl ?_
  refine me_1f (pc' := 4) dm_X8_placeAt_1 rfl (by decide) rfl ?_
  refine me1 (pc' := 5) dm_X8_placeAt_4 rfl rfl rfl rfl ?_
  refine me1 (pc' := 6) dm_X8_placeAt_5 rfl rfl rfl rfl ?_
  refine me3 (pc' := 9) dm_X8_placeAt_6 (g_get (v := .int (1 : Int32)) (lu (n := 2) (j := 7) hn rfl) rfl rfl (Nat.le_of_ble_eq_true rfl)) rfl rfl rfl ?_
  refine me_2f (pc' := 12) dm_X8_placeAt_9 rfl (by decide) rfl ?_
  refine me1 (pc' := 13) dm_X8_placeAt_12 rfl rfl rfl rfl ?_
  refine me3 (pc' := 16) dm_X8_placeAt_13 (g_get (v := .ref 11) (lu (n := 2) (j := 7) hn rfl) rfl rfl (Nat.le_of_ble_eq_true rfl)) rfl rfl rfl ?_
  refine me1 (pc' := 17) dm_X8_placeAt_16 rfl rfl rfl rfl ?_
  refine me3 (pc' := 18) dm_X8_placeAt_17 (g_iald (v := (0 : Int32)) (lu (n := 2) (j := 9) hn rfl) rfl (by decide) rfl (Nat.le_of_ble_eq_true rfl)) rfl rfl rfl ?_
  refine me2 (pc' := 25) dm_X8_placeAt_18 rfl rfl rfl ?_
  refine me5 dm_X8_placeAt_25 rfl rfl rfl ?_
  refine me3 (pc' := 15) dm_X7_fail_12 (u_put (fs' := [.ref 9, .int (0 : Int32), .int (0 : Int32), .int (0 : Int32), .long (0 : Int64), .null, .ref 14]) (n := 2) (j := 11) hn rfl rfl rfl (Nat.le_of_ble_eq_true rfl) rfl (by decide) (fun z => by cases z) rfl (Nat.le_of_ble_eq_true rfl)) rfl rfl rfl ?_
  refine me0 (pc' := 16) dm_X7_fail_15 rfl rfl rfl rfl ?_
  refine me5 dm_X7_fail_16 rfl rfl rfl ?_
  refine me5 dm_X7_base_197 rfl rfl rfl ?_
  refine me1 (pc' := 10) (L' := [(4, .null), (3, .ref 127), (0, .ref 13), (1, .ref 127), (2, .int (0 : Int32))]) dm_X7_noun_8 rfl rfl rfl rfl ?_
  refine me0 (pc' := 11) (S' := .int (0 : Int32) :: _) dm_X7_noun_10 rfl rfl rfl rfl ?_
  refine me1 (pc' := 13) (L' := [(5, .int (0 : Int32)), (4, .null), (3, .ref 127), (0, .ref 13), (1, .ref 127), (2, .int (0 : Int32))]) dm_X7_noun_11 rfl rfl rfl rfl ?_
  refine me1 (pc' := 15) dm_X7_noun_13 rfl rfl rfl rfl ?_
  refine me0 (pc' := 18) (S' := .int (200 : Int32) :: _) dm_X7_noun_15 rfl rfl rfl rfl ?_
  refine me_2f (pc' := 21) dm_X7_noun_18 rfl (by decide) rfl ?_
  refine me1 (pc' := 23) dm_X7_noun_21 rfl rfl rfl rfl ?_
  refine me2 (pc' := 108) dm_X7_noun_23 rfl rfl rfl ?_
  refine me1 (pc' := 109) dm_X7_noun_108 rfl rfl rfl rfl ?_
  refine me1 (pc' := 110) dm_X7_noun_109 rfl rfl rfl rfl ?_
  refine me3 (pc' := 113) dm_X7_noun_110 (u_put (fs' := [.ref 9, .int (0 : Int32), .int (0 : Int32), .int (0 : Int32), .long (0 : Int64), .null, .ref 127]) (n := 2) (j := 11) hn rfl rfl rfl (Nat.le_of_ble_eq_true rfl) rfl (by decide) (fun z => by cases z) rfl (Nat.le_of_ble_eq_true rfl)) rfl rfl rfl ?_
  refine me1 (pc' := 115) dm_X7_noun_113 rfl rfl rfl rfl ?_
  refine me5 dm_X7_noun_115 rfl rfl rfl ?_
  refine me1 (pc' := 61) (L' := [(5, .null), (4, .int (0 : Int32)), (3, .null), (0, .ref 13), (1, .null), (2, .int (0 : Int32))]) dm_X7_expr_59 rfl rfl rfl rfl ?_
  refine me1 (pc' := 63) dm_X7_expr_61 rfl rfl rfl rfl ?_
  refine me2 (pc' := 73) dm_X7_expr_63 rfl rfl rfl ?_
  refine me1 (pc' := 75) dm_X7_expr_73 rfl rfl rfl rfl ?_
  refine me5 dm_X7_expr_75 rfl rfl rfl ?_
  refine me3 (pc' := 204) dm_X7_read_201 (u_put (fs' := [.ref 9, .int (0 : Int32), .int (0 : Int32), .int (0 : Int32), .long (0 : Int64), .null, .ref 127]) (n := 2) (j := 11) hn rfl rfl rfl (Nat.le_of_ble_eq_true rfl) rfl (by decide) (fun z => by cases z) rfl (Nat.le_of_ble_eq_true rfl)) rfl rfl rfl ?_
  refine me1 (pc' := 205) dm_X7_read_204 rfl rfl rfl rfl ?_
  refine me3 (pc' := 208) dm_X7_read_205 (g_get (v := .null) (lu (n := 2) (j := 11) hn rfl) rfl rfl (Nat.le_of_ble_eq_true rfl)) rfl rfl rfl ?_
  refine me2 (pc' := 228) dm_X7_read_208 rfl rfl rfl ?_
  refine me0 (pc' := 229) (S' := .int (0 : Int32) :: _) dm_X7_read_228 rfl rfl rfl rfl ?_
  refine me5 dm_X7_read_229 rfl rfl rfl ?_
  refine me_1f (pc' := 46) dm_X11_line_43 rfl (by decide) rfl ?_
  refine me1 (pc' := 47) dm_X11_line_46 rfl rfl rfl rfl ?_
  refine me0 (pc' := 48) (S' := .int (1 : Int32) :: _) dm_X11_line_47 rfl rfl rfl rfl ?_
  refine me1 (pc' := 49) dm_X11_line_48 rfl rfl rfl rfl ?_
  refine me3 (pc' := 52) dm_X11_line_49 (g_get (v := .ref 13) (lu (n := 2) (j := 0) hn rfl) rfl rfl (Nat.le_of_ble_eq_true rfl)) rfl rfl rfl ?_
  refine me4 (pc' := 55) (L0 := [(0, .ref 13)]) dm_X11_line_52 rfl (g_inv (As := []) (lu (n := 2) (j := 11) hn rfl) rfl rfl rfl (Nat.le_of_ble_eq_true rfl)) pm_X7_wrongPlace rfl (Nat.le_of_ble_eq_true rfl) rfl rfl rfl ?_
  refine me1 (pc' := 1) dm_X7_wrongPlace_0 rfl rfl rfl rfl ?_
  refine me3 (pc' := 4) dm_X7_wrongPlace_1 (g_get (v := .int (0 : Int32)) (lu (n := 2) (j := 11) hn rfl) rfl rfl (Nat.le_of_ble_eq_true rfl)) rfl rfl rfl ?_
  refine me5 dm_X7_wrongPlace_4 rfl rfl rfl ?_
  refine me4 (pc' := 58) (L0 := [(0, .ref 2), (1, .int (1 : Int32)), (2, .int (0 : Int32))]) dm_X11_line_55 rfl (g_inv (As := [.int (1 : Int32), .int (0 : Int32)]) (lu (n := 2) (j := 0) hn rfl) rfl rfl rfl (Nat.le_of_ble_eq_true rfl)) pm_X11_endLine rfl (Nat.le_of_ble_eq_true rfl) rfl rfl rfl ?_
  refine me1 (pc' := 1) dm_X11_endLine_0 rfl rfl rfl rfl ?_
  refine me1 (pc' := 2) dm_X11_endLine_1 rfl rfl rfl rfl ?_
  refine me3 (pc' := 5) dm_X11_endLine_2 (u_put (fs' := [.ref 3, .int (0 : Int32), .ref 4, .ref 9, .ref 13, .ref 15, .ref 16, .ref 98, .ref 101, .ref 101, .int (1 : Int32), .int (-1 : Int32), .int (0 : Int32)]) (n := 2) (j := 0) hn rfl rfl rfl (Nat.le_of_ble_eq_true rfl) rfl (by decide) (fun z => by cases z) rfl (Nat.le_of_ble_eq_true rfl)) rfl rfl rfl ?_
  refine me1 (pc' := 6) dm_X11_endLine_5 rfl rfl rfl rfl ?_
  refine me1 (pc' := 7) dm_X11_endLine_6 rfl rfl rfl rfl ?_
  refine me3 (pc' := 10) dm_X11_endLine_7 (u_put (fs' := [.ref 3, .int (0 : Int32), .ref 4, .ref 9, .ref 13, .ref 15, .ref 16, .ref 98, .ref 101, .ref 101, .int (1 : Int32), .int (0 : Int32), .int (0 : Int32)]) (n := 2) (j := 0) hn rfl rfl rfl (Nat.le_of_ble_eq_true rfl) rfl (by decide) (fun z => by cases z) rfl (Nat.le_of_ble_eq_true rfl)) rfl rfl rfl ?_
  refine me5 dm_X11_endLine_10 rfl rfl rfl ?_
  refine me2 (pc' := 144) dm_X11_line_58 rfl rfl rfl ?_
  refine me1 (pc' := 145) dm_X11_line_144 rfl rfl rfl rfl ?_
  refine me1 (pc' := 146) dm_X11_line_145 rfl rfl rfl rfl ?_
  refine me1 (pc' := 147) dm_X11_line_146 rfl rfl rfl rfl ?_
  refine me3 (pc' := 150) dm_X11_line_147 (g_get (v := .ref 16) (lu (n := 2) (j := 0) hn rfl) rfl rfl (Nat.le_of_ble_eq_true rfl)) rfl rfl rfl ?_
  refine me4 (pc' := 153) (L0 := [(0, .ref 16)]) dm_X11_line_150 rfl (g_inv (As := []) (lu (n := 2) (j := 14) hn rfl) rfl rfl rfl (Nat.le_of_ble_eq_true rfl)) pm_X1_workLeft rfl (Nat.le_of_ble_eq_true rfl) rfl rfl rfl ?_
  refine me1 (pc' := 1) dm_X1_workLeft_0 rfl rfl rfl rfl ?_
  refine me3 (pc' := 4) dm_X1_workLeft_1 (g_get (v := .int (500000 : Int32)) (lu (n := 2) (j := 14) hn rfl) rfl rfl (Nat.le_of_ble_eq_true rfl)) rfl rfl rfl ?_
  refine me5 dm_X1_workLeft_4 rfl rfl rfl ?_
  refine me0 (pc' := 154) (S' := .int (0 : Int32) :: _) dm_X11_line_153 rfl rfl rfl rfl ?_
  refine me3 (pc' := 157) dm_X11_line_154 (u_put (fs' := [.ref 3, .int (0 : Int32), .ref 4, .ref 9, .ref 13, .ref 15, .ref 16, .ref 98, .ref 101, .ref 101, .int (1 : Int32), .int (0 : Int32), .int (0 : Int32)]) (n := 2) (j := 0) hn rfl rfl rfl (Nat.le_of_ble_eq_true rfl) rfl (by decide) (fun z => by cases z) rfl (Nat.le_of_ble_eq_true rfl)) rfl rfl rfl ?_
  refine me1 (pc' := 158) dm_X11_line_157 rfl rfl rfl rfl ?_
  refine me1 (pc' := 159) dm_X11_line_158 rfl rfl rfl rfl ?_
  refine me3 (pc' := 162) dm_X11_line_159 (g_get (v := .ref 101) (lu (n := 2) (j := 0) hn rfl) rfl rfl (Nat.le_of_ble_eq_true rfl)) rfl rfl rfl ?_
  refine me3 (pc' := 165) dm_X11_line_162 (u_put (fs' := [.ref 3, .int (0 : Int32), .ref 4, .ref 9, .ref 13, .ref 15, .ref 16, .ref 98, .ref 101, .ref 101, .int (1 : Int32), .int (0 : Int32), .int (0 : Int32)]) (n := 2) (j := 0) hn rfl rfl rfl (Nat.le_of_ble_eq_true rfl) rfl (by decide) (fun z => by cases z) rfl (Nat.le_of_ble_eq_true rfl)) rfl rfl rfl ?_
  refine me1 (pc' := 166) dm_X11_line_165 rfl rfl rfl rfl ?_
  refine me3 (pc' := 169) dm_X11_line_166 (g_get (v := .int (1 : Int32)) (lu (n := 2) (j := 0) hn rfl) rfl rfl (Nat.le_of_ble_eq_true rfl)) rfl rfl rfl ?_
  refine me0 (pc' := 170) (S' := .int (-1 : Int32) :: _) dm_X11_line_169 rfl rfl rfl rfl ?_
  refine me5 dm_X11_line_170 rfl rfl rfl ?_
  exact k _ _ rfl (Nat.le_of_ble_eq_true rfl) (Nat.le_of_ble_eq_true rfl) (Nat.le_of_ble_eq_true rfl)
set_option maxRecDepth 100000 in
set_option maxHeartbeats 40000000 in
theorem c_line_ge {xt : mj_X} {d : Nat} {h V : mj_H} (hn : h.length = 2) (hv : V.length = 25) {P : Option Value → mj_H → Prop} {p0 : Int32} (hl0 : 1 ≤ p0.toInt) (k : ∀ U D, U.length = 100 → mj_sl U ≤ 20000 → D.length ≤ 10 → mj_sl D ≤ 2000 → P (some (.int (-100 : Int32))) (h ++ (U ++ (V ++ D)))) : pgE xt (d + 20) 11 3 false (Option.some FieldType.int) (mj_dec prog_1_method_4_code) 0 [(0, .ref 2), (1, .int p0)] [] (h ++ (cT ++ (V ++ []))) P := by
  refine me1 (pc' := 1) dm_X11_line_0 rfl rfl rfl rfl ?_
  refine me_1f (pc' := 4) dm_X11_line_1 rfl (cn_f_lt (c := 0) rfl (by omega)) rfl ?_
  refine me1 (pc' := 5) dm_X11_line_4 rfl rfl rfl rfl ?_
  refine me1 (pc' := 6) dm_X11_line_5 rfl rfl rfl rfl ?_
  refine me3 (pc' := 9) dm_X11_line_6 (g_get (v := .int (0 : Int32)) (lu (n := 2) (j := 0) hn rfl) rfl rfl (Nat.le_of_ble_eq_true rfl)) rfl rfl rfl ?_
  refine me_2f (pc' := 12) dm_X11_line_9 rfl (cn_f_le (c := 0) rfl (by omega)) rfl ?_
  refine me0 (pc' := 14) (S' := .int (-100 : Int32) :: _) dm_X11_line_12 rfl rfl rfl rfl ?_
  refine me5 dm_X11_line_14 rfl rfl rfl ?_
  exact k _ _ rfl (Nat.le_of_ble_eq_true rfl) (Nat.le_of_ble_eq_true rfl) (Nat.le_of_ble_eq_true rfl)
