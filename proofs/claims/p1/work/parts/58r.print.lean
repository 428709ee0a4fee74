set_option maxRecDepth 100000 in
set_option maxHeartbeats 40000000 in
theorem r_print {xt : mj_X} {d : Nat} {h W : mj_H} (hn : h.length = 102) {P : Option Value → mj_H → Prop}  (k : ∀ U, U.length = 25 → mj_sl U ≤ 3000000 → P (some (.int (1 : Int32))) (h ++ (U ++ W))) : pgE xt (d + 20) 12 2 false (Option.some FieldType.int) (mj_dec prog_14_method_117_code) 0 [(0, .ref 102)] [] (h ++ (rT ++ W)) P := by
  refine me1 (pc' := 1) dm_X12_print_0 rfl rfl rfl rfl ?_
  refine me0 (pc' := 2) (S' := .int (0 : Int32) :: _) dm_X12_print_1 rfl rfl rfl rfl ?_
  refine me3 (pc' := 5) dm_X12_print_2 (u_put (fs' := [.ref 103, .ref 104, .ref 105, .int (1 : Int32), .int (4 : Int32), .int (0 : Int32), .int (-1 : Int32), .int (0 : Int32), .int (500000 : Int32), .int (0 : Int32), .int (0 : Int32), .int (0 : Int32), .ref 106, .int (0 : Int32), .ref 107, .ref 108, .ref 109, .int (0 : Int32), .int (0 : Int32), .ref 110, .ref 111, .ref 112, .ref 113, .int (0 : Int32), .int (0 : Int32), .ref 114, .ref 115, .ref 116, .ref 117, .ref 118, .int (3 : Int32), .int (3 : Int32), .ref 119, .int (0 : Int32), .int (0 : Int32), .int (0 : Int32), .int (0 : Int32), .int (0 : Int32), .int (0 : Int32), .int (0 : Int32), .int (0 : Int32), .long (0 : Int64), .long (0 : Int64), .ref 120, .ref 121, .ref 122, .ref 123, .ref 124, .ref 125, .ref 126, .int (0 : Int32), .int (0 : Int32), .int (0 : Int32), .int (0 : Int32), .int (0 : Int32), .int (0 : Int32), .long (0 : Int64), .int (0 : Int32), .int (-1 : Int32), .int (-1 : Int32)]) (n := 102) (j := 0) hn rfl rfl rfl (Nat.le_of_ble_eq_true rfl) rfl (by decide) (fun z => by cases z) rfl (Nat.le_of_ble_eq_true rfl)) rfl rfl rfl ?_
  refine me1 (pc' := 6) dm_X12_print_5 rfl rfl rfl rfl ?_
  refine me1 (pc' := 7) dm_X12_print_6 rfl rfl rfl rfl ?_
  refine me3 (pc' := 10) dm_X12_print_7 (g_get (v := .int (3 : Int32)) (lu (n := 102) (j := 0) hn rfl) rfl rfl (Nat.le_of_ble_eq_true rfl)) rfl rfl rfl ?_
  refine me4 (pc' := 13) (L0 := [(0, .ref 102), (1, .int (3 : Int32))]) dm_X12_print_10 rfl (g_inv (As := [.int (3 : Int32)]) (lu (n := 102) (j := 0) hn rfl) rfl rfl rfl (Nat.le_of_ble_eq_true rfl)) pm_X12_putValue rfl (Nat.le_of_ble_eq_true rfl) rfl rfl rfl ?_
  refine me1 (pc' := 1) dm_X12_putValue_0 rfl rfl rfl rfl ?_
  refine me1 (pc' := 2) dm_X12_putValue_1 rfl rfl rfl rfl ?_
  refine me4 (pc' := 5) (L0 := [(0, .ref 102), (1, .int (3 : Int32))]) dm_X12_putValue_2 rfl (g_inv (As := [.int (3 : Int32)]) (lu (n := 102) (j := 0) hn rfl) rfl rfl rfl (Nat.le_of_ble_eq_true rfl)) pm_X12_kindOf rfl (Nat.le_of_ble_eq_true rfl) rfl rfl rfl ?_
  refine me1 (pc' := 1) dm_X12_kindOf_0 rfl rfl rfl rfl ?_
  refine me3 (pc' := 4) dm_X12_kindOf_1 (g_get (v := .ref 105) (lu (n := 102) (j := 0) hn rfl) rfl rfl (Nat.le_of_ble_eq_true rfl)) rfl rfl rfl ?_
  refine me1 (pc' := 5) dm_X12_kindOf_4 rfl rfl rfl rfl ?_
  refine me3 (pc' := 6) dm_X12_kindOf_5 (g_iald (v := (8 : Int32)) (lu (n := 102) (j := 3) hn rfl) rfl (by decide) rfl (Nat.le_of_ble_eq_true rfl)) rfl rfl rfl ?_
  refine me0 (pc' := 8) (S' := .int (7 : Int32) :: _) dm_X12_kindOf_6 rfl rfl rfl rfl ?_
  refine me0 (pc' := 9) (S' := .int (0 : Int32) :: _) dm_X12_kindOf_8 rfl rfl rfl rfl ?_
  refine me5 dm_X12_kindOf_9 rfl rfl rfl ?_
  refine me1 (pc' := 6) (L' := [(2, .int (0 : Int32)), (0, .ref 102), (1, .int (3 : Int32))]) dm_X12_putValue_5 rfl rfl rfl rfl ?_
  refine me1 (pc' := 7) dm_X12_putValue_6 rfl rfl rfl rfl ?_
  refine me1 (pc' := 8) dm_X12_putValue_7 rfl rfl rfl rfl ?_
  refine me4 (pc' := 11) (L0 := [(0, .ref 102), (1, .int (3 : Int32))]) dm_X12_putValue_8 rfl (g_inv (As := [.int (3 : Int32)]) (lu (n := 102) (j := 0) hn rfl) rfl rfl rfl (Nat.le_of_ble_eq_true rfl)) pm_X12_many rfl (Nat.le_of_ble_eq_true rfl) rfl rfl rfl ?_
  refine me1 (pc' := 1) dm_X12_many_0 rfl rfl rfl rfl ?_
  refine me3 (pc' := 4) dm_X12_many_1 (g_get (v := .ref 105) (lu (n := 102) (j := 0) hn rfl) rfl rfl (Nat.le_of_ble_eq_true rfl)) rfl rfl rfl ?_
  refine me1 (pc' := 5) dm_X12_many_4 rfl rfl rfl rfl ?_
  refine me3 (pc' := 6) dm_X12_many_5 (g_iald (v := (8 : Int32)) (lu (n := 102) (j := 3) hn rfl) rfl (by decide) rfl (Nat.le_of_ble_eq_true rfl)) rfl rfl rfl ?_
  refine me0 (pc' := 7) (S' := .int (3 : Int32) :: _) dm_X12_many_6 rfl rfl rfl rfl ?_
  refine me0 (pc' := 8) (S' := .int (1 : Int32) :: _) dm_X12_many_7 rfl rfl rfl rfl ?_
  refine me0 (pc' := 11) (S' := .int (255 : Int32) :: _) dm_X12_many_8 rfl rfl rfl rfl ?_
  refine me0 (pc' := 12) (S' := .int (1 : Int32) :: _) dm_X12_many_11 rfl rfl rfl rfl ?_
  refine me5 dm_X12_many_12 rfl rfl rfl ?_
  refine me1 (pc' := 12) (L' := [(3, .int (1 : Int32)), (2, .int (0 : Int32)), (0, .ref 102), (1, .int (3 : Int32))]) dm_X12_putValue_11 rfl rfl rfl rfl ?_
  refine me1 (pc' := 13) dm_X12_putValue_12 rfl rfl rfl rfl ?_
  refine me2 (pc' := 60) dm_X12_putValue_13 rfl rfl rfl ?_
  refine me1 (pc' := 61) dm_X12_putValue_60 rfl rfl rfl rfl ?_
  refine me1 (pc' := 62) dm_X12_putValue_61 rfl rfl rfl rfl ?_
  refine me1 (pc' := 63) dm_X12_putValue_62 rfl rfl rfl rfl ?_
  refine me0 (pc' := 64) (S' := .int (0 : Int32) :: _) dm_X12_putValue_63 rfl rfl rfl rfl ?_
  refine me4 (pc' := 67) (L0 := [(0, .ref 102), (1, .int (3 : Int32)), (2, .int (0 : Int32))]) dm_X12_putValue_64 rfl (g_inv (As := [.int (3 : Int32), .int (0 : Int32)]) (lu (n := 102) (j := 0) hn rfl) rfl rfl rfl (Nat.le_of_ble_eq_true rfl)) pm_X12_number rfl (Nat.le_of_ble_eq_true rfl) rfl rfl rfl ?_
  refine me1 (pc' := 1) dm_X12_number_0 rfl rfl rfl rfl ?_
  refine me3 (pc' := 4) dm_X12_number_1 (g_get (v := .ref 103) (lu (n := 102) (j := 0) hn rfl) rfl rfl (Nat.le_of_ble_eq_true rfl)) rfl rfl rfl ?_
  refine me1 (pc' := 5) dm_X12_number_4 rfl rfl rfl rfl ?_
  refine me3 (pc' := 8) dm_X12_number_5 (g_get (v := .ref 104) (lu (n := 102) (j := 0) hn rfl) rfl rfl (Nat.le_of_ble_eq_true rfl)) rfl rfl rfl ?_
  refine me1 (pc' := 9) dm_X12_number_8 rfl rfl rfl rfl ?_
  refine me3 (pc' := 10) dm_X12_number_9 (g_iald (v := (0 : Int32)) (lu (n := 102) (j := 2) hn rfl) rfl (by decide) rfl (Nat.le_of_ble_eq_true rfl)) rfl rfl rfl ?_
  refine me1 (pc' := 11) dm_X12_number_10 rfl rfl rfl rfl ?_
  refine me0 (pc' := 12) (S' := .int (0 : Int32) :: _) dm_X12_number_11 rfl rfl rfl rfl ?_
  refine me3 (pc' := 13) dm_X12_number_12 (g_lald (v := (0 : Int64)) (lu (n := 102) (j := 1) hn rfl) rfl (by decide) rfl (Nat.le_of_ble_eq_true rfl)) rfl rfl rfl ?_
  refine me5 dm_X12_number_13 rfl rfl rfl ?_
  refine me4 (pc' := 70) (L0 := [(0, .ref 102), (1, .long (0 : Int64))]) dm_X12_putValue_67 rfl (g_inv (As := [.long (0 : Int64)]) (lu (n := 102) (j := 0) hn rfl) rfl rfl rfl (Nat.le_of_ble_eq_true rfl)) pm_X12_putNumber rfl (Nat.le_of_ble_eq_true rfl) rfl rfl rfl ?_
  refine me1 (pc' := 1) dm_X12_putNumber_0 rfl rfl rfl rfl ?_
  refine me0 (pc' := 2) (S' := .long (0 : Int64) :: _) dm_X12_putNumber_1 rfl rfl rfl rfl ?_
  refine me0 (pc' := 3) (S' := .int (0 : Int32) :: _) dm_X12_putNumber_2 rfl rfl rfl rfl ?_
  refine me_1t (pc' := 12) dm_X12_putNumber_3 rfl rfl ?_
  refine me0 (pc' := 13) (S' := .long (1 : Int64) :: _) dm_X12_putNumber_12 rfl rfl rfl rfl ?_
  refine me1 (pc' := 14) (L' := [(3, .long (1 : Int64)), (0, .ref 102), (1, .long (0 : Int64))]) dm_X12_putNumber_13 rfl rfl rfl rfl ?_
  refine me1 (pc' := 15) dm_X12_putNumber_14 rfl rfl rfl rfl ?_
  refine me0 (pc' := 16) (S' := .long (0 : Int64) :: _) dm_X12_putNumber_15 rfl rfl rfl rfl ?_
  refine me0 (pc' := 17) (S' := .int (0 : Int32) :: _) dm_X12_putNumber_16 rfl rfl rfl rfl ?_
  refine me_1t (pc' := 24) dm_X12_putNumber_17 rfl rfl ?_
  refine me1 (pc' := 25) dm_X12_putNumber_24 rfl rfl rfl rfl ?_
  refine me0 (pc' := 26) (S' := .long (0 : Int64) :: _) dm_X12_putNumber_25 rfl rfl rfl rfl ?_
  refine me1 (pc' := 28) (L' := [(5, .long (0 : Int64)), (3, .long (1 : Int64)), (0, .ref 102), (1, .long (0 : Int64))]) dm_X12_putNumber_26 rfl rfl rfl rfl ?_
  refine me1 (pc' := 30) dm_X12_putNumber_28 rfl rfl rfl rfl ?_
  refine me1 (pc' := 31) dm_X12_putNumber_30 rfl rfl rfl rfl ?_
  refine me0 (pc' := 32) (S' := .long (0 : Int64) :: _) dm_X12_putNumber_31 rfl rfl rfl rfl ?_
  refine me3 (pc' := 35) (S' := .long (-10 : Int64) :: _) dm_X12_putNumber_32 rfl rfl rfl rfl ?_
  refine me0 (pc' := 36) (S' := .int (1 : Int32) :: _) dm_X12_putNumber_35 rfl rfl rfl rfl ?_
  refine me_1t (pc' := 48) dm_X12_putNumber_36 rfl rfl ?_
  refine me1 (pc' := 49) dm_X12_putNumber_48 rfl rfl rfl rfl ?_
  refine me0 (pc' := 50) (S' := .long (0 : Int64) :: _) dm_X12_putNumber_49 rfl rfl rfl rfl ?_
  refine me0 (pc' := 51) (S' := .int (1 : Int32) :: _) dm_X12_putNumber_50 rfl rfl rfl rfl ?_
  refine me_1f (pc' := 54) dm_X12_putNumber_51 rfl (by decide) rfl ?_
  refine me1 (pc' := 55) dm_X12_putNumber_54 rfl rfl rfl rfl ?_
  refine me3 (pc' := 58) (S' := .long (48 : Int64) :: _) dm_X12_putNumber_55 rfl rfl rfl rfl ?_
  refine me1 (pc' := 60) dm_X12_putNumber_58 rfl rfl rfl rfl ?_
  refine me1 (pc' := 61) dm_X12_putNumber_60 rfl rfl rfl rfl ?_
  refine me0 (pc' := 62) (S' := .long (0 : Int64) :: _) dm_X12_putNumber_61 rfl rfl rfl rfl ?_
  refine me3 (pc' := 65) (S' := .long (10 : Int64) :: _) dm_X12_putNumber_62 rfl rfl rfl rfl ?_
  refine me0 (pc' := 66) (S' := .long (0 : Int64) :: _) dm_X12_putNumber_65 rfl rfl rfl rfl ?_
  refine me0 (pc' := 67) (S' := .long (48 : Int64) :: _) dm_X12_putNumber_66 rfl rfl rfl rfl ?_
  refine me0 (pc' := 68) (S' := .int (48 : Int32) :: _) dm_X12_putNumber_67 rfl rfl rfl rfl ?_
  refine me4 (pc' := 71) (L0 := [(0, .ref 102), (1, .int (48 : Int32))]) dm_X12_putNumber_68 rfl (g_inv (As := [.int (48 : Int32)]) (lu (n := 102) (j := 0) hn rfl) rfl rfl rfl (Nat.le_of_ble_eq_true rfl)) pm_X12_put rfl (Nat.le_of_ble_eq_true rfl) rfl rfl rfl ?_
  refine me1 (pc' := 1) dm_X12_put_0 rfl rfl rfl rfl ?_
  refine me3 (pc' := 4) dm_X12_put_1 (g_get (v := .int (0 : Int32)) (lu (n := 102) (j := 0) hn rfl) rfl rfl (Nat.le_of_ble_eq_true rfl)) rfl rfl rfl ?_
  refine me0 (pc' := 7) (S' := .int (400 : Int32) :: _) dm_X12_put_4 rfl rfl rfl rfl ?_
  refine me_2t (pc' := 11) dm_X12_put_7 rfl rfl ?_
  refine me1 (pc' := 12) dm_X12_put_11 rfl rfl rfl rfl ?_
  refine me3 (pc' := 15) dm_X12_put_12 (g_get (v := .ref 108) (lu (n := 102) (j := 0) hn rfl) rfl rfl (Nat.le_of_ble_eq_true rfl)) rfl rfl rfl ?_
  refine me1 (pc' := 16) dm_X12_put_15 rfl rfl rfl rfl ?_
  refine me3 (pc' := 19) dm_X12_put_16 (g_get (v := .int (0 : Int32)) (lu (n := 102) (j := 0) hn rfl) rfl rfl (Nat.le_of_ble_eq_true rfl)) rfl rfl rfl ?_
  refine me1 (pc' := 20) dm_X12_put_19 rfl rfl rfl rfl ?_
  refine me0 (pc' := 21) (S' := .int (48 : Int32) :: _) dm_X12_put_20 rfl rfl rfl rfl ?_
  refine me3 (pc' := 22) dm_X12_put_21 (u_bast (n := 102) (j := 6) hn rfl rfl (by decide) rfl (Nat.le_of_ble_eq_true rfl)) rfl rfl rfl ?_
  refine me1 (pc' := 23) dm_X12_put_22 rfl rfl rfl rfl ?_
  refine me0 (pc' := 24) dm_X12_put_23 rfl rfl rfl rfl ?_
  refine me3 (pc' := 27) dm_X12_put_24 (g_get (v := .int (0 : Int32)) (lu (n := 102) (j := 0) hn rfl) rfl rfl (Nat.le_of_ble_eq_true rfl)) rfl rfl rfl ?_
  refine me0 (pc' := 28) (S' := .int (1 : Int32) :: _) dm_X12_put_27 rfl rfl rfl rfl ?_
  refine me0 (pc' := 29) (S' := .int (1 : Int32) :: _) dm_X12_put_28 rfl rfl rfl rfl ?_
  refine me3 (pc' := 32) dm_X12_put_29 (u_put (fs' := [.ref 103, .ref 104, .ref 105, .int (1 : Int32), .int (4 : Int32), .int (0 : Int32), .int (-1 : Int32), .int (0 : Int32), .int (500000 : Int32), .int (0 : Int32), .int (0 : Int32), .int (0 : Int32), .ref 106, .int (0 : Int32), .ref 107, .ref 108, .ref 109, .int (1 : Int32), .int (0 : Int32), .ref 110, .ref 111, .ref 112, .ref 113, .int (0 : Int32), .int (0 : Int32), .ref 114, .ref 115, .ref 116, .ref 117, .ref 118, .int (3 : Int32), .int (3 : Int32), .ref 119, .int (0 : Int32), .int (0 : Int32), .int (0 : Int32), .int (0 : Int32), .int (0 : Int32), .int (0 : Int32), .int (0 : Int32), .int (0 : Int32), .long (0 : Int64), .long (0 : Int64), .ref 120, .ref 121, .ref 122, .ref 123, .ref 124, .ref 125, .ref 126, .int (0 : Int32), .int (0 : Int32), .int (0 : Int32), .int (0 : Int32), .int (0 : Int32), .int (0 : Int32), .long (0 : Int64), .int (0 : Int32), .int (-1 : Int32), .int (-1 : Int32)]) (n := 102) (j := 0) hn rfl rfl rfl (Nat.le_of_ble_eq_true rfl) rfl (by decide) (fun z => by cases z) rfl (Nat.le_of_ble_eq_true rfl)) rfl rfl rfl ?_
  refine me5 dm_X12_put_32 rfl rfl rfl ?_
  refine me1 (pc' := 72) dm_X12_putNumber_71 rfl rfl rfl rfl ?_
  refine me3 (pc' := 75) (S' := .long (10 : Int64) :: _) dm_X12_putNumber_72 rfl rfl rfl rfl ?_
  refine me0 (pc' := 76) (S' := .long (0 : Int64) :: _) dm_X12_putNumber_75 rfl rfl rfl rfl ?_
  refine me1 (pc' := 77) (L' := [(3, .long (0 : Int64)), (5, .long (0 : Int64)), (0, .ref 102), (1, .long (0 : Int64))]) dm_X12_putNumber_76 rfl rfl rfl rfl ?_
  refine me2 (pc' := 48) dm_X12_putNumber_77 rfl rfl rfl ?_
  refine me1 (pc' := 49) dm_X12_putNumber_48 rfl rfl rfl rfl ?_
  refine me0 (pc' := 50) (S' := .long (0 : Int64) :: _) dm_X12_putNumber_49 rfl rfl rfl rfl ?_
  refine me0 (pc' := 51) (S' := .int (0 : Int32) :: _) dm_X12_putNumber_50 rfl rfl rfl rfl ?_
  refine me_1t (pc' := 80) dm_X12_putNumber_51 rfl rfl ?_
  refine me5 dm_X12_putNumber_80 rfl rfl rfl ?_
  refine me2 (pc' := 367) dm_X12_putValue_70 rfl rfl rfl ?_
  refine me5 dm_X12_putValue_367 rfl rfl rfl ?_
  refine me1 (pc' := 14) dm_X12_print_13 rfl rfl rfl rfl ?_
  refine me1 (pc' := 15) dm_X12_print_14 rfl rfl rfl rfl ?_
  refine me3 (pc' := 18) dm_X12_print_15 (g_get (v := .int (1 : Int32)) (lu (n := 102) (j := 0) hn rfl) rfl rfl (Nat.le_of_ble_eq_true rfl)) rfl rfl rfl ?_
  refine me3 (pc' := 21) dm_X12_print_18 (u_put (fs' := [.ref 103, .ref 104, .ref 105, .int (1 : Int32), .int (4 : Int32), .int (0 : Int32), .int (-1 : Int32), .int (0 : Int32), .int (500000 : Int32), .int (0 : Int32), .int (0 : Int32), .int (0 : Int32), .ref 106, .int (0 : Int32), .ref 107, .ref 108, .ref 109, .int (1 : Int32), .int (1 : Int32), .ref 110, .ref 111, .ref 112, .ref 113, .int (0 : Int32), .int (0 : Int32), .ref 114, .ref 115, .ref 116, .ref 117, .ref 118, .int (3 : Int32), .int (3 : Int32), .ref 119, .int (0 : Int32), .int (0 : Int32), .int (0 : Int32), .int (0 : Int32), .int (0 : Int32), .int (0 : Int32), .int (0 : Int32), .int (0 : Int32), .long (0 : Int64), .long (0 : Int64), .ref 120, .ref 121, .ref 122, .ref 123, .ref 124, .ref 125, .ref 126, .int (0 : Int32), .int (0 : Int32), .int (0 : Int32), .int (0 : Int32), .int (0 : Int32), .int (0 : Int32), .long (0 : Int64), .int (0 : Int32), .int (-1 : Int32), .int (-1 : Int32)]) (n := 102) (j := 0) hn rfl rfl rfl (Nat.le_of_ble_eq_true rfl) rfl (by decide) (fun z => by cases z) rfl (Nat.le_of_ble_eq_true rfl)) rfl rfl rfl ?_
  refine me0 (pc' := 22) (S' := .int (0 : Int32) :: _) dm_X12_print_21 rfl rfl rfl rfl ?_
  refine me1 (pc' := 23) (L' := [(1, .int (0 : Int32)), (0, .ref 102)]) dm_X12_print_22 rfl rfl rfl rfl ?_
  refine me1 (pc' := 24) dm_X12_print_23 rfl rfl rfl rfl ?_
  refine me1 (pc' := 25) dm_X12_print_24 rfl rfl rfl rfl ?_
  refine me3 (pc' := 28) dm_X12_print_25 (g_get (v := .int (1 : Int32)) (lu (n := 102) (j := 0) hn rfl) rfl rfl (Nat.le_of_ble_eq_true rfl)) rfl rfl rfl ?_
  refine me_2f (pc' := 31) dm_X12_print_28 rfl (by decide) rfl ?_
  refine me1 (pc' := 32) dm_X12_print_31 rfl rfl rfl rfl ?_
  refine me3 (pc' := 35) dm_X12_print_32 (g_get (v := .ref 109) (lu (n := 102) (j := 0) hn rfl) rfl rfl (Nat.le_of_ble_eq_true rfl)) rfl rfl rfl ?_
  refine me1 (pc' := 36) dm_X12_print_35 rfl rfl rfl rfl ?_
  refine me1 (pc' := 37) dm_X12_print_36 rfl rfl rfl rfl ?_
  refine me3 (pc' := 40) dm_X12_print_37 (g_get (v := .ref 108) (lu (n := 102) (j := 0) hn rfl) rfl rfl (Nat.le_of_ble_eq_true rfl)) rfl rfl rfl ?_
  refine me1 (pc' := 41) dm_X12_print_40 rfl rfl rfl rfl ?_
  refine me3 (pc' := 42) dm_X12_print_41 (g_bald (v := (48 : Int32)) (lu (n := 102) (j := 6) hn rfl) rfl (by decide) rfl (Nat.le_of_ble_eq_true rfl)) rfl rfl rfl ?_
  refine me3 (pc' := 43) dm_X12_print_42 (u_bast (n := 102) (j := 7) hn rfl rfl (by decide) rfl (Nat.le_of_ble_eq_true rfl)) rfl rfl rfl ?_
  refine me1 (pc' := 46) (L' := [(1, .int (1 : Int32)), (0, .ref 102)]) dm_X12_print_43 rfl rfl rfl rfl ?_
  refine me2 (pc' := 23) dm_X12_print_46 rfl rfl rfl ?_
  refine me1 (pc' := 24) dm_X12_print_23 rfl rfl rfl rfl ?_
  refine me1 (pc' := 25) dm_X12_print_24 rfl rfl rfl rfl ?_
  refine me3 (pc' := 28) dm_X12_print_25 (g_get (v := .int (1 : Int32)) (lu (n := 102) (j := 0) hn rfl) rfl rfl (Nat.le_of_ble_eq_true rfl)) rfl rfl rfl ?_
  refine me_2t (pc' := 49) dm_X12_print_28 rfl rfl ?_
  refine me1 (pc' := 50) dm_X12_print_49 rfl rfl rfl rfl ?_
  refine me3 (pc' := 53) dm_X12_print_50 (g_get (v := .int (1 : Int32)) (lu (n := 102) (j := 0) hn rfl) rfl rfl (Nat.le_of_ble_eq_true rfl)) rfl rfl rfl ?_
  refine me5 dm_X12_print_53 rfl rfl rfl ?_
  exact k _ rfl (Nat.le_of_ble_eq_true rfl)
