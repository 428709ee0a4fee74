set_option maxRecDepth 100000 in
set_option maxHeartbeats 40000000 in
theorem c_print {xt : mj_X} {d : Nat} {h V : mj_H} (hn : h.length = 2) (hv : V.length = 25) {P : Option Value → mj_H → Prop}  (k : ∀ U D, U.length = 100 → mj_sl U ≤ 20000 → D.length ≤ 10 → mj_sl D ≤ 2000 → P (some (.int (1 : Int32))) (h ++ (U ++ (V ++ D)))) : pgE xt (d + 20) 11 1 false (Option.some FieldType.int) (mj_dec prog_1_method_13_code) 0 [(0, .ref 2)] [] (h ++ (cT ++ (V ++ []))) P := by
  refine me1 (pc' := 1) dm_X11_print_0 rfl rfl rfl rfl ?_
  refine me3 (pc' := 4) dm_X11_print_1 (g_get (v := .ref 98) (lu (n := 2) (j := 0) hn rfl) rfl rfl (Nat.le_of_ble_eq_true rfl)) rfl rfl rfl ?_
  refine me4 (pc' := 7) (L0 := [(0, .ref 98)]) dm_X11_print_4 rfl (g_inv (As := []) (lu (n := 2) (j := 96) hn rfl) rfl rfl rfl (Nat.le_of_ble_eq_true rfl)) pm_X6_clear rfl (Nat.le_of_ble_eq_true rfl) rfl rfl rfl ?_
  refine me1 (pc' := 1) dm_X6_clear_0 rfl rfl rfl rfl ?_
  refine me0 (pc' := 2) (S' := .int (0 : Int32) :: _) dm_X6_clear_1 rfl rfl rfl rfl ?_
  refine me3 (pc' := 5) dm_X6_clear_2 (u_put (fs' := [.ref 100, .ref 99, .int (0 : Int32)]) (n := 2) (j := 96) hn rfl rfl rfl (Nat.le_of_ble_eq_true rfl) rfl (by decide) (fun z => by cases z) rfl (Nat.le_of_ble_eq_true rfl)) rfl rfl rfl ?_
  refine me5 dm_X6_clear_5 rfl rfl rfl ?_
  refine me1 (pc' := 8) dm_X11_print_7 rfl rfl rfl rfl ?_
  refine me3 (pc' := 11) dm_X11_print_8 (g_get (v := .ref 98) (lu (n := 2) (j := 0) hn rfl) rfl rfl (Nat.le_of_ble_eq_true rfl)) rfl rfl rfl ?_
  refine me1 (pc' := 12) dm_X11_print_11 rfl rfl rfl rfl ?_
  refine me3 (pc' := 15) dm_X11_print_12 (g_get (v := .ref 101) (lu (n := 2) (j := 0) hn rfl) rfl rfl (Nat.le_of_ble_eq_true rfl)) rfl rfl rfl ?_
  refine me4 (pc' := 18) (L0 := [(0, .ref 98), (1, .ref 101)]) dm_X11_print_15 rfl (g_inv (As := [.ref 101]) (lu (n := 2) (j := 96) hn rfl) rfl rfl rfl (Nat.le_of_ble_eq_true rfl)) pm_X6_put rfl (Nat.le_of_ble_eq_true rfl) rfl rfl rfl ?_
  refine me1 (pc' := 1) dm_X6_put_0 rfl rfl rfl rfl ?_
  refine me3 (pc' := 4) dm_X6_put_1 (g_get (v := .int (0 : Int32)) (lu (n := 2) (j := 99) hn rfl) rfl rfl (Nat.le_of_ble_eq_true rfl)) rfl rfl rfl ?_
  refine me2 (pc' := 52) dm_X6_put_4 rfl rfl rfl ?_
  refine me1 (pc' := 53) dm_X6_put_52 rfl rfl rfl rfl ?_
  refine me1 (pc' := 54) dm_X6_put_53 rfl rfl rfl rfl ?_
  refine me3 (pc' := 57) dm_X6_put_54 (g_get (v := .long (0 : Int64)) (lu (n := 2) (j := 99) hn rfl) rfl rfl (Nat.le_of_ble_eq_true rfl)) rfl rfl rfl ?_
  refine me4 (pc' := 60) (L0 := [(0, .ref 98), (1, .long (0 : Int64))]) dm_X6_put_57 rfl (g_inv (As := [.long (0 : Int64)]) (lu (n := 2) (j := 96) hn rfl) rfl rfl rfl (Nat.le_of_ble_eq_true rfl)) pm_X6_putNumber rfl (Nat.le_of_ble_eq_true rfl) rfl rfl rfl ?_
  refine me1 (pc' := 1) dm_X6_putNumber_0 rfl rfl rfl rfl ?_
  refine me0 (pc' := 2) (S' := .long (0 : Int64) :: _) dm_X6_putNumber_1 rfl rfl rfl rfl ?_
  refine me0 (pc' := 3) (S' := .int (0 : Int32) :: _) dm_X6_putNumber_2 rfl rfl rfl rfl ?_
  refine me_1t (pc' := 10) dm_X6_putNumber_3 rfl rfl ?_
  refine me1 (pc' := 11) dm_X6_putNumber_10 rfl rfl rfl rfl ?_
  refine me0 (pc' := 12) (S' := .long (0 : Int64) :: _) dm_X6_putNumber_11 rfl rfl rfl rfl ?_
  refine me1 (pc' := 13) (L' := [(3, .long (0 : Int64)), (0, .ref 98), (1, .long (0 : Int64))]) dm_X6_putNumber_12 rfl rfl rfl rfl ?_
  refine me0 (pc' := 14) (S' := .int (0 : Int32) :: _) dm_X6_putNumber_13 rfl rfl rfl rfl ?_
  refine me1 (pc' := 16) (L' := [(5, .int (0 : Int32)), (3, .long (0 : Int64)), (0, .ref 98), (1, .long (0 : Int64))]) dm_X6_putNumber_14 rfl rfl rfl rfl ?_
  refine me1 (pc' := 17) dm_X6_putNumber_16 rfl rfl rfl rfl ?_
  refine me3 (pc' := 20) dm_X6_putNumber_17 (g_get (v := .ref 99) (lu (n := 2) (j := 96) hn rfl) rfl rfl (Nat.le_of_ble_eq_true rfl)) rfl rfl rfl ?_
  refine me1 (pc' := 22) dm_X6_putNumber_20 rfl rfl rfl rfl ?_
  refine me3 (pc' := 25) (S' := .long (48 : Int64) :: _) dm_X6_putNumber_22 rfl rfl rfl rfl ?_
  refine me1 (pc' := 26) dm_X6_putNumber_25 rfl rfl rfl rfl ?_
  refine me3 (pc' := 29) (S' := .long (10 : Int64) :: _) dm_X6_putNumber_26 rfl rfl rfl rfl ?_
  refine me0 (pc' := 30) (S' := .long (0 : Int64) :: _) dm_X6_putNumber_29 rfl rfl rfl rfl ?_
  refine me0 (pc' := 31) (S' := .long (48 : Int64) :: _) dm_X6_putNumber_30 rfl rfl rfl rfl ?_
  refine me0 (pc' := 32) (S' := .int (48 : Int32) :: _) dm_X6_putNumber_31 rfl rfl rfl rfl ?_
  refine me0 (pc' := 33) (S' := .int (48 : Int32) :: _) dm_X6_putNumber_32 rfl rfl rfl rfl ?_
  refine me3 (pc' := 34) dm_X6_putNumber_33 (u_bast (n := 2) (j := 97) hn rfl rfl (by decide) rfl (Nat.le_of_ble_eq_true rfl)) rfl rfl rfl ?_
  refine me1 (pc' := 37) (L' := [(5, .int (1 : Int32)), (3, .long (0 : Int64)), (0, .ref 98), (1, .long (0 : Int64))]) dm_X6_putNumber_34 rfl rfl rfl rfl ?_
  refine me1 (pc' := 38) dm_X6_putNumber_37 rfl rfl rfl rfl ?_
  refine me3 (pc' := 41) (S' := .long (10 : Int64) :: _) dm_X6_putNumber_38 rfl rfl rfl rfl ?_
  refine me0 (pc' := 42) (S' := .long (0 : Int64) :: _) dm_X6_putNumber_41 rfl rfl rfl rfl ?_
  refine me1 (pc' := 43) (L' := [(3, .long (0 : Int64)), (5, .int (1 : Int32)), (0, .ref 98), (1, .long (0 : Int64))]) dm_X6_putNumber_42 rfl rfl rfl rfl ?_
  refine me1 (pc' := 44) dm_X6_putNumber_43 rfl rfl rfl rfl ?_
  refine me0 (pc' := 45) (S' := .long (0 : Int64) :: _) dm_X6_putNumber_44 rfl rfl rfl rfl ?_
  refine me0 (pc' := 46) (S' := .int (0 : Int32) :: _) dm_X6_putNumber_45 rfl rfl rfl rfl ?_
  refine me_1t (pc' := 61) dm_X6_putNumber_46 rfl rfl ?_
  refine me1 (pc' := 62) dm_X6_putNumber_61 rfl rfl rfl rfl ?_
  refine me0 (pc' := 63) (S' := .long (0 : Int64) :: _) dm_X6_putNumber_62 rfl rfl rfl rfl ?_
  refine me0 (pc' := 64) (S' := .int (0 : Int32) :: _) dm_X6_putNumber_63 rfl rfl rfl rfl ?_
  refine me_1t (pc' := 79) dm_X6_putNumber_64 rfl rfl ?_
  refine me1 (pc' := 81) dm_X6_putNumber_79 rfl rfl rfl rfl ?_
  refine me_1f (pc' := 84) dm_X6_putNumber_81 rfl (by decide) rfl ?_
  refine me1 (pc' := 85) dm_X6_putNumber_84 rfl rfl rfl rfl ?_
  refine me3 (pc' := 88) dm_X6_putNumber_85 (g_get (v := .int (0 : Int32)) (lu (n := 2) (j := 96) hn rfl) rfl rfl (Nat.le_of_ble_eq_true rfl)) rfl rfl rfl ?_
  refine me1 (pc' := 89) dm_X6_putNumber_88 rfl rfl rfl rfl ?_
  refine me3 (pc' := 92) dm_X6_putNumber_89 (g_get (v := .ref 100) (lu (n := 2) (j := 96) hn rfl) rfl rfl (Nat.le_of_ble_eq_true rfl)) rfl rfl rfl ?_
  refine me3 (pc' := 93) dm_X6_putNumber_92 (g_len (v := (400 : Int32)) (lu (n := 2) (j := 98) hn rfl) rfl rfl (Nat.le_of_ble_eq_true rfl)) rfl rfl rfl ?_
  refine me_2f (pc' := 96) dm_X6_putNumber_93 rfl (by decide) rfl ?_
  refine me1 (pc' := 99) (L' := [(5, .int (0 : Int32)), (3, .long (0 : Int64)), (0, .ref 98), (1, .long (0 : Int64))]) dm_X6_putNumber_96 rfl rfl rfl rfl ?_
  refine me1 (pc' := 100) dm_X6_putNumber_99 rfl rfl rfl rfl ?_
  refine me3 (pc' := 103) dm_X6_putNumber_100 (g_get (v := .ref 100) (lu (n := 2) (j := 96) hn rfl) rfl rfl (Nat.le_of_ble_eq_true rfl)) rfl rfl rfl ?_
  refine me1 (pc' := 104) dm_X6_putNumber_103 rfl rfl rfl rfl ?_
  refine me3 (pc' := 107) dm_X6_putNumber_104 (g_get (v := .int (0 : Int32)) (lu (n := 2) (j := 96) hn rfl) rfl rfl (Nat.le_of_ble_eq_true rfl)) rfl rfl rfl ?_
  refine me1 (pc' := 108) dm_X6_putNumber_107 rfl rfl rfl rfl ?_
  refine me3 (pc' := 111) dm_X6_putNumber_108 (g_get (v := .ref 99) (lu (n := 2) (j := 96) hn rfl) rfl rfl (Nat.le_of_ble_eq_true rfl)) rfl rfl rfl ?_
  refine me1 (pc' := 113) dm_X6_putNumber_111 rfl rfl rfl rfl ?_
  refine me3 (pc' := 114) dm_X6_putNumber_113 (g_bald (v := (48 : Int32)) (lu (n := 2) (j := 97) hn rfl) rfl (by decide) rfl (Nat.le_of_ble_eq_true rfl)) rfl rfl rfl ?_
  refine me3 (pc' := 115) dm_X6_putNumber_114 (u_bast (n := 2) (j := 98) hn rfl rfl (by decide) rfl (Nat.le_of_ble_eq_true rfl)) rfl rfl rfl ?_
  refine me1 (pc' := 116) dm_X6_putNumber_115 rfl rfl rfl rfl ?_
  refine me0 (pc' := 117) dm_X6_putNumber_116 rfl rfl rfl rfl ?_
  refine me3 (pc' := 120) dm_X6_putNumber_117 (g_get (v := .int (0 : Int32)) (lu (n := 2) (j := 96) hn rfl) rfl rfl (Nat.le_of_ble_eq_true rfl)) rfl rfl rfl ?_
  refine me0 (pc' := 121) (S' := .int (1 : Int32) :: _) dm_X6_putNumber_120 rfl rfl rfl rfl ?_
  refine me0 (pc' := 122) (S' := .int (1 : Int32) :: _) dm_X6_putNumber_121 rfl rfl rfl rfl ?_
  refine me3 (pc' := 125) dm_X6_putNumber_122 (u_put (fs' := [.ref 100, .ref 99, .int (1 : Int32)]) (n := 2) (j := 96) hn rfl rfl rfl (Nat.le_of_ble_eq_true rfl) rfl (by decide) (fun z => by cases z) rfl (Nat.le_of_ble_eq_true rfl)) rfl rfl rfl ?_
  refine me2 (pc' := 79) dm_X6_putNumber_125 rfl rfl rfl ?_
  refine me1 (pc' := 81) dm_X6_putNumber_79 rfl rfl rfl rfl ?_
  refine me_1t (pc' := 128) dm_X6_putNumber_81 rfl rfl ?_
  refine me5 dm_X6_putNumber_128 rfl rfl rfl ?_
  refine me2 (pc' := 202) dm_X6_put_60 rfl rfl rfl ?_
  refine me5 dm_X6_put_202 rfl rfl rfl ?_
  refine me1 (pc' := 19) dm_X11_print_18 rfl rfl rfl rfl ?_
  refine me3 (pc' := 22) dm_X11_print_19 (g_get (v := .ref 98) (lu (n := 2) (j := 0) hn rfl) rfl rfl (Nat.le_of_ble_eq_true rfl)) rfl rfl rfl ?_
  refine me4 (pc' := 25) (L0 := [(0, .ref 98)]) dm_X11_print_22 rfl (g_inv (As := []) (lu (n := 2) (j := 96) hn rfl) rfl rfl rfl (Nat.le_of_ble_eq_true rfl)) pm_X6_length rfl (Nat.le_of_ble_eq_true rfl) rfl rfl rfl ?_
  refine me1 (pc' := 1) dm_X6_length_0 rfl rfl rfl rfl ?_
  refine me3 (pc' := 4) dm_X6_length_1 (g_get (v := .int (1 : Int32)) (lu (n := 2) (j := 96) hn rfl) rfl rfl (Nat.le_of_ble_eq_true rfl)) rfl rfl rfl ?_
  refine me5 dm_X6_length_4 rfl rfl rfl ?_
  refine me5 dm_X11_print_25 rfl rfl rfl ?_
  exact k _ _ rfl (Nat.le_of_ble_eq_true rfl) (Nat.le_of_ble_eq_true rfl) (Nat.le_of_ble_eq_true rfl)
