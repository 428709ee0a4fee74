set_option maxRecDepth 100000 in
set_option maxHeartbeats 40000000 in
theorem r_keep_lt {xt : mj_X} {d : Nat} {h W : mj_H} (hn : h.length = 102) {P : Option Value → mj_H → Prop} {p0 : Int32} (hh0 : p0.toInt ≤ -1) (k : ∀ U, U.length = 25 → mj_sl U ≤ 3000000 → P (some (.int (0 : Int32))) (h ++ (U ++ W))) : pgE xt (d + 20) 12 3 false (Option.some FieldType.boolean) (mj_dec prog_14_method_119_code) 0 [(0, .ref 102), (1, .int p0)] [] (h ++ (rT ++ W)) P := by
  refine me1 (pc' := 1) dm_X12_keep_0 rfl rfl rfl rfl ?_
  refine me_1t (pc' := 9) dm_X12_keep_1 rfl (cn_t_lt (c := 0) rfl (by omega)) ?_
  refine me0 (pc' := 10) (S' := .int (0 : Int32) :: _) dm_X12_keep_9 rfl rfl rfl rfl ?_
  refine me5 dm_X12_keep_10 rfl rfl rfl ?_
  exact k _ rfl (Nat.le_of_ble_eq_true rfl)
set_option maxRecDepth 100000 in
set_option maxHeartbeats 40000000 in
theorem r_keep_v0 {xt : mj_X} {d : Nat} {h W : mj_H} (hn : h.length = 102) {P : Option Value → mj_H → Prop}  (k : ∀ U, U.length = 25 → mj_sl U ≤ 3000000 → P (some (.int (1 : Int32))) (h ++ (U ++ W))) : pgE xt (d + 20) 12 3 false (Option.some FieldType.boolean) (mj_dec prog_14_method_119_code) 0 [(0, .ref 102), (1, .int (0 : Int32))] [] (h ++ (rT ++ W)) P := by
  refine me1 (pc' := 1) dm_X12_keep_0 rfl rfl rfl rfl ?_
  refine me_1f (pc' := 4) dm_X12_keep_1 rfl (by decide) rfl ?_
  refine me1 (pc' := 5) dm_X12_keep_4 rfl rfl rfl rfl ?_
  refine me0 (pc' := 6) (S' := .int (3 : Int32) :: _) dm_X12_keep_5 rfl rfl rfl rfl ?_
  refine me_2t (pc' := 11) dm_X12_keep_6 rfl rfl ?_
  refine me1 (pc' := 12) dm_X12_keep_11 rfl rfl rfl rfl ?_
  refine me3 (pc' := 15) dm_X12_keep_12 (g_get (v := .ref 118) (lu (n := 102) (j := 0) hn rfl) rfl rfl (Nat.le_of_ble_eq_true rfl)) rfl rfl rfl ?_
  refine me1 (pc' := 16) dm_X12_keep_15 rfl rfl rfl rfl ?_
  refine me0 (pc' := 17) (S' := .int (1 : Int32) :: _) dm_X12_keep_16 rfl rfl rfl rfl ?_
  refine me3 (pc' := 18) dm_X12_keep_17 (u_zast (n := 102) (j := 16) hn rfl rfl (by decide) rfl (Nat.le_of_ble_eq_true rfl)) rfl rfl rfl ?_
  refine me1 (pc' := 19) dm_X12_keep_18 rfl rfl rfl rfl ?_
  refine me3 (pc' := 22) dm_X12_keep_19 (g_get (v := .ref 116) (lu (n := 102) (j := 0) hn rfl) rfl rfl (Nat.le_of_ble_eq_true rfl)) rfl rfl rfl ?_
  refine me1 (pc' := 23) dm_X12_keep_22 rfl rfl rfl rfl ?_
  refine me1 (pc' := 24) dm_X12_keep_23 rfl rfl rfl rfl ?_
  refine me3 (pc' := 27) dm_X12_keep_24 (g_get (v := .int (0 : Int32)) (lu (n := 102) (j := 0) hn rfl) rfl rfl (Nat.le_of_ble_eq_true rfl)) rfl rfl rfl ?_
  refine me3 (pc' := 28) dm_X12_keep_27 (u_iast (n := 102) (j := 14) hn rfl rfl (by decide) rfl (Nat.le_of_ble_eq_true rfl)) rfl rfl rfl ?_
  refine me1 (pc' := 29) dm_X12_keep_28 rfl rfl rfl rfl ?_
  refine me3 (pc' := 32) dm_X12_keep_29 (g_get (v := .ref 117) (lu (n := 102) (j := 0) hn rfl) rfl rfl (Nat.le_of_ble_eq_true rfl)) rfl rfl rfl ?_
  refine me1 (pc' := 33) dm_X12_keep_32 rfl rfl rfl rfl ?_
  refine me1 (pc' := 34) dm_X12_keep_33 rfl rfl rfl rfl ?_
  refine me3 (pc' := 37) dm_X12_keep_34 (g_get (v := .int (0 : Int32)) (lu (n := 102) (j := 0) hn rfl) rfl rfl (Nat.le_of_ble_eq_true rfl)) rfl rfl rfl ?_
  refine me3 (pc' := 38) dm_X12_keep_37 (u_iast (n := 102) (j := 15) hn rfl rfl (by decide) rfl (Nat.le_of_ble_eq_true rfl)) rfl rfl rfl ?_
  refine me0 (pc' := 39) (S' := .int (0 : Int32) :: _) dm_X12_keep_38 rfl rfl rfl rfl ?_
  refine me1 (pc' := 40) (L' := [(2, .int (0 : Int32)), (0, .ref 102), (1, .int (0 : Int32))]) dm_X12_keep_39 rfl rfl rfl rfl ?_
  refine me1 (pc' := 41) dm_X12_keep_40 rfl rfl rfl rfl ?_
  refine me0 (pc' := 43) (S' := .int (40 : Int32) :: _) dm_X12_keep_41 rfl rfl rfl rfl ?_
  refine me_2f (pc' := 46) dm_X12_keep_43 rfl (by decide) rfl ?_
  refine me1 (pc' := 47) dm_X12_keep_46 rfl rfl rfl rfl ?_
  refine me3 (pc' := 50) dm_X12_keep_47 (g_get (v := .ref 114) (lu (n := 102) (j := 0) hn rfl) rfl rfl (Nat.le_of_ble_eq_true rfl)) rfl rfl rfl ?_
  refine me0 (pc' := 52) (S' := .int (80 : Int32) :: _) dm_X12_keep_50 rfl rfl rfl rfl ?_
  refine me1 (pc' := 53) dm_X12_keep_52 rfl rfl rfl rfl ?_
  refine me0 (pc' := 54) (S' := .int (0 : Int32) :: _) dm_X12_keep_53 rfl rfl rfl rfl ?_
  refine me1 (pc' := 55) dm_X12_keep_54 rfl rfl rfl rfl ?_
  refine me0 (pc' := 56) (S' := .int (0 : Int32) :: _) dm_X12_keep_55 rfl rfl rfl rfl ?_
  refine me1 (pc' := 57) dm_X12_keep_56 rfl rfl rfl rfl ?_
  refine me3 (pc' := 60) dm_X12_keep_57 (g_get (v := .ref 110) (lu (n := 102) (j := 0) hn rfl) rfl rfl (Nat.le_of_ble_eq_true rfl)) rfl rfl rfl ?_
  refine me1 (pc' := 61) dm_X12_keep_60 rfl rfl rfl rfl ?_
  refine me3 (pc' := 62) dm_X12_keep_61 (g_lald (v := (0 : Int64)) (lu (n := 102) (j := 8) hn rfl) rfl (by decide) rfl (Nat.le_of_ble_eq_true rfl)) rfl rfl rfl ?_
  refine me3 (pc' := 63) dm_X12_keep_62 (u_last (n := 102) (j := 12) hn rfl rfl (by decide) rfl (Nat.le_of_ble_eq_true rfl)) rfl rfl rfl ?_
  refine me1 (pc' := 64) dm_X12_keep_63 rfl rfl rfl rfl ?_
  refine me3 (pc' := 67) dm_X12_keep_64 (g_get (v := .ref 115) (lu (n := 102) (j := 0) hn rfl) rfl rfl (Nat.le_of_ble_eq_true rfl)) rfl rfl rfl ?_
  refine me0 (pc' := 69) (S' := .int (80 : Int32) :: _) dm_X12_keep_67 rfl rfl rfl rfl ?_
  refine me1 (pc' := 70) dm_X12_keep_69 rfl rfl rfl rfl ?_
  refine me0 (pc' := 71) (S' := .int (0 : Int32) :: _) dm_X12_keep_70 rfl rfl rfl rfl ?_
  refine me1 (pc' := 72) dm_X12_keep_71 rfl rfl rfl rfl ?_
  refine me0 (pc' := 73) (S' := .int (0 : Int32) :: _) dm_X12_keep_72 rfl rfl rfl rfl ?_
  refine me1 (pc' := 74) dm_X12_keep_73 rfl rfl rfl rfl ?_
  refine me3 (pc' := 77) dm_X12_keep_74 (g_get (v := .ref 112) (lu (n := 102) (j := 0) hn rfl) rfl rfl (Nat.le_of_ble_eq_true rfl)) rfl rfl rfl ?_
  refine me1 (pc' := 78) dm_X12_keep_77 rfl rfl rfl rfl ?_
  refine me3 (pc' := 79) dm_X12_keep_78 (g_iald (v := (0 : Int32)) (lu (n := 102) (j := 10) hn rfl) rfl (by decide) rfl (Nat.le_of_ble_eq_true rfl)) rfl rfl rfl ?_
  refine me3 (pc' := 80) dm_X12_keep_79 (u_iast (n := 102) (j := 13) hn rfl rfl (by decide) rfl (Nat.le_of_ble_eq_true rfl)) rfl rfl rfl ?_
  refine me1 (pc' := 81) dm_X12_keep_80 rfl rfl rfl rfl ?_
  refine me3 (pc' := 84) dm_X12_keep_81 (g_get (v := .ref 114) (lu (n := 102) (j := 0) hn rfl) rfl rfl (Nat.le_of_ble_eq_true rfl)) rfl rfl rfl ?_
  refine me0 (pc' := 86) (S' := .int (80 : Int32) :: _) dm_X12_keep_84 rfl rfl rfl rfl ?_
  refine me1 (pc' := 87) dm_X12_keep_86 rfl rfl rfl rfl ?_
  refine me0 (pc' := 88) (S' := .int (0 : Int32) :: _) dm_X12_keep_87 rfl rfl rfl rfl ?_
  refine me0 (pc' := 90) (S' := .int (40 : Int32) :: _) dm_X12_keep_88 rfl rfl rfl rfl ?_
  refine me0 (pc' := 91) (S' := .int (40 : Int32) :: _) dm_X12_keep_90 rfl rfl rfl rfl ?_
  refine me1 (pc' := 92) dm_X12_keep_91 rfl rfl rfl rfl ?_
  refine me0 (pc' := 93) (S' := .int (40 : Int32) :: _) dm_X12_keep_92 rfl rfl rfl rfl ?_
  refine me1 (pc' := 94) dm_X12_keep_93 rfl rfl rfl rfl ?_
  refine me3 (pc' := 97) dm_X12_keep_94 (g_get (v := .ref 111) (lu (n := 102) (j := 0) hn rfl) rfl rfl (Nat.le_of_ble_eq_true rfl)) rfl rfl rfl ?_
  refine me1 (pc' := 98) dm_X12_keep_97 rfl rfl rfl rfl ?_
  refine me3 (pc' := 99) dm_X12_keep_98 (g_lald (v := (0 : Int64)) (lu (n := 102) (j := 9) hn rfl) rfl (by decide) rfl (Nat.le_of_ble_eq_true rfl)) rfl rfl rfl ?_
  refine me3 (pc' := 100) dm_X12_keep_99 (u_last (n := 102) (j := 12) hn rfl rfl (by decide) rfl (Nat.le_of_ble_eq_true rfl)) rfl rfl rfl ?_
  refine me1 (pc' := 101) dm_X12_keep_100 rfl rfl rfl rfl ?_
  refine me3 (pc' := 104) dm_X12_keep_101 (g_get (v := .ref 115) (lu (n := 102) (j := 0) hn rfl) rfl rfl (Nat.le_of_ble_eq_true rfl)) rfl rfl rfl ?_
  refine me0 (pc' := 106) (S' := .int (80 : Int32) :: _) dm_X12_keep_104 rfl rfl rfl rfl ?_
  refine me1 (pc' := 107) dm_X12_keep_106 rfl rfl rfl rfl ?_
  refine me0 (pc' := 108) (S' := .int (0 : Int32) :: _) dm_X12_keep_107 rfl rfl rfl rfl ?_
  refine me0 (pc' := 110) (S' := .int (40 : Int32) :: _) dm_X12_keep_108 rfl rfl rfl rfl ?_
  refine me0 (pc' := 111) (S' := .int (40 : Int32) :: _) dm_X12_keep_110 rfl rfl rfl rfl ?_
  refine me1 (pc' := 112) dm_X12_keep_111 rfl rfl rfl rfl ?_
  refine me0 (pc' := 113) (S' := .int (40 : Int32) :: _) dm_X12_keep_112 rfl rfl rfl rfl ?_
  refine me1 (pc' := 114) dm_X12_keep_113 rfl rfl rfl rfl ?_
  refine me3 (pc' := 117) dm_X12_keep_114 (g_get (v := .ref 113) (lu (n := 102) (j := 0) hn rfl) rfl rfl (Nat.le_of_ble_eq_true rfl)) rfl rfl rfl ?_
  refine me1 (pc' := 118) dm_X12_keep_117 rfl rfl rfl rfl ?_
  refine me3 (pc' := 119) dm_X12_keep_118 (g_iald (v := (0 : Int32)) (lu (n := 102) (j := 11) hn rfl) rfl (by decide) rfl (Nat.le_of_ble_eq_true rfl)) rfl rfl rfl ?_
  refine me3 (pc' := 120) dm_X12_keep_119 (u_iast (n := 102) (j := 13) hn rfl rfl (by decide) rfl (Nat.le_of_ble_eq_true rfl)) rfl rfl rfl ?_
  refine me1 (pc' := 123) (L' := [(2, .int (1 : Int32)), (0, .ref 102), (1, .int (0 : Int32))]) dm_X12_keep_120 rfl rfl rfl rfl ?_
  refine me2 (pc' := 40) dm_X12_keep_123 rfl rfl rfl ?_
  refine me1 (pc' := 41) dm_X12_keep_40 rfl rfl rfl rfl ?_
  refine me0 (pc' := 43) (S' := .int (40 : Int32) :: _) dm_X12_keep_41 rfl rfl rfl rfl ?_
  refine me_2f (pc' := 46) dm_X12_keep_43 rfl (by decide) rfl ?_
  refine me1 (pc' := 47) dm_X12_keep_46 rfl rfl rfl rfl ?_
  refine me3 (pc' := 50) dm_X12_keep_47 (g_get (v := .ref 114) (lu (n := 102) (j := 0) hn rfl) rfl rfl (Nat.le_of_ble_eq_true rfl)) rfl rfl rfl ?_
  refine me0 (pc' := 52) (S' := .int (80 : Int32) :: _) dm_X12_keep_50 rfl rfl rfl rfl ?_
  refine me1 (pc' := 53) dm_X12_keep_52 rfl rfl rfl rfl ?_
  refine me0 (pc' := 54) (S' := .int (0 : Int32) :: _) dm_X12_keep_53 rfl rfl rfl rfl ?_
  refine me1 (pc' := 55) dm_X12_keep_54 rfl rfl rfl rfl ?_
  refine me0 (pc' := 56) (S' := .int (1 : Int32) :: _) dm_X12_keep_55 rfl rfl rfl rfl ?_
  refine me1 (pc' := 57) dm_X12_keep_56 rfl rfl rfl rfl ?_
  refine me3 (pc' := 60) dm_X12_keep_57 (g_get (v := .ref 110) (lu (n := 102) (j := 0) hn rfl) rfl rfl (Nat.le_of_ble_eq_true rfl)) rfl rfl rfl ?_
  refine me1 (pc' := 61) dm_X12_keep_60 rfl rfl rfl rfl ?_
  refine me3 (pc' := 62) dm_X12_keep_61 (g_lald (v := (0 : Int64)) (lu (n := 102) (j := 8) hn rfl) rfl (by decide) rfl (Nat.le_of_ble_eq_true rfl)) rfl rfl rfl ?_
  refine me3 (pc' := 63) dm_X12_keep_62 (u_last (n := 102) (j := 12) hn rfl rfl (by decide) rfl (Nat.le_of_ble_eq_true rfl)) rfl rfl rfl ?_
  refine me1 (pc' := 64) dm_X12_keep_63 rfl rfl rfl rfl ?_
  refine me3 (pc' := 67) dm_X12_keep_64 (g_get (v := .ref 115) (lu (n := 102) (j := 0) hn rfl) rfl rfl (Nat.le_of_ble_eq_true rfl)) rfl rfl rfl ?_
  refine me0 (pc' := 69) (S' := .int (80 : Int32) :: _) dm_X12_keep_67 rfl rfl rfl rfl ?_
  refine me1 (pc' := 70) dm_X12_keep_69 rfl rfl rfl rfl ?_
  refine me0 (pc' := 71) (S' := .int (0 : Int32) :: _) dm_X12_keep_70 rfl rfl rfl rfl ?_
  refine me1 (pc' := 72) dm_X12_keep_71 rfl rfl rfl rfl ?_
  refine me0 (pc' := 73) (S' := .int (1 : Int32) :: _) dm_X12_keep_72 rfl rfl rfl rfl ?_
  refine me1 (pc' := 74) dm_X12_keep_73 rfl rfl rfl rfl ?_
  refine me3 (pc' := 77) dm_X12_keep_74 (g_get (v := .ref 112) (lu (n := 102) (j := 0) hn rfl) rfl rfl (Nat.le_of_ble_eq_true rfl)) rfl rfl rfl ?_
  refine me1 (pc' := 78) dm_X12_keep_77 rfl rfl rfl rfl ?_
  refine me3 (pc' := 79) dm_X12_keep_78 (g_iald (v := (0 : Int32)) (lu (n := 102) (j := 10) hn rfl) rfl (by decide) rfl (Nat.le_of_ble_eq_true rfl)) rfl rfl rfl ?_
  refine me3 (pc' := 80) dm_X12_keep_79 (u_iast (n := 102) (j := 13) hn rfl rfl (by decide) rfl (Nat.le_of_ble_eq_true rfl)) rfl rfl rfl ?_
  refine me1 (pc' := 81) dm_X12_keep_80 rfl rfl rfl rfl ?_
  refine me3 (pc' := 84) dm_X12_keep_81 (g_get (v := .ref 114) (lu (n := 102) (j := 0) hn rfl) rfl rfl (Nat.le_of_ble_eq_true rfl)) rfl rfl rfl ?_
  refine me0 (pc' := 86) (S' := .int (80 : Int32) :: _) dm_X12_keep_84 rfl rfl rfl rfl ?_
  refine me1 (pc' := 87) dm_X12_keep_86 rfl rfl rfl rfl ?_
  refine me0 (pc' := 88) (S' := .int (0 : Int32) :: _) dm_X12_keep_87 rfl rfl rfl rfl ?_
  refine me0 (pc' := 90) (S' := .int (40 : Int32) :: _) dm_X12_keep_88 rfl rfl rfl rfl ?_
  refine me0 (pc' := 91) (S' := .int (40 : Int32) :: _) dm_X12_keep_90 rfl rfl rfl rfl ?_
  refine me1 (pc' := 92) dm_X12_keep_91 rfl rfl rfl rfl ?_
  refine me0 (pc' := 93) (S' := .int (41 : Int32) :: _) dm_X12_keep_92 rfl rfl rfl rfl ?_
  refine me1 (pc' := 94) dm_X12_keep_93 rfl rfl rfl rfl ?_
  refine me3 (pc' := 97) dm_X12_keep_94 (g_get (v := .ref 111) (lu (n := 102) (j := 0) hn rfl) rfl rfl (Nat.le_of_ble_eq_true rfl)) rfl rfl rfl ?_
  refine me1 (pc' := 98) dm_X12_keep_97 rfl rfl rfl rfl ?_
  refine me3 (pc' := 99) dm_X12_keep_98 (g_lald (v := (0 : Int64)) (lu (n := 102) (j := 9) hn rfl) rfl (by decide) rfl (Nat.le_of_ble_eq_true rfl)) rfl rfl rfl ?_
  refine me3 (pc' := 100) dm_X12_keep_99 (u_last (n := 102) (j := 12) hn rfl rfl (by decide) rfl (Nat.le_of_ble_eq_true rfl)) rfl rfl rfl ?_
  refine me1 (pc' := 101) dm_X12_keep_100 rfl rfl rfl rfl ?_
  refine me3 (pc' := 104) dm_X12_keep_101 (g_get (v := .ref 115) (lu (n := 102) (j := 0) hn rfl) rfl rfl (Nat.le_of_ble_eq_true rfl)) rfl rfl rfl ?_
  refine me0 (pc' := 106) (S' := .int (80 : Int32) :: _) dm_X12_keep_104 rfl rfl rfl rfl ?_
  refine me1 (pc' := 107) dm_X12_keep_106 rfl rfl rfl rfl ?_
  refine me0 (pc' := 108) (S' := .int (0 : Int32) :: _) dm_X12_keep_107 rfl rfl rfl rfl ?_
  refine me0 (pc' := 110) (S' := .int (40 : Int32) :: _) dm_X12_keep_108 rfl rfl rfl rfl ?_
  refine me0 (pc' := 111) (S' := .int (40 : Int32) :: _) dm_X12_keep_110 rfl rfl rfl rfl ?_
  refine me1 (pc' := 112) dm_X12_keep_111 rfl rfl rfl rfl ?_
  refine me0 (pc' := 113) (S' := .int (41 : Int32) :: _) dm_X12_keep_112 rfl rfl rfl rfl ?_
  refine me1 (pc' := 114) dm_X12_keep_113 rfl rfl rfl rfl ?_
  refine me3 (pc' := 117) dm_X12_keep_114 (g_get (v := .ref 113) (lu (n := 102) (j := 0) hn rfl) rfl rfl (Nat.le_of_ble_eq_true rfl)) rfl rfl rfl ?_
  refine me1 (pc' := 118) dm_X12_keep_117 rfl rfl rfl rfl ?_
  refine me3 (pc' := 119) dm_X12_keep_118 (g_iald (v := (0 : Int32)) (lu (n := 102) (j := 11) hn rfl) rfl (by decide) rfl (Nat.le_of_ble_eq_true rfl)) rfl rfl rfl ?_
  refine me3 (pc' := 120) dm_X12_keep_119 (u_iast (n := 102) (j := 13) hn rfl rfl (by decide) rfl (Nat.le_of_ble_eq_true rfl)) rfl rfl rfl ?_
  refine me1 (pc' := 123) (L' := [(2, .int (2 : Int32)), (0, .ref 102), (1, .int (0 : Int32))]) dm_X12_keep_120 rfl rfl rfl rfl ?_
  refine me2 (pc' := 40) dm_X12_keep_123 rfl rfl rfl ?_
  refine me1 (pc' := 41) dm_X12_keep_40 rfl rfl rfl rfl ?_
  refine me0 (pc' := 43) (S' := .int (40 : Int32) :: _) dm_X12_keep_41 rfl rfl rfl rfl ?_
  refine me_2f (pc' := 46) dm_X12_keep_43 rfl (by decide) rfl ?_
  refine me1 (pc' := 47) dm_X12_keep_46 rfl rfl rfl rfl ?_
  refine me3 (pc' := 50) dm_X12_keep_47 (g_get (v := .ref 114) (lu (n := 102) (j := 0) hn rfl) rfl rfl (Nat.le_of_ble_eq_true rfl)) rfl rfl rfl ?_
  refine me0 (pc' := 52) (S' := .int (80 : Int32) :: _) dm_X12_keep_50 rfl rfl rfl rfl ?_
  refine me1 (pc' := 53) dm_X12_keep_52 rfl rfl rfl rfl ?_
  refine me0 (pc' := 54) (S' := .int (0 : Int32) :: _) dm_X12_keep_53 rfl rfl rfl rfl ?_
  refine me1 (pc' := 55) dm_X12_keep_54 rfl rfl rfl rfl ?_
  refine me0 (pc' := 56) (S' := .int (2 : Int32) :: _) dm_X12_keep_55 rfl rfl rfl rfl ?_
  refine me1 (pc' := 57) dm_X12_keep_56 rfl rfl rfl rfl ?_
  refine me3 (pc' := 60) dm_X12_keep_57 (g_get (v := .ref 110) (lu (n := 102) (j := 0) hn rfl) rfl rfl (Nat.le_of_ble_eq_true rfl)) rfl rfl rfl ?_
  refine me1 (pc' := 61) dm_X12_keep_60 rfl rfl rfl rfl ?_
  refine me3 (pc' := 62) dm_X12_keep_61 (g_lald (v := (0 : Int64)) (lu (n := 102) (j := 8) hn rfl) rfl (by decide) rfl (Nat.le_of_ble_eq_true rfl)) rfl rfl rfl ?_
  refine me3 (pc' := 63) dm_X12_keep_62 (u_last (n := 102) (j := 12) hn rfl rfl (by decide) rfl (Nat.le_of_ble_eq_true rfl)) rfl rfl rfl ?_
  refine me1 (pc' := 64) dm_X12_keep_63 rfl rfl rfl rfl ?_
  refine me3 (pc' := 67) dm_X12_keep_64 (g_get (v := .ref 115) (lu (n := 102) (j := 0) hn rfl) rfl rfl (Nat.le_of_ble_eq_true rfl)) rfl rfl rfl ?_
  refine me0 (pc' := 69) (S' := .int (80 : Int32) :: _) dm_X12_keep_67 rfl rfl rfl rfl ?_
  refine me1 (pc' := 70) dm_X12_keep_69 rfl rfl rfl rfl ?_
  refine me0 (pc' := 71) (S' := .int (0 : Int32) :: _) dm_X12_keep_70 rfl rfl rfl rfl ?_
  refine me1 (pc' := 72) dm_X12_keep_71 rfl rfl rfl rfl ?_
  refine me0 (pc' := 73) (S' := .int (2 : Int32) :: _) dm_X12_keep_72 rfl rfl rfl rfl ?_
  refine me1 (pc' := 74) dm_X12_keep_73 rfl rfl rfl rfl ?_
  refine me3 (pc' := 77) dm_X12_keep_74 (g_get (v := .ref 112) (lu (n := 102) (j := 0) hn rfl) rfl rfl (Nat.le_of_ble_eq_true rfl)) rfl rfl rfl ?_
  refine me1 (pc' := 78) dm_X12_keep_77 rfl rfl rfl rfl ?_
  refine me3 (pc' := 79) dm_X12_keep_78 (g_iald (v := (0 : Int32)) (lu (n := 102) (j := 10) hn rfl) rfl (by decide) rfl (Nat.le_of_ble_eq_true rfl)) rfl rfl rfl ?_
  refine me3 (pc' := 80) dm_X12_keep_79 (u_iast (n := 102) (j := 13) hn rfl rfl (by decide) rfl (Nat.le_of_ble_eq_true rfl)) rfl rfl rfl ?_
  refine me1 (pc' := 81) dm_X12_keep_80 rfl rfl rfl rfl ?_
  refine me3 (pc' := 84) dm_X12_keep_81 (g_get (v := .ref 114) (lu (n := 102) (j := 0) hn rfl) rfl rfl (Nat.le_of_ble_eq_true rfl)) rfl rfl rfl ?_
  refine me0 (pc' := 86) (S' := .int (80 : Int32) :: _) dm_X12_keep_84 rfl rfl rfl rfl ?_
  refine me1 (pc' := 87) dm_X12_keep_86 rfl rfl rfl rfl ?_
  refine me0 (pc' := 88) (S' := .int (0 : Int32) :: _) dm_X12_keep_87 rfl rfl rfl rfl ?_
  refine me0 (pc' := 90) (S' := .int (40 : Int32) :: _) dm_X12_keep_88 rfl rfl rfl rfl ?_
  refine me0 (pc' := 91) (S' := .int (40 : Int32) :: _) dm_X12_keep_90 rfl rfl rfl rfl ?_
  refine me1 (pc' := 92) dm_X12_keep_91 rfl rfl rfl rfl ?_
  refine me0 (pc' := 93) (S' := .int (42 : Int32) :: _) dm_X12_keep_92 rfl rfl rfl rfl ?_
  refine me1 (pc' := 94) dm_X12_keep_93 rfl rfl rfl rfl ?_
  refine me3 (pc' := 97) dm_X12_keep_94 (g_get (v := .ref 111) (lu (n := 102) (j := 0) hn rfl) rfl rfl (Nat.le_of_ble_eq_true rfl)) rfl rfl rfl ?_
  refine me1 (pc' := 98) dm_X12_keep_97 rfl rfl rfl rfl ?_
  refine me3 (pc' := 99) dm_X12_keep_98 (g_lald (v := (0 : Int64)) (lu (n := 102) (j := 9) hn rfl) rfl (by decide) rfl (Nat.le_of_ble_eq_true rfl)) rfl rfl rfl ?_
  refine me3 (pc' := 100) dm_X12_keep_99 (u_last (n := 102) (j := 12) hn rfl rfl (by decide) rfl (Nat.le_of_ble_eq_true rfl)) rfl rfl rfl ?_
  refine me1 (pc' := 101) dm_X12_keep_100 rfl rfl rfl rfl ?_
  refine me3 (pc' := 104) dm_X12_keep_101 (g_get (v := .ref 115) (lu (n := 102) (j := 0) hn rfl) rfl rfl (Nat.le_of_ble_eq_true rfl)) rfl rfl rfl ?_
  refine me0 (pc' := 106) (S' := .int (80 : Int32) :: _) dm_X12_keep_104 rfl rfl rfl rfl ?_
  refine me1 (pc' := 107) dm_X12_keep_106 rfl rfl rfl rfl ?_
  refine me0 (pc' := 108) (S' := .int (0 : Int32) :: _) dm_X12_keep_107 rfl rfl rfl rfl ?_
  refine me0 (pc' := 110) (S' := .int (40 : Int32) :: _) dm_X12_keep_108 rfl rfl rfl rfl ?_
  refine me0 (pc' := 111) (S' := .int (40 : Int32) :: _) dm_X12_keep_110 rfl rfl rfl rfl ?_
  refine me1 (pc' := 112) dm_X12_keep_111 rfl rfl rfl rfl ?_
  refine me0 (pc' := 113) (S' := .int (42 : Int32) :: _) dm_X12_keep_112 rfl rfl rfl rfl ?_
  refine me1 (pc' := 114) dm_X12_keep_113 rfl rfl rfl rfl ?_
  refine me3 (pc' := 117) dm_X12_keep_114 (g_get (v := .ref 113) (lu (n := 102) (j := 0) hn rfl) rfl rfl (Nat.le_of_ble_eq_true rfl)) rfl rfl rfl ?_
  refine me1 (pc' := 118) dm_X12_keep_117 rfl rfl rfl rfl ?_
  refine me3 (pc' := 119) dm_X12_keep_118 (g_iald (v := (0 : Int32)) (lu (n := 102) (j := 11) hn rfl) rfl (by decide) rfl (Nat.le_of_ble_eq_true rfl)) rfl rfl rfl ?_
  refine me3 (pc' := 120) dm_X12_keep_119 (u_iast (n := 102) (j := 13) hn rfl rfl (by decide) rfl (Nat.le_of_ble_eq_true rfl)) rfl rfl rfl ?_
  refine me1 (pc' := 123) (L' := [(2, .int (3 : Int32)), (0, .ref 102), (1, .int (0 : Int32))]) dm_X12_keep_120 rfl rfl rfl rfl ?_
  refine me2 (pc' := 40) dm_X12_keep_123 rfl rfl rfl ?_
  refine me1 (pc' := 41) dm_X12_keep_40 rfl rfl rfl rfl ?_
  refine me0 (pc' := 43) (S' := .int (40 : Int32) :: _) dm_X12_keep_41 rfl rfl rfl rfl ?_
  refine me_2f (pc' := 46) dm_X12_keep_43 rfl (by decide) rfl ?_
  refine me1 (pc' := 47) dm_X12_keep_46 rfl rfl rfl rfl ?_
  refine me3 (pc' := 50) dm_X12_keep_47 (g_get (v := .ref 114) (lu (n := 102) (j := 0) hn rfl) rfl rfl (Nat.le_of_ble_eq_true rfl)) rfl rfl rfl ?_
  refine me0 (pc' := 52) (S' := .int (80 : Int32) :: _) dm_X12_keep_50 rfl rfl rfl rfl ?_
  refine me1 (pc' := 53) dm_X12_keep_52 rfl rfl rfl rfl ?_
  refine me0 (pc' := 54) (S' := .int (0 : Int32) :: _) dm_X12_keep_53 rfl rfl rfl rfl ?_
  refine me1 (pc' := 55) dm_X12_keep_54 rfl rfl rfl rfl ?_
  refine me0 (pc' := 56) (S' := .int (3 : Int32) :: _) dm_X12_keep_55 rfl rfl rfl rfl ?_
  refine me1 (pc' := 57) dm_X12_keep_56 rfl rfl rfl rfl ?_
  refine me3 (pc' := 60) dm_X12_keep_57 (g_get (v := .ref 110) (lu (n := 102) (j := 0) hn rfl) rfl rfl (Nat.le_of_ble_eq_true rfl)) rfl rfl rfl ?_
  refine me1 (pc' := 61) dm_X12_keep_60 rfl rfl rfl rfl ?_
  refine me3 (pc' := 62) dm_X12_keep_61 (g_lald (v := (0 : Int64)) (lu (n := 102) (j := 8) hn rfl) rfl (by decide) rfl (Nat.le_of_ble_eq_true rfl)) rfl rfl rfl ?_
  refine me3 (pc' := 63) dm_X12_keep_62 (u_last (n := 102) (j := 12) hn rfl rfl (by decide) rfl (Nat.le_of_ble_eq_true rfl)) rfl rfl rfl ?_
  refine me1 (pc' := 64) dm_X12_keep_63 rfl rfl rfl rfl ?_
  refine me3 (pc' := 67) dm_X12_keep_64 (g_get (v := .ref 115) (lu (n := 102) (j := 0) hn rfl) rfl rfl (Nat.le_of_ble_eq_true rfl)) rfl rfl rfl ?_
  refine me0 (pc' := 69) (S' := .int (80 : Int32) :: _) dm_X12_keep_67 rfl rfl rfl rfl ?_
  refine me1 (pc' := 70) dm_X12_keep_69 rfl rfl rfl rfl ?_
  refine me0 (pc' := 71) (S' := .int (0 : Int32) :: _) dm_X12_keep_70 rfl rfl rfl rfl ?_
  refine me1 (pc' := 72) dm_X12_keep_71 rfl rfl rfl rfl ?_
  refine me0 (pc' := 73) (S' := .int (3 : Int32) :: _) dm_X12_keep_72 rfl rfl rfl rfl ?_
  refine me1 (pc' := 74) dm_X12_keep_73 rfl rfl rfl rfl ?_
  refine me3 (pc' := 77) dm_X12_keep_74 (g_get (v := .ref 112) (lu (n := 102) (j := 0) hn rfl) rfl rfl (Nat.le_of_ble_eq_true rfl)) rfl rfl rfl ?_
  refine me1 (pc' := 78) dm_X12_keep_77 rfl rfl rfl rfl ?_
  refine me3 (pc' := 79) dm_X12_keep_78 (g_iald (v := (0 : Int32)) (lu (n := 102) (j := 10) hn rfl) rfl (by decide) rfl (Nat.le_of_ble_eq_true rfl)) rfl rfl rfl ?_
  refine me3 (pc' := 80) dm_X12_keep_79 (u_iast (n := 102) (j := 13) hn rfl rfl (by decide) rfl (Nat.le_of_ble_eq_true rfl)) rfl rfl rfl ?_
  refine me1 (pc' := 81) dm_X12_keep_80 rfl rfl rfl rfl ?_
  refine me3 (pc' := 84) dm_X12_keep_81 (g_get (v := .ref 114) (lu (n := 102) (j := 0) hn rfl) rfl rfl (Nat.le_of_ble_eq_true rfl)) rfl rfl rfl ?_
  refine me0 (pc' := 86) (S' := .int (80 : Int32) :: _) dm_X12_keep_84 rfl rfl rfl rfl ?_
  refine me1 (pc' := 87) dm_X12_keep_86 rfl rfl rfl rfl ?_
  refine me0 (pc' := 88) (S' := .int (0 : Int32) :: _) dm_X12_keep_87 rfl rfl rfl rfl ?_
  refine me0 (pc' := 90) (S' := .int (40 : Int32) :: _) dm_X12_keep_88 rfl rfl rfl rfl ?_
  refine me0 (pc' := 91) (S' := .int (40 : Int32) :: _) dm_X12_keep_90 rfl rfl rfl rfl ?_
  refine me1 (pc' := 92) dm_X12_keep_91 rfl rfl rfl rfl ?_
  refine me0 (pc' := 93) (S' := .int (43 : Int32) :: _) dm_X12_keep_92 rfl rfl rfl rfl ?_
  refine me1 (pc' := 94) dm_X12_keep_93 rfl rfl rfl rfl ?_
  refine me3 (pc' := 97) dm_X12_keep_94 (g_get (v := .ref 111) (lu (n := 102) (j := 0) hn rfl) rfl rfl (Nat.le_of_ble_eq_true rfl)) rfl rfl rfl ?_
  refine me1 (pc' := 98) dm_X12_keep_97 rfl rfl rfl rfl ?_
  refine me3 (pc' := 99) dm_X12_keep_98 (g_lald (v := (0 : Int64)) (lu (n := 102) (j := 9) hn rfl) rfl (by decide) rfl (Nat.le_of_ble_eq_true rfl)) rfl rfl rfl ?_
  refine me3 (pc' := 100) dm_X12_keep_99 (u_last (n := 102) (j := 12) hn rfl rfl (by decide) rfl (Nat.le_of_ble_eq_true rfl)) rfl rfl rfl ?_
  refine me1 (pc' := 101) dm_X12_keep_100 rfl rfl rfl rfl ?_
  refine me3 (pc' := 104) dm_X12_keep_101 (g_get (v := .ref 115) (lu (n := 102) (j := 0) hn rfl) rfl rfl (Nat.le_of_ble_eq_true rfl)) rfl rfl rfl ?_
  refine me0 (pc' := 106) (S' := .int (80 : Int32) :: _) dm_X12_keep_104 rfl rfl rfl rfl ?_
  refine me1 (pc' := 107) dm_X12_keep_106 rfl rfl rfl rfl ?_
  refine me0 (pc' := 108) (S' := .int (0 : Int32) :: _) dm_X12_keep_107 rfl rfl rfl rfl ?_
  refine me0 (pc' := 110) (S' := .int (40 : Int32) :: _) dm_X12_keep_108 rfl rfl rfl rfl ?_
  refine me0 (pc' := 111) (S' := .int (40 : Int32) :: _) dm_X12_keep_110 rfl rfl rfl rfl ?_
  refine me1 (pc' := 112) dm_X12_keep_111 rfl rfl rfl rfl ?_
  refine me0 (pc' := 113) (S' := .int (43 : Int32) :: _) dm_X12_keep_112 rfl rfl rfl rfl ?_
  refine me1 (pc' := 114) dm_X12_keep_113 rfl rfl rfl rfl ?_
  refine me3 (pc' := 117) dm_X12_keep_114 (g_get (v := .ref 113) (lu (n := 102) (j := 0) hn rfl) rfl rfl (Nat.le_of_ble_eq_true rfl)) rfl rfl rfl ?_
  refine me1 (pc' := 118) dm_X12_keep_117 rfl rfl rfl rfl ?_
  refine me3 (pc' := 119) dm_X12_keep_118 (g_iald (v := (0 : Int32)) (lu (n := 102) (j := 11) hn rfl) rfl (by decide) rfl (Nat.le_of_ble_eq_true rfl)) rfl rfl rfl ?_
  refine me3 (pc' := 120) dm_X12_keep_119 (u_iast (n := 102) (j := 13) hn rfl rfl (by decide) rfl (Nat.le_of_ble_eq_true rfl)) rfl rfl rfl ?_
  refine me1 (pc' := 123) (L' := [(2, .int (4 : Int32)), (0, .ref 102), (1, .int (0 : Int32))]) dm_X12_keep_120 rfl rfl rfl rfl ?_
  refine me2 (pc' := 40) dm_X12_keep_123 rfl rfl rfl ?_
  refine me1 (pc' := 41) dm_X12_keep_40 rfl rfl rfl rfl ?_
  refine me0 (pc' := 43) (S' := .int (40 : Int32) :: _) dm_X12_keep_41 rfl rfl rfl rfl ?_
  refine me_2f (pc' := 46) dm_X12_keep_43 rfl (by decide) rfl ?_
  refine me1 (pc' := 47) dm_X12_keep_46 rfl rfl rfl rfl ?_
  refine me3 (pc' := 50) dm_X12_keep_47 (g_get (v := .ref 114) (lu (n := 102) (j := 0) hn rfl) rfl rfl (Nat.le_of_ble_eq_true rfl)) rfl rfl rfl ?_
  refine me0 (pc' := 52) (S' := .int (80 : Int32) :: _) dm_X12_keep_50 rfl rfl rfl rfl ?_
  refine me1 (pc' := 53) dm_X12_keep_52 rfl rfl rfl rfl ?_
  refine me0 (pc' := 54) (S' := .int (0 : Int32) :: _) dm_X12_keep_53 rfl rfl rfl rfl ?_
  refine me1 (pc' := 55) dm_X12_keep_54 rfl rfl rfl rfl ?_
  refine me0 (pc' := 56) (S' := .int (4 : Int32) :: _) dm_X12_keep_55 rfl rfl rfl rfl ?_
  refine me1 (pc' := 57) dm_X12_keep_56 rfl rfl rfl rfl ?_
  refine me3 (pc' := 60) dm_X12_keep_57 (g_get (v := .ref 110) (lu (n := 102) (j := 0) hn rfl) rfl rfl (Nat.le_of_ble_eq_true rfl)) rfl rfl rfl ?_
  refine me1 (pc' := 61) dm_X12_keep_60 rfl rfl rfl rfl ?_
  refine me3 (pc' := 62) dm_X12_keep_61 (g_lald (v := (0 : Int64)) (lu (n := 102) (j := 8) hn rfl) rfl (by decide) rfl (Nat.le_of_ble_eq_true rfl)) rfl rfl rfl ?_
  refine me3 (pc' := 63) dm_X12_keep_62 (u_last (n := 102) (j := 12) hn rfl rfl (by decide) rfl (Nat.le_of_ble_eq_true rfl)) rfl rfl rfl ?_
  refine me1 (pc' := 64) dm_X12_keep_63 rfl rfl rfl rfl ?_
  refine me3 (pc' := 67) dm_X12_keep_64 (g_get (v := .ref 115) (lu (n := 102) (j := 0) hn rfl) rfl rfl (Nat.le_of_ble_eq_true rfl)) rfl rfl rfl ?_
  refine me0 (pc' := 69) (S' := .int (80 : Int32) :: _) dm_X12_keep_67 rfl rfl rfl rfl ?_
  refine me1 (pc' := 70) dm_X12_keep_69 rfl rfl rfl rfl ?_
  refine me0 (pc' := 71) (S' := .int (0 : Int32) :: _) dm_X12_keep_70 rfl rfl rfl rfl ?_
  refine me1 (pc' := 72) dm_X12_keep_71 rfl rfl rfl rfl ?_
  refine me0 (pc' := 73) (S' := .int (4 : Int32) :: _) dm_X12_keep_72 rfl rfl rfl rfl ?_
  refine me1 (pc' := 74) dm_X12_keep_73 rfl rfl rfl rfl ?_
  refine me3 (pc' := 77) dm_X12_keep_74 (g_get (v := .ref 112) (lu (n := 102) (j := 0) hn rfl) rfl rfl (Nat.le_of_ble_eq_true rfl)) rfl rfl rfl ?_
  refine me1 (pc' := 78) dm_X12_keep_77 rfl rfl rfl rfl ?_
  refine me3 (pc' := 79) dm_X12_keep_78 (g_iald (v := (0 : Int32)) (lu (n := 102) (j := 10) hn rfl) rfl (by decide) rfl (Nat.le_of_ble_eq_true rfl)) rfl rfl rfl ?_
  refine me3 (pc' := 80) dm_X12_keep_79 (u_iast (n := 102) (j := 13) hn rfl rfl (by decide) rfl (Nat.le_of_ble_eq_true rfl)) rfl rfl rfl ?_
  refine me1 (pc' := 81) dm_X12_keep_80 rfl rfl rfl rfl ?_
  refine me3 (pc' := 84) dm_X12_keep_81 (g_get (v := .ref 114) (lu (n := 102) (j := 0) hn rfl) rfl rfl (Nat.le_of_ble_eq_true rfl)) rfl rfl rfl ?_
  refine me0 (pc' := 86) (S' := .int (80 : Int32) :: _) dm_X12_keep_84 rfl rfl rfl rfl ?_
  refine me1 (pc' := 87) dm_X12_keep_86 rfl rfl rfl rfl ?_
  refine me0 (pc' := 88) (S' := .int (0 : Int32) :: _) dm_X12_keep_87 rfl rfl rfl rfl ?_
  refine me0 (pc' := 90) (S' := .int (40 : Int32) :: _) dm_X12_keep_88 rfl rfl rfl rfl ?_
  refine me0 (pc' := 91) (S' := .int (40 : Int32) :: _) dm_X12_keep_90 rfl rfl rfl rfl ?_
  refine me1 (pc' := 92) dm_X12_keep_91 rfl rfl rfl rfl ?_
  refine me0 (pc' := 93) (S' := .int (44 : Int32) :: _) dm_X12_keep_92 rfl rfl rfl rfl ?_
  refine me1 (pc' := 94) dm_X12_keep_93 rfl rfl rfl rfl ?_
  refine me3 (pc' := 97) dm_X12_keep_94 (g_get (v := .ref 111) (lu (n := 102) (j := 0) hn rfl) rfl rfl (Nat.le_of_ble_eq_true rfl)) rfl rfl rfl ?_
  refine me1 (pc' := 98) dm_X12_keep_97 rfl rfl rfl rfl ?_
  refine me3 (pc' := 99) dm_X12_keep_98 (g_lald (v := (0 : Int64)) (lu (n := 102) (j := 9) hn rfl) rfl (by decide) rfl (Nat.le_of_ble_eq_true rfl)) rfl rfl rfl ?_
  refine me3 (pc' := 100) dm_X12_keep_99 (u_last (n := 102) (j := 12) hn rfl rfl (by decide) rfl (Nat.le_of_ble_eq_true rfl)) rfl rfl rfl ?_
  refine me1 (pc' := 101) dm_X12_keep_100 rfl rfl rfl rfl ?_
  refine me3 (pc' := 104) dm_X12_keep_101 (g_get (v := .ref 115) (lu (n := 102) (j := 0) hn rfl) rfl rfl (Nat.le_of_ble_eq_true rfl)) rfl rfl rfl ?_
  refine me0 (pc' := 106) (S' := .int (80 : Int32) :: _) dm_X12_keep_104 rfl rfl rfl rfl ?_
  refine me1 (pc' := 107) dm_X12_keep_106 rfl rfl rfl rfl ?_
  refine me0 (pc' := 108) (S' := .int (0 : Int32) :: _) dm_X12_keep_107 rfl rfl rfl rfl ?_
  refine me0 (pc' := 110) (S' := .int (40 : Int32) :: _) dm_X12_keep_108 rfl rfl rfl rfl ?_
  refine me0 (pc' := 111) (S' := .int (40 : Int32) :: _) dm_X12_keep_110 rfl rfl rfl rfl ?_
  refine me1 (pc' := 112) dm_X12_keep_111 rfl rfl rfl rfl ?_
  refine me0 (pc' := 113) (S' := .int (44 : Int32) :: _) dm_X12_keep_112 rfl rfl rfl rfl ?_
  refine me1 (pc' := 114) dm_X12_keep_113 rfl rfl rfl rfl ?_
  refine me3 (pc' := 117) dm_X12_keep_114 (g_get (v := .ref 113) (lu (n := 102) (j := 0) hn rfl) rfl rfl (Nat.le_of_ble_eq_true rfl)) rfl rfl rfl ?_
  refine me1 (pc' := 118) dm_X12_keep_117 rfl rfl rfl rfl ?_
  refine me3 (pc' := 119) dm_X12_keep_118 (g_iald (v := (0 : Int32)) (lu (n := 102) (j := 11) hn rfl) rfl (by decide) rfl (Nat.le_of_ble_eq_true rfl)) rfl rfl rfl ?_
  refine me3 (pc' := 120) dm_X12_keep_119 (u_iast (n := 102) (j := 13) hn rfl rfl (by decide) rfl (Nat.le_of_ble_eq_true rfl)) rfl rfl rfl ?_
  refine me1 (pc' := 123) (L' := [(2, .int (5 : Int32)), (0, .ref 102), (1, .int (0 : Int32))]) dm_X12_keep_120 rfl rfl rfl rfl ?_
  refine me2 (pc' := 40) dm_X12_keep_123 rfl rfl rfl ?_
  refine me1 (pc' := 41) dm_X12_keep_40 rfl rfl rfl rfl ?_
  refine me0 (pc' := 43) (S' := .int (40 : Int32) :: _) dm_X12_keep_41 rfl rfl rfl rfl ?_
  refine me_2f (pc' := 46) dm_X12_keep_43 rfl (by decide) rfl ?_
  refine me1 (pc' := 47) dm_X12_keep_46 rfl rfl rfl rfl ?_
  refine me3 (pc' := 50) dm_X12_keep_47 (g_get (v := .ref 114) (lu (n := 102) (j := 0) hn rfl) rfl rfl (Nat.le_of_ble_eq_true rfl)) rfl rfl rfl ?_
  refine me0 (pc' := 52) (S' := .int (80 : Int32) :: _) dm_X12_keep_50 rfl rfl rfl rfl ?_
  refine me1 (pc' := 53) dm_X12_keep_52 rfl rfl rfl rfl ?_
  refine me0 (pc' := 54) (S' := .int (0 : Int32) :: _) dm_X12_keep_53 rfl rfl rfl rfl ?_
  refine me1 (pc' := 55) dm_X12_keep_54 rfl rfl rfl rfl ?_
  refine me0 (pc' := 56) (S' := .int (5 : Int32) :: _) dm_X12_keep_55 rfl rfl rfl rfl ?_
  refine me1 (pc' := 57) dm_X12_keep_56 rfl rfl rfl rfl ?_
  refine me3 (pc' := 60) dm_X12_keep_57 (g_get (v := .ref 110) (lu (n := 102) (j := 0) hn rfl) rfl rfl (Nat.le_of_ble_eq_true rfl)) rfl rfl rfl ?_
  refine me1 (pc' := 61) dm_X12_keep_60 rfl rfl rfl rfl ?_
  refine me3 (pc' := 62) dm_X12_keep_61 (g_lald (v := (0 : Int64)) (lu (n := 102) (j := 8) hn rfl) rfl (by decide) rfl (Nat.le_of_ble_eq_true rfl)) rfl rfl rfl ?_
  refine me3 (pc' := 63) dm_X12_keep_62 (u_last (n := 102) (j := 12) hn rfl rfl (by decide) rfl (Nat.le_of_ble_eq_true rfl)) rfl rfl rfl ?_
  refine me1 (pc' := 64) dm_X12_keep_63 rfl rfl rfl rfl ?_
  refine me3 (pc' := 67) dm_X12_keep_64 (g_get (v := .ref 115) (lu (n := 102) (j := 0) hn rfl) rfl rfl (Nat.le_of_ble_eq_true rfl)) rfl rfl rfl ?_
  refine me0 (pc' := 69) (S' := .int (80 : Int32) :: _) dm_X12_keep_67 rfl rfl rfl rfl ?_
  refine me1 (pc' := 70) dm_X12_keep_69 rfl rfl rfl rfl ?_
  refine me0 (pc' := 71) (S' := .int (0 : Int32) :: _) dm_X12_keep_70 rfl rfl rfl rfl ?_
  refine me1 (pc' := 72) dm_X12_keep_71 rfl rfl rfl rfl ?_
  refine me0 (pc' := 73) (S' := .int (5 : Int32) :: _) dm_X12_keep_72 rfl rfl rfl rfl ?_
  refine me1 (pc' := 74) dm_X12_keep_73 rfl rfl rfl rfl ?_
  refine me3 (pc' := 77) dm_X12_keep_74 (g_get (v := .ref 112) (lu (n := 102) (j := 0) hn rfl) rfl rfl (Nat.le_of_ble_eq_true rfl)) rfl rfl rfl ?_
  refine me1 (pc' := 78) dm_X12_keep_77 rfl rfl rfl rfl ?_
  refine me3 (pc' := 79) dm_X12_keep_78 (g_iald (v := (0 : Int32)) (lu (n := 102) (j := 10) hn rfl) rfl (by decide) rfl (Nat.le_of_ble_eq_true rfl)) rfl rfl rfl ?_
  refine me3 (pc' := 80) dm_X12_keep_79 (u_iast (n := 102) (j := 13) hn rfl rfl (by decide) rfl (Nat.le_of_ble_eq_true rfl)) rfl rfl rfl ?_
  refine me1 (pc' := 81) dm_X12_keep_80 rfl rfl rfl rfl ?_
  refine me3 (pc' := 84) dm_X12_keep_81 (g_get (v := .ref 114) (lu (n := 102) (j := 0) hn rfl) rfl rfl (Nat.le_of_ble_eq_true rfl)) rfl rfl rfl ?_
  refine me0 (pc' := 86) (S' := .int (80 : Int32) :: _) dm_X12_keep_84 rfl rfl rfl rfl ?_
  refine me1 (pc' := 87) dm_X12_keep_86 rfl rfl rfl rfl ?_
  refine me0 (pc' := 88) (S' := .int (0 : Int32) :: _) dm_X12_keep_87 rfl rfl rfl rfl ?_
  refine me0 (pc' := 90) (S' := .int (40 : Int32) :: _) dm_X12_keep_88 rfl rfl rfl rfl ?_
  refine me0 (pc' := 91) (S' := .int (40 : Int32) :: _) dm_X12_keep_90 rfl rfl rfl rfl ?_
  refine me1 (pc' := 92) dm_X12_keep_91 rfl rfl rfl rfl ?_
  refine me0 (pc' := 93) (S' := .int (45 : Int32) :: _) dm_X12_keep_92 rfl rfl rfl rfl ?_
  refine me1 (pc' := 94) dm_X12_keep_93 rfl rfl rfl rfl ?_
  refine me3 (pc' := 97) dm_X12_keep_94 (g_get (v := .ref 111) (lu (n := 102) (j := 0) hn rfl) rfl rfl (Nat.le_of_ble_eq_true rfl)) rfl rfl rfl ?_
  refine me1 (pc' := 98) dm_X12_keep_97 rfl rfl rfl rfl ?_
  refine me3 (pc' := 99) dm_X12_keep_98 (g_lald (v := (0 : Int64)) (lu (n := 102) (j := 9) hn rfl) rfl (by decide) rfl (Nat.le_of_ble_eq_true rfl)) rfl rfl rfl ?_
  refine me3 (pc' := 100) dm_X12_keep_99 (u_last (n := 102) (j := 12) hn rfl rfl (by decide) rfl (Nat.le_of_ble_eq_true rfl)) rfl rfl rfl ?_
  refine me1 (pc' := 101) dm_X12_keep_100 rfl rfl rfl rfl ?_
  refine me3 (pc' := 104) dm_X12_keep_101 (g_get (v := .ref 115) (lu (n := 102) (j := 0) hn rfl) rfl rfl (Nat.le_of_ble_eq_true rfl)) rfl rfl rfl ?_
  refine me0 (pc' := 106) (S' := .int (80 : Int32) :: _) dm_X12_keep_104 rfl rfl rfl rfl ?_
  refine me1 (pc' := 107) dm_X12_keep_106 rfl rfl rfl rfl ?_
  refine me0 (pc' := 108) (S' := .int (0 : Int32) :: _) dm_X12_keep_107 rfl rfl rfl rfl ?_
  refine me0 (pc' := 110) (S' := .int (40 : Int32) :: _) dm_X12_keep_108 rfl rfl rfl rfl ?_
  refine me0 (pc' := 111) (S' := .int (40 : Int32) :: _) dm_X12_keep_110 rfl rfl rfl rfl ?_
  refine me1 (pc' := 112) dm_X12_keep_111 rfl rfl rfl rfl ?_
  refine me0 (pc' := 113) (S' := .int (45 : Int32) :: _) dm_X12_keep_112 rfl rfl rfl rfl ?_
  refine me1 (pc' := 114) dm_X12_keep_113 rfl rfl rfl rfl ?_
  refine me3 (pc' := 117) dm_X12_keep_114 (g_get (v := .ref 113) (lu (n := 102) (j := 0) hn rfl) rfl rfl (Nat.le_of_ble_eq_true rfl)) rfl rfl rfl ?_
  refine me1 (pc' := 118) dm_X12_keep_117 rfl rfl rfl rfl ?_
  refine me3 (pc' := 119) dm_X12_keep_118 (g_iald (v := (0 : Int32)) (lu (n := 102) (j := 11) hn rfl) rfl (by decide) rfl (Nat.le_of_ble_eq_true rfl)) rfl rfl rfl ?_
  refine me3 (pc' := 120) dm_X12_keep_119 (u_iast (n := 102) (j := 13) hn rfl rfl (by decide) rfl (Nat.le_of_ble_eq_true rfl)) rfl rfl rfl ?_
  refine me1 (pc' := 123) (L' := [(2, .int (6 : Int32)), (0, .ref 102), (1, .int (0 : Int32))]) dm_X12_keep_120 rfl rfl rfl rfl ?_
  refine me2 (pc' := 40) dm_X12_keep_123 rfl rfl rfl ?_
  refine me1 (pc' := 41) dm_X12_keep_40 rfl rfl rfl rfl ?_
  refine me0 (pc' := 43) (S' := .int (40 : Int32) :: _) dm_X12_keep_41 rfl rfl rfl rfl ?_
  refine me_2f (pc' := 46) dm_X12_keep_43 rfl (by decide) rfl ?_
  refine me1 (pc' := 47) dm_X12_keep_46 rfl rfl rfl rfl ?_
  refine me3 (pc' := 50) dm_X12_keep_47 (g_get (v := .ref 114) (lu (n := 102) (j := 0) hn rfl) rfl rfl (Nat.le_of_ble_eq_true rfl)) rfl rfl rfl ?_
  refine me0 (pc' := 52) (S' := .int (80 : Int32) :: _) dm_X12_keep_50 rfl rfl rfl rfl ?_
  refine me1 (pc' := 53) dm_X12_keep_52 rfl rfl rfl rfl ?_
  refine me0 (pc' := 54) (S' := .int (0 : Int32) :: _) dm_X12_keep_53 rfl rfl rfl rfl ?_
  refine me1 (pc' := 55) dm_X12_keep_54 rfl rfl rfl rfl ?_
  refine me0 (pc' := 56) (S' := .int (6 : Int32) :: _) dm_X12_keep_55 rfl rfl rfl rfl ?_
  refine me1 (pc' := 57) dm_X12_keep_56 rfl rfl rfl rfl ?_
  refine me3 (pc' := 60) dm_X12_keep_57 (g_get (v := .ref 110) (lu (n := 102) (j := 0) hn rfl) rfl rfl (Nat.le_of_ble_eq_true rfl)) rfl rfl rfl ?_
  refine me1 (pc' := 61) dm_X12_keep_60 rfl rfl rfl rfl ?_
  refine me3 (pc' := 62) dm_X12_keep_61 (g_lald (v := (0 : Int64)) (lu (n := 102) (j := 8) hn rfl) rfl (by decide) rfl (Nat.le_of_ble_eq_true rfl)) rfl rfl rfl ?_
  refine me3 (pc' := 63) dm_X12_keep_62 (u_last (n := 102) (j := 12) hn rfl rfl (by decide) rfl (Nat.le_of_ble_eq_true rfl)) rfl rfl rfl ?_
  refine me1 (pc' := 64) dm_X12_keep_63 rfl rfl rfl rfl ?_
  refine me3 (pc' := 67) dm_X12_keep_64 (g_get (v := .ref 115) (lu (n := 102) (j := 0) hn rfl) rfl rfl (Nat.le_of_ble_eq_true rfl)) rfl rfl rfl ?_
  refine me0 (pc' := 69) (S' := .int (80 : Int32) :: _) dm_X12_keep_67 rfl rfl rfl rfl ?_
  refine me1 (pc' := 70) dm_X12_keep_69 rfl rfl rfl rfl ?_
  refine me0 (pc' := 71) (S' := .int (0 : Int32) :: _) dm_X12_keep_70 rfl rfl rfl rfl ?_
  refine me1 (pc' := 72) dm_X12_keep_71 rfl rfl rfl rfl ?_
  refine me0 (pc' := 73) (S' := .int (6 : Int32) :: _) dm_X12_keep_72 rfl rfl rfl rfl ?_
  refine me1 (pc' := 74) dm_X12_keep_73 rfl rfl rfl rfl ?_
  refine me3 (pc' := 77) dm_X12_keep_74 (g_get (v := .ref 112) (lu (n := 102) (j := 0) hn rfl) rfl rfl (Nat.le_of_ble_eq_true rfl)) rfl rfl rfl ?_
  refine me1 (pc' := 78) dm_X12_keep_77 rfl rfl rfl rfl ?_
  refine me3 (pc' := 79) dm_X12_keep_78 (g_iald (v := (0 : Int32)) (lu (n := 102) (j := 10) hn rfl) rfl (by decide) rfl (Nat.le_of_ble_eq_true rfl)) rfl rfl rfl ?_
  refine me3 (pc' := 80) dm_X12_keep_79 (u_iast (n := 102) (j := 13) hn rfl rfl (by decide) rfl (Nat.le_of_ble_eq_true rfl)) rfl rfl rfl ?_
  refine me1 (pc' := 81) dm_X12_keep_80 rfl rfl rfl rfl ?_
  refine me3 (pc' := 84) dm_X12_keep_81 (g_get (v := .ref 114) (lu (n := 102) (j := 0) hn rfl) rfl rfl (Nat.le_of_ble_eq_true rfl)) rfl rfl rfl ?_
  refine me0 (pc' := 86) (S' := .int (80 : Int32) :: _) dm_X12_keep_84 rfl rfl rfl rfl ?_
  refine me1 (pc' := 87) dm_X12_keep_86 rfl rfl rfl rfl ?_
  refine me0 (pc' := 88) (S' := .int (0 : Int32) :: _) dm_X12_keep_87 rfl rfl rfl rfl ?_
  refine me0 (pc' := 90) (S' := .int (40 : Int32) :: _) dm_X12_keep_88 rfl rfl rfl rfl ?_
  refine me0 (pc' := 91) (S' := .int (40 : Int32) :: _) dm_X12_keep_90 rfl rfl rfl rfl ?_
  refine me1 (pc' := 92) dm_X12_keep_91 rfl rfl rfl rfl ?_
  refine me0 (pc' := 93) (S' := .int (46 : Int32) :: _) dm_X12_keep_92 rfl rfl rfl rfl ?_
  refine me1 (pc' := 94) dm_X12_keep_93 rfl rfl rfl rfl ?_
  refine me3 (pc' := 97) dm_X12_keep_94 (g_get (v := .ref 111) (lu (n := 102) (j := 0) hn rfl) rfl rfl (Nat.le_of_ble_eq_true rfl)) rfl rfl rfl ?_
  refine me1 (pc' := 98) dm_X12_keep_97 rfl rfl rfl rfl ?_
  refine me3 (pc' := 99) dm_X12_keep_98 (g_lald (v := (0 : Int64)) (lu (n := 102) (j := 9) hn rfl) rfl (by decide) rfl (Nat.le_of_ble_eq_true rfl)) rfl rfl rfl ?_
  refine me3 (pc' := 100) dm_X12_keep_99 (u_last (n := 102) (j := 12) hn rfl rfl (by decide) rfl (Nat.le_of_ble_eq_true rfl)) rfl rfl rfl ?_
  refine me1 (pc' := 101) dm_X12_keep_100 rfl rfl rfl rfl ?_
  refine me3 (pc' := 104) dm_X12_keep_101 (g_get (v := .ref 115) (lu (n := 102) (j := 0) hn rfl) rfl rfl (Nat.le_of_ble_eq_true rfl)) rfl rfl rfl ?_
  refine me0 (pc' := 106) (S' := .int (80 : Int32) :: _) dm_X12_keep_104 rfl rfl rfl rfl ?_
  refine me1 (pc' := 107) dm_X12_keep_106 rfl rfl rfl rfl ?_
  refine me0 (pc' := 108) (S' := .int (0 : Int32) :: _) dm_X12_keep_107 rfl rfl rfl rfl ?_
  refine me0 (pc' := 110) (S' := .int (40 : Int32) :: _) dm_X12_keep_108 rfl rfl rfl rfl ?_
  refine me0 (pc' := 111) (S' := .int (40 : Int32) :: _) dm_X12_keep_110 rfl rfl rfl rfl ?_
  refine me1 (pc' := 112) dm_X12_keep_111 rfl rfl rfl rfl ?_
  refine me0 (pc' := 113) (S' := .int (46 : Int32) :: _) dm_X12_keep_112 rfl rfl rfl rfl ?_
  refine me1 (pc' := 114) dm_X12_keep_113 rfl rfl rfl rfl ?_
  refine me3 (pc' := 117) dm_X12_keep_114 (g_get (v := .ref 113) (lu (n := 102) (j := 0) hn rfl) rfl rfl (Nat.le_of_ble_eq_true rfl)) rfl rfl rfl ?_
  refine me1 (pc' := 118) dm_X12_keep_117 rfl rfl rfl rfl ?_
  refine me3 (pc' := 119) dm_X12_keep_118 (g_iald (v := (0 : Int32)) (lu (n := 102) (j := 11) hn rfl) rfl (by decide) rfl (Nat.le_of_ble_eq_true rfl)) rfl rfl rfl ?_
  refine me3 (pc' := 120) dm_X12_keep_119 (u_iast (n := 102) (j := 13) hn rfl rfl (by decide) rfl (Nat.le_of_ble_eq_true rfl)) rfl rfl rfl ?_
  refine me1 (pc' := 123) (L' := [(2, .int (7 : Int32)), (0, .ref 102), (1, .int (0 : Int32))]) dm_X12_keep_120 rfl rfl rfl rfl ?_
  refine me2 (pc' := 40) dm_X12_keep_123 rfl rfl rfl ?_
  refine me1 (pc' := 41) dm_X12_keep_40 rfl rfl rfl rfl ?_
  refine me0 (pc' := 43) (S' := .int (40 : Int32) :: _) dm_X12_keep_41 rfl rfl rfl rfl ?_
  refine me_2f (pc' := 46) dm_X12_keep_43 rfl (by decide) rfl ?_
  refine me1 (pc' := 47) dm_X12_keep_46 rfl rfl rfl rfl ?_
  refine me3 (pc' := 50) dm_X12_keep_47 (g_get (v := .ref 114) (lu (n := 102) (j := 0) hn rfl) rfl rfl (Nat.le_of_ble_eq_true rfl)) rfl rfl rfl ?_
  refine me0 (pc' := 52) (S' := .int (80 : Int32) :: _) dm_X12_keep_50 rfl rfl rfl rfl ?_
  refine me1 (pc' := 53) dm_X12_keep_52 rfl rfl rfl rfl ?_
  refine me0 (pc' := 54) (S' := .int (0 : Int32) :: _) dm_X12_keep_53 rfl rfl rfl rfl ?_
  refine me1 (pc' := 55) dm_X12_keep_54 rfl rfl rfl rfl ?_
  refine me0 (pc' := 56) (S' := .int (7 : Int32) :: _) dm_X12_keep_55 rfl rfl rfl rfl ?_
  refine me1 (pc' := 57) dm_X12_keep_56 rfl rfl rfl rfl ?_
  refine me3 (pc' := 60) dm_X12_keep_57 (g_get (v := .ref 110) (lu (n := 102) (j := 0) hn rfl) rfl rfl (Nat.le_of_ble_eq_true rfl)) rfl rfl rfl ?_
  refine me1 (pc' := 61) dm_X12_keep_60 rfl rfl rfl rfl ?_
  refine me3 (pc' := 62) dm_X12_keep_61 (g_lald (v := (0 : Int64)) (lu (n := 102) (j := 8) hn rfl) rfl (by decide) rfl (Nat.le_of_ble_eq_true rfl)) rfl rfl rfl ?_
  refine me3 (pc' := 63) dm_X12_keep_62 (u_last (n := 102) (j := 12) hn rfl rfl (by decide) rfl (Nat.le_of_ble_eq_true rfl)) rfl rfl rfl ?_
  refine me1 (pc' := 64) dm_X12_keep_63 rfl rfl rfl rfl ?_
  refine me3 (pc' := 67) dm_X12_keep_64 (g_get (v := .ref 115) (lu (n := 102) (j := 0) hn rfl) rfl rfl (Nat.le_of_ble_eq_true rfl)) rfl rfl rfl ?_
  refine me0 (pc' := 69) (S' := .int (80 : Int32) :: _) dm_X12_keep_67 rfl rfl rfl rfl ?_
  refine me1 (pc' := 70) dm_X12_keep_69 rfl rfl rfl rfl ?_
  refine me0 (pc' := 71) (S' := .int (0 : Int32) :: _) dm_X12_keep_70 rfl rfl rfl rfl ?_
  refine me1 (pc' := 72) dm_X12_keep_71 rfl rfl rfl rfl ?_
  refine me0 (pc' := 73) (S' := .int (7 : Int32) :: _) dm_X12_keep_72 rfl rfl rfl rfl ?_
  refine me1 (pc' := 74) dm_X12_keep_73 rfl rfl rfl rfl ?_
  refine me3 (pc' := 77) dm_X12_keep_74 (g_get (v := .ref 112) (lu (n := 102) (j := 0) hn rfl) rfl rfl (Nat.le_of_ble_eq_true rfl)) rfl rfl rfl ?_
  refine me1 (pc' := 78) dm_X12_keep_77 rfl rfl rfl rfl ?_
  refine me3 (pc' := 79) dm_X12_keep_78 (g_iald (v := (0 : Int32)) (lu (n := 102) (j := 10) hn rfl) rfl (by decide) rfl (Nat.le_of_ble_eq_true rfl)) rfl rfl rfl ?_
  refine me3 (pc' := 80) dm_X12_keep_79 (u_iast (n := 102) (j := 13) hn rfl rfl (by decide) rfl (Nat.le_of_ble_eq_true rfl)) rfl rfl rfl ?_
  refine me1 (pc' := 81) dm_X12_keep_80 rfl rfl rfl rfl ?_
  refine me3 (pc' := 84) dm_X12_keep_81 (g_get (v := .ref 114) (lu (n := 102) (j := 0) hn rfl) rfl rfl (Nat.le_of_ble_eq_true rfl)) rfl rfl rfl ?_
  refine me0 (pc' := 86) (S' := .int (80 : Int32) :: _) dm_X12_keep_84 rfl rfl rfl rfl ?_
  refine me1 (pc' := 87) dm_X12_keep_86 rfl rfl rfl rfl ?_
  refine me0 (pc' := 88) (S' := .int (0 : Int32) :: _) dm_X12_keep_87 rfl rfl rfl rfl ?_
  refine me0 (pc' := 90) (S' := .int (40 : Int32) :: _) dm_X12_keep_88 rfl rfl rfl rfl ?_
  refine me0 (pc' := 91) (S' := .int (40 : Int32) :: _) dm_X12_keep_90 rfl rfl rfl rfl ?_
  refine me1 (pc' := 92) dm_X12_keep_91 rfl rfl rfl rfl ?_
  refine me0 (pc' := 93) (S' := .int (47 : Int32) :: _) dm_X12_keep_92 rfl rfl rfl rfl ?_
  refine me1 (pc' := 94) dm_X12_keep_93 rfl rfl rfl rfl ?_
  refine me3 (pc' := 97) dm_X12_keep_94 (g_get (v := .ref 111) (lu (n := 102) (j := 0) hn rfl) rfl rfl (Nat.le_of_ble_eq_true rfl)) rfl rfl rfl ?_
  refine me1 (pc' := 98) dm_X12_keep_97 rfl rfl rfl rfl ?_
  refine me3 (pc' := 99) dm_X12_keep_98 (g_lald (v := (0 : Int64)) (lu (n := 102) (j := 9) hn rfl) rfl (by decide) rfl (Nat.le_of_ble_eq_true rfl)) rfl rfl rfl ?_
  refine me3 (pc' := 100) dm_X12_keep_99 (u_last (n := 102) (j := 12) hn rfl rfl (by decide) rfl (Nat.le_of_ble_eq_true rfl)) rfl rfl rfl ?_
  refine me1 (pc' := 101) dm_X12_keep_100 rfl rfl rfl rfl ?_
  refine me3 (pc' := 104) dm_X12_keep_101 (g_get (v := .ref 115) (lu (n := 102) (j := 0) hn rfl) rfl rfl (Nat.le_of_ble_eq_true rfl)) rfl rfl rfl ?_
  refine me0 (pc' := 106) (S' := .int (80 : Int32) :: _) dm_X12_keep_104 rfl rfl rfl rfl ?_
  refine me1 (pc' := 107) dm_X12_keep_106 rfl rfl rfl rfl ?_
  refine me0 (pc' := 108) (S' := .int (0 : Int32) :: _) dm_X12_keep_107 rfl rfl rfl rfl ?_
  refine me0 (pc' := 110) (S' := .int (40 : Int32) :: _) dm_X12_keep_108 rfl rfl rfl rfl ?_
  refine me0 (pc' := 111) (S' := .int (40 : Int32) :: _) dm_X12_keep_110 rfl rfl rfl rfl ?_
  refine me1 (pc' := 112) dm_X12_keep_111 rfl rfl rfl rfl ?_
  refine me0 (pc' := 113) (S' := .int (47 : Int32) :: _) dm_X12_keep_112 rfl rfl rfl rfl ?_
  refine me1 (pc' := 114) dm_X12_keep_113 rfl rfl rfl rfl ?_
  refine me3 (pc' := 117) dm_X12_keep_114 (g_get (v := .ref 113) (lu (n := 102) (j := 0) hn rfl) rfl rfl (Nat.le_of_ble_eq_true rfl)) rfl rfl rfl ?_
  refine me1 (pc' := 118) dm_X12_keep_117 rfl rfl rfl rfl ?_
  refine me3 (pc' := 119) dm_X12_keep_118 (g_iald (v := (0 : Int32)) (lu (n := 102) (j := 11) hn rfl) rfl (by decide) rfl (Nat.le_of_ble_eq_true rfl)) rfl rfl rfl ?_
  refine me3 (pc' := 120) dm_X12_keep_119 (u_iast (n := 102) (j := 13) hn rfl rfl (by decide) rfl (Nat.le_of_ble_eq_true rfl)) rfl rfl rfl ?_
  refine me1 (pc' := 123) (L' := [(2, .int (8 : Int32)), (0, .ref 102), (1, .int (0 : Int32))]) dm_X12_keep_120 rfl rfl rfl rfl ?_
  refine me2 (pc' := 40) dm_X12_keep_123 rfl rfl rfl ?_
  refine me1 (pc' := 41) dm_X12_keep_40 rfl rfl rfl rfl ?_
  refine me0 (pc' := 43) (S' := .int (40 : Int32) :: _) dm_X12_keep_41 rfl rfl rfl rfl ?_
  refine me_2f (pc' := 46) dm_X12_keep_43 rfl (by decide) rfl ?_
  refine me1 (pc' := 47) dm_X12_keep_46 rfl rfl rfl rfl ?_
  refine me3 (pc' := 50) dm_X12_keep_47 (g_get (v := .ref 114) (lu (n := 102) (j := 0) hn rfl) rfl rfl (Nat.le_of_ble_eq_true rfl)) rfl rfl rfl ?_
  refine me0 (pc' := 52) (S' := .int (80 : Int32) :: _) dm_X12_keep_50 rfl rfl rfl rfl ?_
  refine me1 (pc' := 53) dm_X12_keep_52 rfl rfl rfl rfl ?_
  refine me0 (pc' := 54) (S' := .int (0 : Int32) :: _) dm_X12_keep_53 rfl rfl rfl rfl ?_
  refine me1 (pc' := 55) dm_X12_keep_54 rfl rfl rfl rfl ?_
  refine me0 (pc' := 56) (S' := .int (8 : Int32) :: _) dm_X12_keep_55 rfl rfl rfl rfl ?_
  refine me1 (pc' := 57) dm_X12_keep_56 rfl rfl rfl rfl ?_
  refine me3 (pc' := 60) dm_X12_keep_57 (g_get (v := .ref 110) (lu (n := 102) (j := 0) hn rfl) rfl rfl (Nat.le_of_ble_eq_true rfl)) rfl rfl rfl ?_
  refine me1 (pc' := 61) dm_X12_keep_60 rfl rfl rfl rfl ?_
  refine me3 (pc' := 62) dm_X12_keep_61 (g_lald (v := (0 : Int64)) (lu (n := 102) (j := 8) hn rfl) rfl (by decide) rfl (Nat.le_of_ble_eq_true rfl)) rfl rfl rfl ?_
  refine me3 (pc' := 63) dm_X12_keep_62 (u_last (n := 102) (j := 12) hn rfl rfl (by decide) rfl (Nat.le_of_ble_eq_true rfl)) rfl rfl rfl ?_
  refine me1 (pc' := 64) dm_X12_keep_63 rfl rfl rfl rfl ?_
  refine me3 (pc' := 67) dm_X12_keep_64 (g_get (v := .ref 115) (lu (n := 102) (j := 0) hn rfl) rfl rfl (Nat.le_of_ble_eq_true rfl)) rfl rfl rfl ?_
  refine me0 (pc' := 69) (S' := .int (80 : Int32) :: _) dm_X12_keep_67 rfl rfl rfl rfl ?_
  refine me1 (pc' := 70) dm_X12_keep_69 rfl rfl rfl rfl ?_
  refine me0 (pc' := 71) (S' := .int (0 : Int32) :: _) dm_X12_keep_70 rfl rfl rfl rfl ?_
  refine me1 (pc' := 72) dm_X12_keep_71 rfl rfl rfl rfl ?_
  refine me0 (pc' := 73) (S' := .int (8 : Int32) :: _) dm_X12_keep_72 rfl rfl rfl rfl ?_
  refine me1 (pc' := 74) dm_X12_keep_73 rfl rfl rfl rfl ?_
  refine me3 (pc' := 77) dm_X12_keep_74 (g_get (v := .ref 112) (lu (n := 102) (j := 0) hn rfl) rfl rfl (Nat.le_of_ble_eq_true rfl)) rfl rfl rfl ?_
  refine me1 (pc' := 78) dm_X12_keep_77 rfl rfl rfl rfl ?_
  refine me3 (pc' := 79) dm_X12_keep_78 (g_iald (v := (0 : Int32)) (lu (n := 102) (j := 10) hn rfl) rfl (by decide) rfl (Nat.le_of_ble_eq_true rfl)) rfl rfl rfl ?_
  refine me3 (pc' := 80) dm_X12_keep_79 (u_iast (n := 102) (j := 13) hn rfl rfl (by decide) rfl (Nat.le_of_ble_eq_true rfl)) rfl rfl rfl ?_
  refine me1 (pc' := 81) dm_X12_keep_80 rfl rfl rfl rfl ?_
  refine me3 (pc' := 84) dm_X12_keep_81 (g_get (v := .ref 114) (lu (n := 102) (j := 0) hn rfl) rfl rfl (Nat.le_of_ble_eq_true rfl)) rfl rfl rfl ?_
  refine me0 (pc' := 86) (S' := .int (80 : Int32) :: _) dm_X12_keep_84 rfl rfl rfl rfl ?_
  refine me1 (pc' := 87) dm_X12_keep_86 rfl rfl rfl rfl ?_
  refine me0 (pc' := 88) (S' := .int (0 : Int32) :: _) dm_X12_keep_87 rfl rfl rfl rfl ?_
  refine me0 (pc' := 90) (S' := .int (40 : Int32) :: _) dm_X12_keep_88 rfl rfl rfl rfl ?_
  refine me0 (pc' := 91) (S' := .int (40 : Int32) :: _) dm_X12_keep_90 rfl rfl rfl rfl ?_
  refine me1 (pc' := 92) dm_X12_keep_91 rfl rfl rfl rfl ?_
  refine me0 (pc' := 93) (S' := .int (48 : Int32) :: _) dm_X12_keep_92 rfl rfl rfl rfl ?_
  refine me1 (pc' := 94) dm_X12_keep_93 rfl rfl rfl rfl ?_
  refine me3 (pc' := 97) dm_X12_keep_94 (g_get (v := .ref 111) (lu (n := 102) (j := 0) hn rfl) rfl rfl (Nat.le_of_ble_eq_true rfl)) rfl rfl rfl ?_
  refine me1 (pc' := 98) dm_X12_keep_97 rfl rfl rfl rfl ?_
  refine me3 (pc' := 99) dm_X12_keep_98 (g_lald (v := (0 : Int64)) (lu (n := 102) (j := 9) hn rfl) rfl (by decide) rfl (Nat.le_of_ble_eq_true rfl)) rfl rfl rfl ?_
  refine me3 (pc' := 100) dm_X12_keep_99 (u_last (n := 102) (j := 12) hn rfl rfl (by decide) rfl (Nat.le_of_ble_eq_true rfl)) rfl rfl rfl ?_
  refine me1 (pc' := 101) dm_X12_keep_100 rfl rfl rfl rfl ?_
  refine me3 (pc' := 104) dm_X12_keep_101 (g_get (v := .ref 115) (lu (n := 102) (j := 0) hn rfl) rfl rfl (Nat.le_of_ble_eq_true rfl)) rfl rfl rfl ?_
  refine me0 (pc' := 106) (S' := .int (80 : Int32) :: _) dm_X12_keep_104 rfl rfl rfl rfl ?_
  refine me1 (pc' := 107) dm_X12_keep_106 rfl rfl rfl rfl ?_
  refine me0 (pc' := 108) (S' := .int (0 : Int32) :: _) dm_X12_keep_107 rfl rfl rfl rfl ?_
  refine me0 (pc' := 110) (S' := .int (40 : Int32) :: _) dm_X12_keep_108 rfl rfl rfl rfl ?_
  refine me0 (pc' := 111) (S' := .int (40 : Int32) :: _) dm_X12_keep_110 rfl rfl rfl rfl ?_
  refine me1 (pc' := 112) dm_X12_keep_111 rfl rfl rfl rfl ?_
  refine me0 (pc' := 113) (S' := .int (48 : Int32) :: _) dm_X12_keep_112 rfl rfl rfl rfl ?_
  refine me1 (pc' := 114) dm_X12_keep_113 rfl rfl rfl rfl ?_
  refine me3 (pc' := 117) dm_X12_keep_114 (g_get (v := .ref 113) (lu (n := 102) (j := 0) hn rfl) rfl rfl (Nat.le_of_ble_eq_true rfl)) rfl rfl rfl ?_
  refine me1 (pc' := 118) dm_X12_keep_117 rfl rfl rfl rfl ?_
  refine me3 (pc' := 119) dm_X12_keep_118 (g_iald (v := (0 : Int32)) (lu (n := 102) (j := 11) hn rfl) rfl (by decide) rfl (Nat.le_of_ble_eq_true rfl)) rfl rfl rfl ?_
  refine me3 (pc' := 120) dm_X12_keep_119 (u_iast (n := 102) (j := 13) hn rfl rfl (by decide) rfl (Nat.le_of_ble_eq_true rfl)) rfl rfl rfl ?_
  refine me1 (pc' := 123) (L' := [(2, .int (9 : Int32)), (0, .ref 102), (1, .int (0 : Int32))]) dm_X12_keep_120 rfl rfl rfl rfl ?_
  refine me2 (pc' := 40) dm_X12_keep_123 rfl rfl rfl ?_
  refine me1 (pc' := 41) dm_X12_keep_40 rfl rfl rfl rfl ?_
  refine me0 (pc' := 43) (S' := .int (40 : Int32) :: _) dm_X12_keep_41 rfl rfl rfl rfl ?_
  refine me_2f (pc' := 46) dm_X12_keep_43 rfl (by decide) rfl ?_
  refine me1 (pc' := 47) dm_X12_keep_46 rfl rfl rfl rfl ?_
  refine me3 (pc' := 50) dm_X12_keep_47 (g_get (v := .ref 114) (lu (n := 102) (j := 0) hn rfl) rfl rfl (Nat.le_of_ble_eq_true rfl)) rfl rfl rfl ?_
  refine me0 (pc' := 52) (S' := .int (80 : Int32) :: _) dm_X12_keep_50 rfl rfl rfl rfl ?_
  refine me1 (pc' := 53) dm_X12_keep_52 rfl rfl rfl rfl ?_
  refine me0 (pc' := 54) (S' := .int (0 : Int32) :: _) dm_X12_keep_53 rfl rfl rfl rfl ?_
  refine me1 (pc' := 55) dm_X12_keep_54 rfl rfl rfl rfl ?_
  refine me0 (pc' := 56) (S' := .int (9 : Int32) :: _) dm_X12_keep_55 rfl rfl rfl rfl ?_
  refine me1 (pc' := 57) dm_X12_keep_56 rfl rfl rfl rfl ?_
  refine me3 (pc' := 60) dm_X12_keep_57 (g_get (v := .ref 110) (lu (n := 102) (j := 0) hn rfl) rfl rfl (Nat.le_of_ble_eq_true rfl)) rfl rfl rfl ?_
  refine me1 (pc' := 61) dm_X12_keep_60 rfl rfl rfl rfl ?_
  refine me3 (pc' := 62) dm_X12_keep_61 (g_lald (v := (0 : Int64)) (lu (n := 102) (j := 8) hn rfl) rfl (by decide) rfl (Nat.le_of_ble_eq_true rfl)) rfl rfl rfl ?_
  refine me3 (pc' := 63) dm_X12_keep_62 (u_last (n := 102) (j := 12) hn rfl rfl (by decide) rfl (Nat.le_of_ble_eq_true rfl)) rfl rfl rfl ?_
  refine me1 (pc' := 64) dm_X12_keep_63 rfl rfl rfl rfl ?_
  refine me3 (pc' := 67) dm_X12_keep_64 (g_get (v := .ref 115) (lu (n := 102) (j := 0) hn rfl) rfl rfl (Nat.le_of_ble_eq_true rfl)) rfl rfl rfl ?_
  refine me0 (pc' := 69) (S' := .int (80 : Int32) :: _) dm_X12_keep_67 rfl rfl rfl rfl ?_
  refine me1 (pc' := 70) dm_X12_keep_69 rfl rfl rfl rfl ?_
  refine me0 (pc' := 71) (S' := .int (0 : Int32) :: _) dm_X12_keep_70 rfl rfl rfl rfl ?_
  refine me1 (pc' := 72) dm_X12_keep_71 rfl rfl rfl rfl ?_
  refine me0 (pc' := 73) (S' := .int (9 : Int32) :: _) dm_X12_keep_72 rfl rfl rfl rfl ?_
  refine me1 (pc' := 74) dm_X12_keep_73 rfl rfl rfl rfl ?_
  refine me3 (pc' := 77) dm_X12_keep_74 (g_get (v := .ref 112) (lu (n := 102) (j := 0) hn rfl) rfl rfl (Nat.le_of_ble_eq_true rfl)) rfl rfl rfl ?_
  refine me1 (pc' := 78) dm_X12_keep_77 rfl rfl rfl rfl ?_
  refine me3 (pc' := 79) dm_X12_keep_78 (g_iald (v := (0 : Int32)) (lu (n := 102) (j := 10) hn rfl) rfl (by decide) rfl (Nat.le_of_ble_eq_true rfl)) rfl rfl rfl ?_
  refine me3 (pc' := 80) dm_X12_keep_79 (u_iast (n := 102) (j := 13) hn rfl rfl (by decide) rfl (Nat.le_of_ble_eq_true rfl)) rfl rfl rfl ?_
  refine me1 (pc' := 81) dm_X12_keep_80 rfl rfl rfl rfl ?_
  refine me3 (pc' := 84) dm_X12_keep_81 (g_get (v := .ref 114) (lu (n := 102) (j := 0) hn rfl) rfl rfl (Nat.le_of_ble_eq_true rfl)) rfl rfl rfl ?_
  refine me0 (pc' := 86) (S' := .int (80 : Int32) :: _) dm_X12_keep_84 rfl rfl rfl rfl ?_
  refine me1 (pc' := 87) dm_X12_keep_86 rfl rfl rfl rfl ?_
  refine me0 (pc' := 88) (S' := .int (0 : Int32) :: _) dm_X12_keep_87 rfl rfl rfl rfl ?_
  refine me0 (pc' := 90) (S' := .int (40 : Int32) :: _) dm_X12_keep_88 rfl rfl rfl rfl ?_
  refine me0 (pc' := 91) (S' := .int (40 : Int32) :: _) dm_X12_keep_90 rfl rfl rfl rfl ?_
  refine me1 (pc' := 92) dm_X12_keep_91 rfl rfl rfl rfl ?_
  refine me0 (pc' := 93) (S' := .int (49 : Int32) :: _) dm_X12_keep_92 rfl rfl rfl rfl ?_
  refine me1 (pc' := 94) dm_X12_keep_93 rfl rfl rfl rfl ?_
  refine me3 (pc' := 97) dm_X12_keep_94 (g_get (v := .ref 111) (lu (n := 102) (j := 0) hn rfl) rfl rfl (Nat.le_of_ble_eq_true rfl)) rfl rfl rfl ?_
  refine me1 (pc' := 98) dm_X12_keep_97 rfl rfl rfl rfl ?_
  refine me3 (pc' := 99) dm_X12_keep_98 (g_lald (v := (0 : Int64)) (lu (n := 102) (j := 9) hn rfl) rfl (by decide) rfl (Nat.le_of_ble_eq_true rfl)) rfl rfl rfl ?_
  refine me3 (pc' := 100) dm_X12_keep_99 (u_last (n := 102) (j := 12) hn rfl rfl (by decide) rfl (Nat.le_of_ble_eq_true rfl)) rfl rfl rfl ?_
  refine me1 (pc' := 101) dm_X12_keep_100 rfl rfl rfl rfl ?_
  refine me3 (pc' := 104) dm_X12_keep_101 (g_get (v := .ref 115) (lu (n := 102) (j := 0) hn rfl) rfl rfl (Nat.le_of_ble_eq_true rfl)) rfl rfl rfl ?_
  refine me0 (pc' := 106) (S' := .int (80 : Int32) :: _) dm_X12_keep_104 rfl rfl rfl rfl ?_
  refine me1 (pc' := 107) dm_X12_keep_106 rfl rfl rfl rfl ?_
  refine me0 (pc' := 108) (S' := .int (0 : Int32) :: _) dm_X12_keep_107 rfl rfl rfl rfl ?_
  refine me0 (pc' := 110) (S' := .int (40 : Int32) :: _) dm_X12_keep_108 rfl rfl rfl rfl ?_
  refine me0 (pc' := 111) (S' := .int (40 : Int32) :: _) dm_X12_keep_110 rfl rfl rfl rfl ?_
  refine me1 (pc' := 112) dm_X12_keep_111 rfl rfl rfl rfl ?_
  refine me0 (pc' := 113) (S' := .int (49 : Int32) :: _) dm_X12_keep_112 rfl rfl rfl rfl ?_
  refine me1 (pc' := 114) dm_X12_keep_113 rfl rfl rfl rfl ?_
  refine me3 (pc' := 117) dm_X12_keep_114 (g_get (v := .ref 113) (lu (n := 102) (j := 0) hn rfl) rfl rfl (Nat.le_of_ble_eq_true rfl)) rfl rfl rfl ?_
  refine me1 (pc' := 118) dm_X12_keep_117 rfl rfl rfl rfl ?_
  refine me3 (pc' := 119) dm_X12_keep_118 (g_iald (v := (0 : Int32)) (lu (n := 102) (j := 11) hn rfl) rfl (by decide) rfl (Nat.le_of_ble_eq_true rfl)) rfl rfl rfl ?_
  refine me3 (pc' := 120) dm_X12_keep_119 (u_iast (n := 102) (j := 13) hn rfl rfl (by decide) rfl (Nat.le_of_ble_eq_true rfl)) rfl rfl rfl ?_
  refine me1 (pc' := 123) (L' := [(2, .int (10 : Int32)), (0, .ref 102), (1, .int (0 : Int32))]) dm_X12_keep_120 rfl rfl rfl rfl ?_
  refine me2 (pc' := 40) dm_X12_keep_123 rfl rfl rfl ?_
  refine me1 (pc' := 41) dm_X12_keep_40 rfl rfl rfl rfl ?_
  refine me0 (pc' := 43) (S' := .int (40 : Int32) :: _) dm_X12_keep_41 rfl rfl rfl rfl ?_
  refine me_2f (pc' := 46) dm_X12_keep_43 rfl (by decide) rfl ?_
  refine me1 (pc' := 47) dm_X12_keep_46 rfl rfl rfl rfl ?_
  refine me3 (pc' := 50) dm_X12_keep_47 (g_get (v := .ref 114) (lu (n := 102) (j := 0) hn rfl) rfl rfl (Nat.le_of_ble_eq_true rfl)) rfl rfl rfl ?_
  refine me0 (pc' := 52) (S' := .int (80 : Int32) :: _) dm_X12_keep_50 rfl rfl rfl rfl ?_
  refine me1 (pc' := 53) dm_X12_keep_52 rfl rfl rfl rfl ?_
  refine me0 (pc' := 54) (S' := .int (0 : Int32) :: _) dm_X12_keep_53 rfl rfl rfl rfl ?_
  refine me1 (pc' := 55) dm_X12_keep_54 rfl rfl rfl rfl ?_
  refine me0 (pc' := 56) (S' := .int (10 : Int32) :: _) dm_X12_keep_55 rfl rfl rfl rfl ?_
  refine me1 (pc' := 57) dm_X12_keep_56 rfl rfl rfl rfl ?_
  refine me3 (pc' := 60) dm_X12_keep_57 (g_get (v := .ref 110) (lu (n := 102) (j := 0) hn rfl) rfl rfl (Nat.le_of_ble_eq_true rfl)) rfl rfl rfl ?_
  refine me1 (pc' := 61) dm_X12_keep_60 rfl rfl rfl rfl ?_
  refine me3 (pc' := 62) dm_X12_keep_61 (g_lald (v := (0 : Int64)) (lu (n := 102) (j := 8) hn rfl) rfl (by decide) rfl (Nat.le_of_ble_eq_true rfl)) rfl rfl rfl ?_
  refine me3 (pc' := 63) dm_X12_keep_62 (u_last (n := 102) (j := 12) hn rfl rfl (by decide) rfl (Nat.le_of_ble_eq_true rfl)) rfl rfl rfl ?_
  refine me1 (pc' := 64) dm_X12_keep_63 rfl rfl rfl rfl ?_
  refine me3 (pc' := 67) dm_X12_keep_64 (g_get (v := .ref 115) (lu (n := 102) (j := 0) hn rfl) rfl rfl (Nat.le_of_ble_eq_true rfl)) rfl rfl rfl ?_
  refine me0 (pc' := 69) (S' := .int (80 : Int32) :: _) dm_X12_keep_67 rfl rfl rfl rfl ?_
  refine me1 (pc' := 70) dm_X12_keep_69 rfl rfl rfl rfl ?_
  refine me0 (pc' := 71) (S' := .int (0 : Int32) :: _) dm_X12_keep_70 rfl rfl rfl rfl ?_
  refine me1 (pc' := 72) dm_X12_keep_71 rfl rfl rfl rfl ?_
  refine me0 (pc' := 73) (S' := .int (10 : Int32) :: _) dm_X12_keep_72 rfl rfl rfl rfl ?_
  refine me1 (pc' := 74) dm_X12_keep_73 rfl rfl rfl rfl ?_
  refine me3 (pc' := 77) dm_X12_keep_74 (g_get (v := .ref 112) (lu (n := 102) (j := 0) hn rfl) rfl rfl (Nat.le_of_ble_eq_true rfl)) rfl rfl rfl ?_
  refine me1 (pc' := 78) dm_X12_keep_77 rfl rfl rfl rfl ?_
  refine me3 (pc' := 79) dm_X12_keep_78 (g_iald (v := (0 : Int32)) (lu (n := 102) (j := 10) hn rfl) rfl (by decide) rfl (Nat.le_of_ble_eq_true rfl)) rfl rfl rfl ?_
  refine me3 (pc' := 80) dm_X12_keep_79 (u_iast (n := 102) (j := 13) hn rfl rfl (by decide) rfl (Nat.le_of_ble_eq_true rfl)) rfl rfl rfl ?_
  refine me1 (pc' := 81) dm_X12_keep_80 rfl rfl rfl rfl ?_
  refine me3 (pc' := 84) dm_X12_keep_81 (g_get (v := .ref 114) (lu (n := 102) (j := 0) hn rfl) rfl rfl (Nat.le_of_ble_eq_true rfl)) rfl rfl rfl ?_
  refine me0 (pc' := 86) (S' := .int (80 : Int32) :: _) dm_X12_keep_84 rfl rfl rfl rfl ?_
  refine me1 (pc' := 87) dm_X12_keep_86 rfl rfl rfl rfl ?_
  refine me0 (pc' := 88) (S' := .int (0 : Int32) :: _) dm_X12_keep_87 rfl rfl rfl rfl ?_
  refine me0 (pc' := 90) (S' := .int (40 : Int32) :: _) dm_X12_keep_88 rfl rfl rfl rfl ?_
  refine me0 (pc' := 91) (S' := .int (40 : Int32) :: _) dm_X12_keep_90 rfl rfl rfl rfl ?_
  refine me1 (pc' := 92) dm_X12_keep_91 rfl rfl rfl rfl ?_
  refine me0 (pc' := 93) (S' := .int (50 : Int32) :: _) dm_X12_keep_92 rfl rfl rfl rfl ?_
  refine me1 (pc' := 94) dm_X12_keep_93 rfl rfl rfl rfl ?_
  refine me3 (pc' := 97) dm_X12_keep_94 (g_get (v := .ref 111) (lu (n := 102) (j := 0) hn rfl) rfl rfl (Nat.le_of_ble_eq_true rfl)) rfl rfl rfl ?_
  refine me1 (pc' := 98) dm_X12_keep_97 rfl rfl rfl rfl ?_
  refine me3 (pc' := 99) dm_X12_keep_98 (g_lald (v := (0 : Int64)) (lu (n := 102) (j := 9) hn rfl) rfl (by decide) rfl (Nat.le_of_ble_eq_true rfl)) rfl rfl rfl ?_
  refine me3 (pc' := 100) dm_X12_keep_99 (u_last (n := 102) (j := 12) hn rfl rfl (by decide) rfl (Nat.le_of_ble_eq_true rfl)) rfl rfl rfl ?_
  refine me1 (pc' := 101) dm_X12_keep_100 rfl rfl rfl rfl ?_
  refine me3 (pc' := 104) dm_X12_keep_101 (g_get (v := .ref 115) (lu (n := 102) (j := 0) hn rfl) rfl rfl (Nat.le_of_ble_eq_true rfl)) rfl rfl rfl ?_
  refine me0 (pc' := 106) (S' := .int (80 : Int32) :: _) dm_X12_keep_104 rfl rfl rfl rfl ?_
  refine me1 (pc' := 107) dm_X12_keep_106 rfl rfl rfl rfl ?_
  refine me0 (pc' := 108) (S' := .int (0 : Int32) :: _) dm_X12_keep_107 rfl rfl rfl rfl ?_
  refine me0 (pc' := 110) (S' := .int (40 : Int32) :: _) dm_X12_keep_108 rfl rfl rfl rfl ?_
  refine me0 (pc' := 111) (S' := .int (40 : Int32) :: _) dm_X12_keep_110 rfl rfl rfl rfl ?_
  refine me1 (pc' := 112) dm_X12_keep_111 rfl rfl rfl rfl ?_
  refine me0 (pc' := 113) (S' := .int (50 : Int32) :: _) dm_X12_keep_112 rfl rfl rfl rfl ?_
  refine me1 (pc' := 114) dm_X12_keep_113 rfl rfl rfl rfl ?_
  refine me3 (pc' := 117) dm_X12_keep_114 (g_get (v := .ref 113) (lu (n := 102) (j := 0) hn rfl) rfl rfl (Nat.le_of_ble_eq_true rfl)) rfl rfl rfl ?_
  refine me1 (pc' := 118) dm_X12_keep_117 rfl rfl rfl rfl ?_
  refine me3 (pc' := 119) dm_X12_keep_118 (g_iald (v := (0 : Int32)) (lu (n := 102) (j := 11) hn rfl) rfl (by decide) rfl (Nat.le_of_ble_eq_true rfl)) rfl rfl rfl ?_
  refine me3 (pc' := 120) dm_X12_keep_119 (u_iast (n := 102) (j := 13) hn rfl rfl (by decide) rfl (Nat.le_of_ble_eq_true rfl)) rfl rfl rfl ?_
  refine me1 (pc' := 123) (L' := [(2, .int (11 : Int32)), (0, .ref 102), (1, .int (0 : Int32))]) dm_X12_keep_120 rfl rfl rfl rfl ?_
  refine me2 (pc' := 40) dm_X12_keep_123 rfl rfl rfl ?_
  refine me1 (pc' := 41) dm_X12_keep_40 rfl rfl rfl rfl ?_
  refine me0 (pc' := 43) (S' := .int (40 : Int32) :: _) dm_X12_keep_41 rfl rfl rfl rfl ?_
  refine me_2f (pc' := 46) dm_X12_keep_43 rfl (by decide) rfl ?_
  refine me1 (pc' := 47) dm_X12_keep_46 rfl rfl rfl rfl ?_
  refine me3 (pc' := 50) dm_X12_keep_47 (g_get (v := .ref 114) (lu (n := 102) (j := 0) hn rfl) rfl rfl (Nat.le_of_ble_eq_true rfl)) rfl rfl rfl ?_
  refine me0 (pc' := 52) (S' := .int (80 : Int32) :: _) dm_X12_keep_50 rfl rfl rfl rfl ?_
  refine me1 (pc' := 53) dm_X12_keep_52 rfl rfl rfl rfl ?_
  refine me0 (pc' := 54) (S' := .int (0 : Int32) :: _) dm_X12_keep_53 rfl rfl rfl rfl ?_
  refine me1 (pc' := 55) dm_X12_keep_54 rfl rfl rfl rfl ?_
  refine me0 (pc' := 56) (S' := .int (11 : Int32) :: _) dm_X12_keep_55 rfl rfl rfl rfl ?_
  refine me1 (pc' := 57) dm_X12_keep_56 rfl rfl rfl rfl ?_
  refine me3 (pc' := 60) dm_X12_keep_57 (g_get (v := .ref 110) (lu (n := 102) (j := 0) hn rfl) rfl rfl (Nat.le_of_ble_eq_true rfl)) rfl rfl rfl ?_
  refine me1 (pc' := 61) dm_X12_keep_60 rfl rfl rfl rfl ?_
  refine me3 (pc' := 62) dm_X12_keep_61 (g_lald (v := (0 : Int64)) (lu (n := 102) (j := 8) hn rfl) rfl (by decide) rfl (Nat.le_of_ble_eq_true rfl)) rfl rfl rfl ?_
  refine me3 (pc' := 63) dm_X12_keep_62 (u_last (n := 102) (j := 12) hn rfl rfl (by decide) rfl (Nat.le_of_ble_eq_true rfl)) rfl rfl rfl ?_
  refine me1 (pc' := 64) dm_X12_keep_63 rfl rfl rfl rfl ?_
  refine me3 (pc' := 67) dm_X12_keep_64 (g_get (v := .ref 115) (lu (n := 102) (j := 0) hn rfl) rfl rfl (Nat.le_of_ble_eq_true rfl)) rfl rfl rfl ?_
  refine me0 (pc' := 69) (S' := .int (80 : Int32) :: _) dm_X12_keep_67 rfl rfl rfl rfl ?_
  refine me1 (pc' := 70) dm_X12_keep_69 rfl rfl rfl rfl ?_
  refine me0 (pc' := 71) (S' := .int (0 : Int32) :: _) dm_X12_keep_70 rfl rfl rfl rfl ?_
  refine me1 (pc' := 72) dm_X12_keep_71 rfl rfl rfl rfl ?_
  refine me0 (pc' := 73) (S' := .int (11 : Int32) :: _) dm_X12_keep_72 rfl rfl rfl rfl ?_
  refine me1 (pc' := 74) dm_X12_keep_73 rfl rfl rfl rfl ?_
  refine me3 (pc' := 77) dm_X12_keep_74 (g_get (v := .ref 112) (lu (n := 102) (j := 0) hn rfl) rfl rfl (Nat.le_of_ble_eq_true rfl)) rfl rfl rfl ?_
  refine me1 (pc' := 78) dm_X12_keep_77 rfl rfl rfl rfl ?_
  refine me3 (pc' := 79) dm_X12_keep_78 (g_iald (v := (0 : Int32)) (lu (n := 102) (j := 10) hn rfl) rfl (by decide) rfl (Nat.le_of_ble_eq_true rfl)) rfl rfl rfl ?_
  refine me3 (pc' := 80) dm_X12_keep_79 (u_iast (n := 102) (j := 13) hn rfl rfl (by decide) rfl (Nat.le_of_ble_eq_true rfl)) rfl rfl rfl ?_
  refine me1 (pc' := 81) dm_X12_keep_80 rfl rfl rfl rfl ?_
  refine me3 (pc' := 84) dm_X12_keep_81 (g_get (v := .ref 114) (lu (n := 102) (j := 0) hn rfl) rfl rfl (Nat.le_of_ble_eq_true rfl)) rfl rfl rfl ?_
  refine me0 (pc' := 86) (S' := .int (80 : Int32) :: _) dm_X12_keep_84 rfl rfl rfl rfl ?_
  refine me1 (pc' := 87) dm_X12_keep_86 rfl rfl rfl rfl ?_
  refine me0 (pc' := 88) (S' := .int (0 : Int32) :: _) dm_X12_keep_87 rfl rfl rfl rfl ?_
  refine me0 (pc' := 90) (S' := .int (40 : Int32) :: _) dm_X12_keep_88 rfl rfl rfl rfl ?_
  refine me0 (pc' := 91) (S' := .int (40 : Int32) :: _) dm_X12_keep_90 rfl rfl rfl rfl ?_
  refine me1 (pc' := 92) dm_X12_keep_91 rfl rfl rfl rfl ?_
  refine me0 (pc' := 93) (S' := .int (51 : Int32) :: _) dm_X12_keep_92 rfl rfl rfl rfl ?_
  refine me1 (pc' := 94) dm_X12_keep_93 rfl rfl rfl rfl ?_
  refine me3 (pc' := 97) dm_X12_keep_94 (g_get (v := .ref 111) (lu (n := 102) (j := 0) hn rfl) rfl rfl (Nat.le_of_ble_eq_true rfl)) rfl rfl rfl ?_
  refine me1 (pc' := 98) dm_X12_keep_97 rfl rfl rfl rfl ?_
  refine me3 (pc' := 99) dm_X12_keep_98 (g_lald (v := (0 : Int64)) (lu (n := 102) (j := 9) hn rfl) rfl (by decide) rfl (Nat.le_of_ble_eq_true rfl)) rfl rfl rfl ?_
  refine me3 (pc' := 100) dm_X12_keep_99 (u_last (n := 102) (j := 12) hn rfl rfl (by decide) rfl (Nat.le_of_ble_eq_true rfl)) rfl rfl rfl ?_
  refine me1 (pc' := 101) dm_X12_keep_100 rfl rfl rfl rfl ?_
  refine me3 (pc' := 104) dm_X12_keep_101 (g_get (v := .ref 115) (lu (n := 102) (j := 0) hn rfl) rfl rfl (Nat.le_of_ble_eq_true rfl)) rfl rfl rfl ?_
  refine me0 (pc' := 106) (S' := .int (80 : Int32) :: _) dm_X12_keep_104 rfl rfl rfl rfl ?_
  refine me1 (pc' := 107) dm_X12_keep_106 rfl rfl rfl rfl ?_
  refine me0 (pc' := 108) (S' := .int (0 : Int32) :: _) dm_X12_keep_107 rfl rfl rfl rfl ?_
  refine me0 (pc' := 110) (S' := .int (40 : Int32) :: _) dm_X12_keep_108 rfl rfl rfl rfl ?_
  refine me0 (pc' := 111) (S' := .int (40 : Int32) :: _) dm_X12_keep_110 rfl rfl rfl rfl ?_
  refine me1 (pc' := 112) dm_X12_keep_111 rfl rfl rfl rfl ?_
  refine me0 (pc' := 113) (S' := .int (51 : Int32) :: _) dm_X12_keep_112 rfl rfl rfl rfl ?_
  refine me1 (pc' := 114) dm_X12_keep_113 rfl rfl rfl rfl ?_
  refine me3 (pc' := 117) dm_X12_keep_114 (g_get (v := .ref 113) (lu (n := 102) (j := 0) hn rfl) rfl rfl (Nat.le_of_ble_eq_true rfl)) rfl rfl rfl ?_
  refine me1 (pc' := 118) dm_X12_keep_117 rfl rfl rfl rfl ?_
  refine me3 (pc' := 119) dm_X12_keep_118 (g_iald (v := (0 : Int32)) (lu (n := 102) (j := 11) hn rfl) rfl (by decide) rfl (Nat.le_of_ble_eq_true rfl)) rfl rfl rfl ?_
  refine me3 (pc' := 120) dm_X12_keep_119 (u_iast (n := 102) (j := 13) hn rfl rfl (by decide) rfl (Nat.le_of_ble_eq_true rfl)) rfl rfl rfl ?_
  refine me1 (pc' := 123) (L' := [(2, .int (12 : Int32)), (0, .ref 102), (1, .int (0 : Int32))]) dm_X12_keep_120 rfl rfl rfl rfl ?_
  refine me2 (pc' := 40) dm_X12_keep_123 rfl rfl rfl ?_
  refine me1 (pc' := 41) dm_X12_keep_40 rfl rfl rfl rfl ?_
  refine me0 (pc' := 43) (S' := .int (40 : Int32) :: _) dm_X12_keep_41 rfl rfl rfl rfl ?_
  refine me_2f (pc' := 46) dm_X12_keep_43 rfl (by decide) rfl ?_
  refine me1 (pc' := 47) dm_X12_keep_46 rfl rfl rfl rfl ?_
  refine me3 (pc' := 50) dm_X12_keep_47 (g_get (v := .ref 114) (lu (n := 102) (j := 0) hn rfl) rfl rfl (Nat.le_of_ble_eq_true rfl)) rfl rfl rfl ?_
  refine me0 (pc' := 52) (S' := .int (80 : Int32) :: _) dm_X12_keep_50 rfl rfl rfl rfl ?_
  refine me1 (pc' := 53) dm_X12_keep_52 rfl rfl rfl rfl ?_
  refine me0 (pc' := 54) (S' := .int (0 : Int32) :: _) dm_X12_keep_53 rfl rfl rfl rfl ?_
  refine me1 (pc' := 55) dm_X12_keep_54 rfl rfl rfl rfl ?_
  refine me0 (pc' := 56) (S' := .int (12 : Int32) :: _) dm_X12_keep_55 rfl rfl rfl rfl ?_
  refine me1 (pc' := 57) dm_X12_keep_56 rfl rfl rfl rfl ?_
  refine me3 (pc' := 60) dm_X12_keep_57 (g_get (v := .ref 110) (lu (n := 102) (j := 0) hn rfl) rfl rfl (Nat.le_of_ble_eq_true rfl)) rfl rfl rfl ?_
  refine me1 (pc' := 61) dm_X12_keep_60 rfl rfl rfl rfl ?_
  refine me3 (pc' := 62) dm_X12_keep_61 (g_lald (v := (0 : Int64)) (lu (n := 102) (j := 8) hn rfl) rfl (by decide) rfl (Nat.le_of_ble_eq_true rfl)) rfl rfl rfl ?_
  refine me3 (pc' := 63) dm_X12_keep_62 (u_last (n := 102) (j := 12) hn rfl rfl (by decide) rfl (Nat.le_of_ble_eq_true rfl)) rfl rfl rfl ?_
  refine me1 (pc' := 64) dm_X12_keep_63 rfl rfl rfl rfl ?_
  refine me3 (pc' := 67) dm_X12_keep_64 (g_get (v := .ref 115) (lu (n := 102) (j := 0) hn rfl) rfl rfl (Nat.le_of_ble_eq_true rfl)) rfl rfl rfl ?_
  refine me0 (pc' := 69) (S' := .int (80 : Int32) :: _) dm_X12_keep_67 rfl rfl rfl rfl ?_
  refine me1 (pc' := 70) dm_X12_keep_69 rfl rfl rfl rfl ?_
  refine me0 (pc' := 71) (S' := .int (0 : Int32) :: _) dm_X12_keep_70 rfl rfl rfl rfl ?_
  refine me1 (pc' := 72) dm_X12_keep_71 rfl rfl rfl rfl ?_
  refine me0 (pc' := 73) (S' := .int (12 : Int32) :: _) dm_X12_keep_72 rfl rfl rfl rfl ?_
  refine me1 (pc' := 74) dm_X12_keep_73 rfl rfl rfl rfl ?_
  refine me3 (pc' := 77) dm_X12_keep_74 (g_get (v := .ref 112) (lu (n := 102) (j := 0) hn rfl) rfl rfl (Nat.le_of_ble_eq_true rfl)) rfl rfl rfl ?_
  refine me1 (pc' := 78) dm_X12_keep_77 rfl rfl rfl rfl ?_
  refine me3 (pc' := 79) dm_X12_keep_78 (g_iald (v := (0 : Int32)) (lu (n := 102) (j := 10) hn rfl) rfl (by decide) rfl (Nat.le_of_ble_eq_true rfl)) rfl rfl rfl ?_
  refine me3 (pc' := 80) dm_X12_keep_79 (u_iast (n := 102) (j := 13) hn rfl rfl (by decide) rfl (Nat.le_of_ble_eq_true rfl)) rfl rfl rfl ?_
  refine me1 (pc' := 81) dm_X12_keep_80 rfl rfl rfl rfl ?_
  refine me3 (pc' := 84) dm_X12_keep_81 (g_get (v := .ref 114) (lu (n := 102) (j := 0) hn rfl) rfl rfl (Nat.le_of_ble_eq_true rfl)) rfl rfl rfl ?_
  refine me0 (pc' := 86) (S' := .int (80 : Int32) :: _) dm_X12_keep_84 rfl rfl rfl rfl ?_
  refine me1 (pc' := 87) dm_X12_keep_86 rfl rfl rfl rfl ?_
  refine me0 (pc' := 88) (S' := .int (0 : Int32) :: _) dm_X12_keep_87 rfl rfl rfl rfl ?_
  refine me0 (pc' := 90) (S' := .int (40 : Int32) :: _) dm_X12_keep_88 rfl rfl rfl rfl ?_
  refine me0 (pc' := 91) (S' := .int (40 : Int32) :: _) dm_X12_keep_90 rfl rfl rfl rfl ?_
  refine me1 (pc' := 92) dm_X12_keep_91 rfl rfl rfl rfl ?_
  refine me0 (pc' := 93) (S' := .int (52 : Int32) :: _) dm_X12_keep_92 rfl rfl rfl rfl ?_
  refine me1 (pc' := 94) dm_X12_keep_93 rfl rfl rfl rfl ?_
  refine me3 (pc' := 97) dm_X12_keep_94 (g_get (v := .ref 111) (lu (n := 102) (j := 0) hn rfl) rfl rfl (Nat.le_of_ble_eq_true rfl)) rfl rfl rfl ?_
  refine me1 (pc' := 98) dm_X12_keep_97 rfl rfl rfl rfl ?_
  refine me3 (pc' := 99) dm_X12_keep_98 (g_lald (v := (0 : Int64)) (lu (n := 102) (j := 9) hn rfl) rfl (by decide) rfl (Nat.le_of_ble_eq_true rfl)) rfl rfl rfl ?_
  refine me3 (pc' := 100) dm_X12_keep_99 (u_last (n := 102) (j := 12) hn rfl rfl (by decide) rfl (Nat.le_of_ble_eq_true rfl)) rfl rfl rfl ?_
  refine me1 (pc' := 101) dm_X12_keep_100 rfl rfl rfl rfl ?_
  refine me3 (pc' := 104) dm_X12_keep_101 (g_get (v := .ref 115) (lu (n := 102) (j := 0) hn rfl) rfl rfl (Nat.le_of_ble_eq_true rfl)) rfl rfl rfl ?_
  refine me0 (pc' := 106) (S' := .int (80 : Int32) :: _) dm_X12_keep_104 rfl rfl rfl rfl ?_
  refine me1 (pc' := 107) dm_X12_keep_106 rfl rfl rfl rfl ?_
  refine me0 (pc' := 108) (S' := .int (0 : Int32) :: _) dm_X12_keep_107 rfl rfl rfl rfl ?_
  refine me0 (pc' := 110) (S' := .int (40 : Int32) :: _) dm_X12_keep_108 rfl rfl rfl rfl ?_
  refine me0 (pc' := 111) (S' := .int (40 : Int32) :: _) dm_X12_keep_110 rfl rfl rfl rfl ?_
  refine me1 (pc' := 112) dm_X12_keep_111 rfl rfl rfl rfl ?_
  refine me0 (pc' := 113) (S' := .int (52 : Int32) :: _) dm_X12_keep_112 rfl rfl rfl rfl ?_
  refine me1 (pc' := 114) dm_X12_keep_113 rfl rfl rfl rfl ?_
  refine me3 (pc' := 117) dm_X12_keep_114 (g_get (v := .ref 113) (lu (n := 102) (j := 0) hn rfl) rfl rfl (Nat.le_of_ble_eq_true rfl)) rfl rfl rfl ?_
  refine me1 (pc' := 118) dm_X12_keep_117 rfl rfl rfl rfl ?_
  refine me3 (pc' := 119) dm_X12_keep_118 (g_iald (v := (0 : Int32)) (lu (n := 102) (j := 11) hn rfl) rfl (by decide) rfl (Nat.le_of_ble_eq_true rfl)) rfl rfl rfl ?_
  refine me3 (pc' := 120) dm_X12_keep_119 (u_iast (n := 102) (j := 13) hn rfl rfl (by decide) rfl (Nat.le_of_ble_eq_true rfl)) rfl rfl rfl ?_
  refine me1 (pc' := 123) (L' := [(2, .int (13 : Int32)), (0, .ref 102), (1, .int (0 : Int32))]) dm_X12_keep_120 rfl rfl rfl rfl ?_
  refine me2 (pc' := 40) dm_X12_keep_123 rfl rfl rfl ?_
  refine me1 (pc' := 41) dm_X12_keep_40 rfl rfl rfl rfl ?_
  refine me0 (pc' := 43) (S' := .int (40 : Int32) :: _) dm_X12_keep_41 rfl rfl rfl rfl ?_
  refine me_2f (pc' := 46) dm_X12_keep_43 rfl (by decide) rfl ?_
  refine me1 (pc' := 47) dm_X12_keep_46 rfl rfl rfl rfl ?_
  refine me3 (pc' := 50) dm_X12_keep_47 (g_get (v := .ref 114) (lu (n := 102) (j := 0) hn rfl) rfl rfl (Nat.le_of_ble_eq_true rfl)) rfl rfl rfl ?_
  refine me0 (pc' := 52) (S' := .int (80 : Int32) :: _) dm_X12_keep_50 rfl rfl rfl rfl ?_
  refine me1 (pc' := 53) dm_X12_keep_52 rfl rfl rfl rfl ?_
  refine me0 (pc' := 54) (S' := .int (0 : Int32) :: _) dm_X12_keep_53 rfl rfl rfl rfl ?_
  refine me1 (pc' := 55) dm_X12_keep_54 rfl rfl rfl rfl ?_
  refine me0 (pc' := 56) (S' := .int (13 : Int32) :: _) dm_X12_keep_55 rfl rfl rfl rfl ?_
  refine me1 (pc' := 57) dm_X12_keep_56 rfl rfl rfl rfl ?_
  refine me3 (pc' := 60) dm_X12_keep_57 (g_get (v := .ref 110) (lu (n := 102) (j := 0) hn rfl) rfl rfl (Nat.le_of_ble_eq_true rfl)) rfl rfl rfl ?_
  refine me1 (pc' := 61) dm_X12_keep_60 rfl rfl rfl rfl ?_
  refine me3 (pc' := 62) dm_X12_keep_61 (g_lald (v := (0 : Int64)) (lu (n := 102) (j := 8) hn rfl) rfl (by decide) rfl (Nat.le_of_ble_eq_true rfl)) rfl rfl rfl ?_
  refine me3 (pc' := 63) dm_X12_keep_62 (u_last (n := 102) (j := 12) hn rfl rfl (by decide) rfl (Nat.le_of_ble_eq_true rfl)) rfl rfl rfl ?_
  refine me1 (pc' := 64) dm_X12_keep_63 rfl rfl rfl rfl ?_
  refine me3 (pc' := 67) dm_X12_keep_64 (g_get (v := .ref 115) (lu (n := 102) (j := 0) hn rfl) rfl rfl (Nat.le_of_ble_eq_true rfl)) rfl rfl rfl ?_
  refine me0 (pc' := 69) (S' := .int (80 : Int32) :: _) dm_X12_keep_67 rfl rfl rfl rfl ?_
  refine me1 (pc' := 70) dm_X12_keep_69 rfl rfl rfl rfl ?_
  refine me0 (pc' := 71) (S' := .int (0 : Int32) :: _) dm_X12_keep_70 rfl rfl rfl rfl ?_
  refine me1 (pc' := 72) dm_X12_keep_71 rfl rfl rfl rfl ?_
  refine me0 (pc' := 73) (S' := .int (13 : Int32) :: _) dm_X12_keep_72 rfl rfl rfl rfl ?_
  refine me1 (pc' := 74) dm_X12_keep_73 rfl rfl rfl rfl ?_
  refine me3 (pc' := 77) dm_X12_keep_74 (g_get (v := .ref 112) (lu (n := 102) (j := 0) hn rfl) rfl rfl (Nat.le_of_ble_eq_true rfl)) rfl rfl rfl ?_
  refine me1 (pc' := 78) dm_X12_keep_77 rfl rfl rfl rfl ?_
  refine me3 (pc' := 79) dm_X12_keep_78 (g_iald (v := (0 : Int32)) (lu (n := 102) (j := 10) hn rfl) rfl (by decide) rfl (Nat.le_of_ble_eq_true rfl)) rfl rfl rfl ?_
  refine me3 (pc' := 80) dm_X12_keep_79 (u_iast (n := 102) (j := 13) hn rfl rfl (by decide) rfl (Nat.le_of_ble_eq_true rfl)) rfl rfl rfl ?_
  refine me1 (pc' := 81) dm_X12_keep_80 rfl rfl rfl rfl ?_
  refine me3 (pc' := 84) dm_X12_keep_81 (g_get (v := .ref 114) (lu (n := 102) (j := 0) hn rfl) rfl rfl (Nat.le_of_ble_eq_true rfl)) rfl rfl rfl ?_
  refine me0 (pc' := 86) (S' := .int (80 : Int32) :: _) dm_X12_keep_84 rfl rfl rfl rfl ?_
  refine me1 (pc' := 87) dm_X12_keep_86 rfl rfl rfl rfl ?_
  refine me0 (pc' := 88) (S' := .int (0 : Int32) :: _) dm_X12_keep_87 rfl rfl rfl rfl ?_
  refine me0 (pc' := 90) (S' := .int (40 : Int32) :: _) dm_X12_keep_88 rfl rfl rfl rfl ?_
  refine me0 (pc' := 91) (S' := .int (40 : Int32) :: _) dm_X12_keep_90 rfl rfl rfl rfl ?_
  refine me1 (pc' := 92) dm_X12_keep_91 rfl rfl rfl rfl ?_
  refine me0 (pc' := 93) (S' := .int (53 : Int32) :: _) dm_X12_keep_92 rfl rfl rfl rfl ?_
  refine me1 (pc' := 94) dm_X12_keep_93 rfl rfl rfl rfl ?_
  refine me3 (pc' := 97) dm_X12_keep_94 (g_get (v := .ref 111) (lu (n := 102) (j := 0) hn rfl) rfl rfl (Nat.le_of_ble_eq_true rfl)) rfl rfl rfl ?_
  refine me1 (pc' := 98) dm_X12_keep_97 rfl rfl rfl rfl ?_
  refine me3 (pc' := 99) dm_X12_keep_98 (g_lald (v := (0 : Int64)) (lu (n := 102) (j := 9) hn rfl) rfl (by decide) rfl (Nat.le_of_ble_eq_true rfl)) rfl rfl rfl ?_
  refine me3 (pc' := 100) dm_X12_keep_99 (u_last (n := 102) (j := 12) hn rfl rfl (by decide) rfl (Nat.le_of_ble_eq_true rfl)) rfl rfl rfl ?_
  refine me1 (pc' := 101) dm_X12_keep_100 rfl rfl rfl rfl ?_
  refine me3 (pc' := 104) dm_X12_keep_101 (g_get (v := .ref 115) (lu (n := 102) (j := 0) hn rfl) rfl rfl (Nat.le_of_ble_eq_true rfl)) rfl rfl rfl ?_
  refine me0 (pc' := 106) (S' := .int (80 : Int32) :: _) dm_X12_keep_104 rfl rfl rfl rfl ?_
  refine me1 (pc' := 107) dm_X12_keep_106 rfl rfl rfl rfl ?_
  refine me0 (pc' := 108) (S' := .int (0 : Int32) :: _) dm_X12_keep_107 rfl rfl rfl rfl ?_
  refine me0 (pc' := 110) (S' := .int (40 : Int32) :: _) dm_X12_keep_108 rfl rfl rfl rfl ?_
  refine me0 (pc' := 111) (S' := .int (40 : Int32) :: _) dm_X12_keep_110 rfl rfl rfl rfl ?_
  refine me1 (pc' := 112) dm_X12_keep_111 rfl rfl rfl rfl ?_
  refine me0 (pc' := 113) (S' := .int (53 : Int32) :: _) dm_X12_keep_112 rfl rfl rfl rfl ?_
  refine me1 (pc' := 114) dm_X12_keep_113 rfl rfl rfl rfl ?_
  refine me3 (pc' := 117) dm_X12_keep_114 (g_get (v := .ref 113) (lu (n := 102) (j := 0) hn rfl) rfl rfl (Nat.le_of_ble_eq_true rfl)) rfl rfl rfl ?_
  refine me1 (pc' := 118) dm_X12_keep_117 rfl rfl rfl rfl ?_
  refine me3 (pc' := 119) dm_X12_keep_118 (g_iald (v := (0 : Int32)) (lu (n := 102) (j := 11) hn rfl) rfl (by decide) rfl (Nat.le_of_ble_eq_true rfl)) rfl rfl rfl ?_
  refine me3 (pc' := 120) dm_X12_keep_119 (u_iast (n := 102) (j := 13) hn rfl rfl (by decide) rfl (Nat.le_of_ble_eq_true rfl)) rfl rfl rfl ?_
  refine me1 (pc' := 123) (L' := [(2, .int (14 : Int32)), (0, .ref 102), (1, .int (0 : Int32))]) dm_X12_keep_120 rfl rfl rfl rfl ?_
  refine me2 (pc' := 40) dm_X12_keep_123 rfl rfl rfl ?_
  refine me1 (pc' := 41) dm_X12_keep_40 rfl rfl rfl rfl ?_
  refine me0 (pc' := 43) (S' := .int (40 : Int32) :: _) dm_X12_keep_41 rfl rfl rfl rfl ?_
  refine me_2f (pc' := 46) dm_X12_keep_43 rfl (by decide) rfl ?_
  refine me1 (pc' := 47) dm_X12_keep_46 rfl rfl rfl rfl ?_
  refine me3 (pc' := 50) dm_X12_keep_47 (g_get (v := .ref 114) (lu (n := 102) (j := 0) hn rfl) rfl rfl (Nat.le_of_ble_eq_true rfl)) rfl rfl rfl ?_
  refine me0 (pc' := 52) (S' := .int (80 : Int32) :: _) dm_X12_keep_50 rfl rfl rfl rfl ?_
  refine me1 (pc' := 53) dm_X12_keep_52 rfl rfl rfl rfl ?_
  refine me0 (pc' := 54) (S' := .int (0 : Int32) :: _) dm_X12_keep_53 rfl rfl rfl rfl ?_
  refine me1 (pc' := 55) dm_X12_keep_54 rfl rfl rfl rfl ?_
  refine me0 (pc' := 56) (S' := .int (14 : Int32) :: _) dm_X12_keep_55 rfl rfl rfl rfl ?_
  refine me1 (pc' := 57) dm_X12_keep_56 rfl rfl rfl rfl ?_
  refine me3 (pc' := 60) dm_X12_keep_57 (g_get (v := .ref 110) (lu (n := 102) (j := 0) hn rfl) rfl rfl (Nat.le_of_ble_eq_true rfl)) rfl rfl rfl ?_
  refine me1 (pc' := 61) dm_X12_keep_60 rfl rfl rfl rfl ?_
  refine me3 (pc' := 62) dm_X12_keep_61 (g_lald (v := (0 : Int64)) (lu (n := 102) (j := 8) hn rfl) rfl (by decide) rfl (Nat.le_of_ble_eq_true rfl)) rfl rfl rfl ?_
  refine me3 (pc' := 63) dm_X12_keep_62 (u_last (n := 102) (j := 12) hn rfl rfl (by decide) rfl (Nat.le_of_ble_eq_true rfl)) rfl rfl rfl ?_
  refine me1 (pc' := 64) dm_X12_keep_63 rfl rfl rfl rfl ?_
  refine me3 (pc' := 67) dm_X12_keep_64 (g_get (v := .ref 115) (lu (n := 102) (j := 0) hn rfl) rfl rfl (Nat.le_of_ble_eq_true rfl)) rfl rfl rfl ?_
  refine me0 (pc' := 69) (S' := .int (80 : Int32) :: _) dm_X12_keep_67 rfl rfl rfl rfl ?_
  refine me1 (pc' := 70) dm_X12_keep_69 rfl rfl rfl rfl ?_
  refine me0 (pc' := 71) (S' := .int (0 : Int32) :: _) dm_X12_keep_70 rfl rfl rfl rfl ?_
  refine me1 (pc' := 72) dm_X12_keep_71 rfl rfl rfl rfl ?_
  refine me0 (pc' := 73) (S' := .int (14 : Int32) :: _) dm_X12_keep_72 rfl rfl rfl rfl ?_
  refine me1 (pc' := 74) dm_X12_keep_73 rfl rfl rfl rfl ?_
  refine me3 (pc' := 77) dm_X12_keep_74 (g_get (v := .ref 112) (lu (n := 102) (j := 0) hn rfl) rfl rfl (Nat.le_of_ble_eq_true rfl)) rfl rfl rfl ?_
  refine me1 (pc' := 78) dm_X12_keep_77 rfl rfl rfl rfl ?_
  refine me3 (pc' := 79) dm_X12_keep_78 (g_iald (v := (0 : Int32)) (lu (n := 102) (j := 10) hn rfl) rfl (by decide) rfl (Nat.le_of_ble_eq_true rfl)) rfl rfl rfl ?_
  refine me3 (pc' := 80) dm_X12_keep_79 (u_iast (n := 102) (j := 13) hn rfl rfl (by decide) rfl (Nat.le_of_ble_eq_true rfl)) rfl rfl rfl ?_
  refine me1 (pc' := 81) dm_X12_keep_80 rfl rfl rfl rfl ?_
  refine me3 (pc' := 84) dm_X12_keep_81 (g_get (v := .ref 114) (lu (n := 102) (j := 0) hn rfl) rfl rfl (Nat.le_of_ble_eq_true rfl)) rfl rfl rfl ?_
  refine me0 (pc' := 86) (S' := .int (80 : Int32) :: _) dm_X12_keep_84 rfl rfl rfl rfl ?_
  refine me1 (pc' := 87) dm_X12_keep_86 rfl rfl rfl rfl ?_
  refine me0 (pc' := 88) (S' := .int (0 : Int32) :: _) dm_X12_keep_87 rfl rfl rfl rfl ?_
  refine me0 (pc' := 90) (S' := .int (40 : Int32) :: _) dm_X12_keep_88 rfl rfl rfl rfl ?_
  refine me0 (pc' := 91) (S' := .int (40 : Int32) :: _) dm_X12_keep_90 rfl rfl rfl rfl ?_
  refine me1 (pc' := 92) dm_X12_keep_91 rfl rfl rfl rfl ?_
  refine me0 (pc' := 93) (S' := .int (54 : Int32) :: _) dm_X12_keep_92 rfl rfl rfl rfl ?_
  refine me1 (pc' := 94) dm_X12_keep_93 rfl rfl rfl rfl ?_
  refine me3 (pc' := 97) dm_X12_keep_94 (g_get (v := .ref 111) (lu (n := 102) (j := 0) hn rfl) rfl rfl (Nat.le_of_ble_eq_true rfl)) rfl rfl rfl ?_
  refine me1 (pc' := 98) dm_X12_keep_97 rfl rfl rfl rfl ?_
  refine me3 (pc' := 99) dm_X12_keep_98 (g_lald (v := (0 : Int64)) (lu (n := 102) (j := 9) hn rfl) rfl (by decide) rfl (Nat.le_of_ble_eq_true rfl)) rfl rfl rfl ?_
  refine me3 (pc' := 100) dm_X12_keep_99 (u_last (n := 102) (j := 12) hn rfl rfl (by decide) rfl (Nat.le_of_ble_eq_true rfl)) rfl rfl rfl ?_
  refine me1 (pc' := 101) dm_X12_keep_100 rfl rfl rfl rfl ?_
  refine me3 (pc' := 104) dm_X12_keep_101 (g_get (v := .ref 115) (lu (n := 102) (j := 0) hn rfl) rfl rfl (Nat.le_of_ble_eq_true rfl)) rfl rfl rfl ?_
  refine me0 (pc' := 106) (S' := .int (80 : Int32) :: _) dm_X12_keep_104 rfl rfl rfl rfl ?_
  refine me1 (pc' := 107) dm_X12_keep_106 rfl rfl rfl rfl ?_
  refine me0 (pc' := 108) (S' := .int (0 : Int32) :: _) dm_X12_keep_107 rfl rfl rfl rfl ?_
  refine me0 (pc' := 110) (S' := .int (40 : Int32) :: _) dm_X12_keep_108 rfl rfl rfl rfl ?_
  refine me0 (pc' := 111) (S' := .int (40 : Int32) :: _) dm_X12_keep_110 rfl rfl rfl rfl ?_
  refine me1 (pc' := 112) dm_X12_keep_111 rfl rfl rfl rfl ?_
  refine me0 (pc' := 113) (S' := .int (54 : Int32) :: _) dm_X12_keep_112 rfl rfl rfl rfl ?_
  refine me1 (pc' := 114) dm_X12_keep_113 rfl rfl rfl rfl ?_
  refine me3 (pc' := 117) dm_X12_keep_114 (g_get (v := .ref 113) (lu (n := 102) (j := 0) hn rfl) rfl rfl (Nat.le_of_ble_eq_true rfl)) rfl rfl rfl ?_
  refine me1 (pc' := 118) dm_X12_keep_117 rfl rfl rfl rfl ?_
  refine me3 (pc' := 119) dm_X12_keep_118 (g_iald (v := (0 : Int32)) (lu (n := 102) (j := 11) hn rfl) rfl (by decide) rfl (Nat.le_of_ble_eq_true rfl)) rfl rfl rfl ?_
  refine me3 (pc' := 120) dm_X12_keep_119 (u_iast (n := 102) (j := 13) hn rfl rfl (by decide) rfl (Nat.le_of_ble_eq_true rfl)) rfl rfl rfl ?_
  refine me1 (pc' := 123) (L' := [(2, .int (15 : Int32)), (0, .ref 102), (1, .int (0 : Int32))]) dm_X12_keep_120 rfl rfl rfl rfl ?_
  refine me2 (pc' := 40) dm_X12_keep_123 rfl rfl rfl ?_
  refine me1 (pc' := 41) dm_X12_keep_40 rfl rfl rfl rfl ?_
  refine me0 (pc' := 43) (S' := .int (40 : Int32) :: _) dm_X12_keep_41 rfl rfl rfl rfl ?_
  refine me_2f (pc' := 46) dm_X12_keep_43 rfl (by decide) rfl ?_
  refine me1 (pc' := 47) dm_X12_keep_46 rfl rfl rfl rfl ?_
  refine me3 (pc' := 50) dm_X12_keep_47 (g_get (v := .ref 114) (lu (n := 102) (j := 0) hn rfl) rfl rfl (Nat.le_of_ble_eq_true rfl)) rfl rfl rfl ?_
  refine me0 (pc' := 52) (S' := .int (80 : Int32) :: _) dm_X12_keep_50 rfl rfl rfl rfl ?_
  refine me1 (pc' := 53) dm_X12_keep_52 rfl rfl rfl rfl ?_
  refine me0 (pc' := 54) (S' := .int (0 : Int32) :: _) dm_X12_keep_53 rfl rfl rfl rfl ?_
  refine me1 (pc' := 55) dm_X12_keep_54 rfl rfl rfl rfl ?_
  refine me0 (pc' := 56) (S' := .int (15 : Int32) :: _) dm_X12_keep_55 rfl rfl rfl rfl ?_
  refine me1 (pc' := 57) dm_X12_keep_56 rfl rfl rfl rfl ?_
  refine me3 (pc' := 60) dm_X12_keep_57 (g_get (v := .ref 110) (lu (n := 102) (j := 0) hn rfl) rfl rfl (Nat.le_of_ble_eq_true rfl)) rfl rfl rfl ?_
  refine me1 (pc' := 61) dm_X12_keep_60 rfl rfl rfl rfl ?_
  refine me3 (pc' := 62) dm_X12_keep_61 (g_lald (v := (0 : Int64)) (lu (n := 102) (j := 8) hn rfl) rfl (by decide) rfl (Nat.le_of_ble_eq_true rfl)) rfl rfl rfl ?_
  refine me3 (pc' := 63) dm_X12_keep_62 (u_last (n := 102) (j := 12) hn rfl rfl (by decide) rfl (Nat.le_of_ble_eq_true rfl)) rfl rfl rfl ?_
  refine me1 (pc' := 64) dm_X12_keep_63 rfl rfl rfl rfl ?_
  refine me3 (pc' := 67) dm_X12_keep_64 (g_get (v := .ref 115) (lu (n := 102) (j := 0) hn rfl) rfl rfl (Nat.le_of_ble_eq_true rfl)) rfl rfl rfl ?_
  refine me0 (pc' := 69) (S' := .int (80 : Int32) :: _) dm_X12_keep_67 rfl rfl rfl rfl ?_
  refine me1 (pc' := 70) dm_X12_keep_69 rfl rfl rfl rfl ?_
  refine me0 (pc' := 71) (S' := .int (0 : Int32) :: _) dm_X12_keep_70 rfl rfl rfl rfl ?_
  refine me1 (pc' := 72) dm_X12_keep_71 rfl rfl rfl rfl ?_
  refine me0 (pc' := 73) (S' := .int (15 : Int32) :: _) dm_X12_keep_72 rfl rfl rfl rfl ?_
  refine me1 (pc' := 74) dm_X12_keep_73 rfl rfl rfl rfl ?_
  refine me3 (pc' := 77) dm_X12_keep_74 (g_get (v := .ref 112) (lu (n := 102) (j := 0) hn rfl) rfl rfl (Nat.le_of_ble_eq_true rfl)) rfl rfl rfl ?_
  refine me1 (pc' := 78) dm_X12_keep_77 rfl rfl rfl rfl ?_
  refine me3 (pc' := 79) dm_X12_keep_78 (g_iald (v := (0 : Int32)) (lu (n := 102) (j := 10) hn rfl) rfl (by decide) rfl (Nat.le_of_ble_eq_true rfl)) rfl rfl rfl ?_
  refine me3 (pc' := 80) dm_X12_keep_79 (u_iast (n := 102) (j := 13) hn rfl rfl (by decide) rfl (Nat.le_of_ble_eq_true rfl)) rfl rfl rfl ?_
  refine me1 (pc' := 81) dm_X12_keep_80 rfl rfl rfl rfl ?_
  refine me3 (pc' := 84) dm_X12_keep_81 (g_get (v := .ref 114) (lu (n := 102) (j := 0) hn rfl) rfl rfl (Nat.le_of_ble_eq_true rfl)) rfl rfl rfl ?_
  refine me0 (pc' := 86) (S' := .int (80 : Int32) :: _) dm_X12_keep_84 rfl rfl rfl rfl ?_
  refine me1 (pc' := 87) dm_X12_keep_86 rfl rfl rfl rfl ?_
  refine me0 (pc' := 88) (S' := .int (0 : Int32) :: _) dm_X12_keep_87 rfl rfl rfl rfl ?_
  refine me0 (pc' := 90) (S' := .int (40 : Int32) :: _) dm_X12_keep_88 rfl rfl rfl rfl ?_
  refine me0 (pc' := 91) (S' := .int (40 : Int32) :: _) dm_X12_keep_90 rfl rfl rfl rfl ?_
  refine me1 (pc' := 92) dm_X12_keep_91 rfl rfl rfl rfl ?_
  refine me0 (pc' := 93) (S' := .int (55 : Int32) :: _) dm_X12_keep_92 rfl rfl rfl rfl ?_
  refine me1 (pc' := 94) dm_X12_keep_93 rfl rfl rfl rfl ?_
  refine me3 (pc' := 97) dm_X12_keep_94 (g_get (v := .ref 111) (lu (n := 102) (j := 0) hn rfl) rfl rfl (Nat.le_of_ble_eq_true rfl)) rfl rfl rfl ?_
  refine me1 (pc' := 98) dm_X12_keep_97 rfl rfl rfl rfl ?_
  refine me3 (pc' := 99) dm_X12_keep_98 (g_lald (v := (0 : Int64)) (lu (n := 102) (j := 9) hn rfl) rfl (by decide) rfl (Nat.le_of_ble_eq_true rfl)) rfl rfl rfl ?_
  refine me3 (pc' := 100) dm_X12_keep_99 (u_last (n := 102) (j := 12) hn rfl rfl (by decide) rfl (Nat.le_of_ble_eq_true rfl)) rfl rfl rfl ?_
  refine me1 (pc' := 101) dm_X12_keep_100 rfl rfl rfl rfl ?_
  refine me3 (pc' := 104) dm_X12_keep_101 (g_get (v := .ref 115) (lu (n := 102) (j := 0) hn rfl) rfl rfl (Nat.le_of_ble_eq_true rfl)) rfl rfl rfl ?_
  refine me0 (pc' := 106) (S' := .int (80 : Int32) :: _) dm_X12_keep_104 rfl rfl rfl rfl ?_
  refine me1 (pc' := 107) dm_X12_keep_106 rfl rfl rfl rfl ?_
  refine me0 (pc' := 108) (S' := .int (0 : Int32) :: _) dm_X12_keep_107 rfl rfl rfl rfl ?_
  refine me0 (pc' := 110) (S' := .int (40 : Int32) :: _) dm_X12_keep_108 rfl rfl rfl rfl ?_
  refine me0 (pc' := 111) (S' := .int (40 : Int32) :: _) dm_X12_keep_110 rfl rfl rfl rfl ?_
  refine me1 (pc' := 112) dm_X12_keep_111 rfl rfl rfl rfl ?_
  refine me0 (pc' := 113) (S' := .int (55 : Int32) :: _) dm_X12_keep_112 rfl rfl rfl rfl ?_
  refine me1 (pc' := 114) dm_X12_keep_113 rfl rfl rfl rfl ?_
  refine me3 (pc' := 117) dm_X12_keep_114 (g_get (v := .ref 113) (lu (n := 102) (j := 0) hn rfl) rfl rfl (Nat.le_of_ble_eq_true rfl)) rfl rfl rfl ?_
  refine me1 (pc' := 118) dm_X12_keep_117 rfl rfl rfl rfl ?_
  refine me3 (pc' := 119) dm_X12_keep_118 (g_iald (v := (0 : Int32)) (lu (n := 102) (j := 11) hn rfl) rfl (by decide) rfl (Nat.le_of_ble_eq_true rfl)) rfl rfl rfl ?_
  refine me3 (pc' := 120) dm_X12_keep_119 (u_iast (n := 102) (j := 13) hn rfl rfl (by decide) rfl (Nat.le_of_ble_eq_true rfl)) rfl rfl rfl ?_
  refine me1 (pc' := 123) (L' := [(2, .int (16 : Int32)), (0, .ref 102), (1, .int (0 : Int32))]) dm_X12_keep_120 rfl rfl rfl rfl ?_
  refine me2 (pc' := 40) dm_X12_keep_123 rfl rfl rfl ?_
  refine me1 (pc' := 41) dm_X12_keep_40 rfl rfl rfl rfl ?_
  refine me0 (pc' := 43) (S' := .int (40 : Int32) :: _) dm_X12_keep_41 rfl rfl rfl rfl ?_
  refine me_2f (pc' := 46) dm_X12_keep_43 rfl (by decide) rfl ?_
  refine me1 (pc' := 47) dm_X12_keep_46 rfl rfl rfl rfl ?_
  refine me3 (pc' := 50) dm_X12_keep_47 (g_get (v := .ref 114) (lu (n := 102) (j := 0) hn rfl) rfl rfl (Nat.le_of_ble_eq_true rfl)) rfl rfl rfl ?_
  refine me0 (pc' := 52) (S' := .int (80 : Int32) :: _) dm_X12_keep_50 rfl rfl rfl rfl ?_
  refine me1 (pc' := 53) dm_X12_keep_52 rfl rfl rfl rfl ?_
  refine me0 (pc' := 54) (S' := .int (0 : Int32) :: _) dm_X12_keep_53 rfl rfl rfl rfl ?_
  refine me1 (pc' := 55) dm_X12_keep_54 rfl rfl rfl rfl ?_
  refine me0 (pc' := 56) (S' := .int (16 : Int32) :: _) dm_X12_keep_55 rfl rfl rfl rfl ?_
  refine me1 (pc' := 57) dm_X12_keep_56 rfl rfl rfl rfl ?_
  refine me3 (pc' := 60) dm_X12_keep_57 (g_get (v := .ref 110) (lu (n := 102) (j := 0) hn rfl) rfl rfl (Nat.le_of_ble_eq_true rfl)) rfl rfl rfl ?_
  refine me1 (pc' := 61) dm_X12_keep_60 rfl rfl rfl rfl ?_
  refine me3 (pc' := 62) dm_X12_keep_61 (g_lald (v := (0 : Int64)) (lu (n := 102) (j := 8) hn rfl) rfl (by decide) rfl (Nat.le_of_ble_eq_true rfl)) rfl rfl rfl ?_
  refine me3 (pc' := 63) dm_X12_keep_62 (u_last (n := 102) (j := 12) hn rfl rfl (by decide) rfl (Nat.le_of_ble_eq_true rfl)) rfl rfl rfl ?_
  refine me1 (pc' := 64) dm_X12_keep_63 rfl rfl rfl rfl ?_
  refine me3 (pc' := 67) dm_X12_keep_64 (g_get (v := .ref 115) (lu (n := 102) (j := 0) hn rfl) rfl rfl (Nat.le_of_ble_eq_true rfl)) rfl rfl rfl ?_
  refine me0 (pc' := 69) (S' := .int (80 : Int32) :: _) dm_X12_keep_67 rfl rfl rfl rfl ?_
  refine me1 (pc' := 70) dm_X12_keep_69 rfl rfl rfl rfl ?_
  refine me0 (pc' := 71) (S' := .int (0 : Int32) :: _) dm_X12_keep_70 rfl rfl rfl rfl ?_
  refine me1 (pc' := 72) dm_X12_keep_71 rfl rfl rfl rfl ?_
  refine me0 (pc' := 73) (S' := .int (16 : Int32) :: _) dm_X12_keep_72 rfl rfl rfl rfl ?_
  refine me1 (pc' := 74) dm_X12_keep_73 rfl rfl rfl rfl ?_
  refine me3 (pc' := 77) dm_X12_keep_74 (g_get (v := .ref 112) (lu (n := 102) (j := 0) hn rfl) rfl rfl (Nat.le_of_ble_eq_true rfl)) rfl rfl rfl ?_
  refine me1 (pc' := 78) dm_X12_keep_77 rfl rfl rfl rfl ?_
  refine me3 (pc' := 79) dm_X12_keep_78 (g_iald (v := (0 : Int32)) (lu (n := 102) (j := 10) hn rfl) rfl (by decide) rfl (Nat.le_of_ble_eq_true rfl)) rfl rfl rfl ?_
  refine me3 (pc' := 80) dm_X12_keep_79 (u_iast (n := 102) (j := 13) hn rfl rfl (by decide) rfl (Nat.le_of_ble_eq_true rfl)) rfl rfl rfl ?_
  refine me1 (pc' := 81) dm_X12_keep_80 rfl rfl rfl rfl ?_
  refine me3 (pc' := 84) dm_X12_keep_81 (g_get (v := .ref 114) (lu (n := 102) (j := 0) hn rfl) rfl rfl (Nat.le_of_ble_eq_true rfl)) rfl rfl rfl ?_
  refine me0 (pc' := 86) (S' := .int (80 : Int32) :: _) dm_X12_keep_84 rfl rfl rfl rfl ?_
  refine me1 (pc' := 87) dm_X12_keep_86 rfl rfl rfl rfl ?_
  refine me0 (pc' := 88) (S' := .int (0 : Int32) :: _) dm_X12_keep_87 rfl rfl rfl rfl ?_
  refine me0 (pc' := 90) (S' := .int (40 : Int32) :: _) dm_X12_keep_88 rfl rfl rfl rfl ?_
  refine me0 (pc' := 91) (S' := .int (40 : Int32) :: _) dm_X12_keep_90 rfl rfl rfl rfl ?_
  refine me1 (pc' := 92) dm_X12_keep_91 rfl rfl rfl rfl ?_
  refine me0 (pc' := 93) (S' := .int (56 : Int32) :: _) dm_X12_keep_92 rfl rfl rfl rfl ?_
  refine me1 (pc' := 94) dm_X12_keep_93 rfl rfl rfl rfl ?_
  refine me3 (pc' := 97) dm_X12_keep_94 (g_get (v := .ref 111) (lu (n := 102) (j := 0) hn rfl) rfl rfl (Nat.le_of_ble_eq_true rfl)) rfl rfl rfl ?_
  refine me1 (pc' := 98) dm_X12_keep_97 rfl rfl rfl rfl ?_
  refine me3 (pc' := 99) dm_X12_keep_98 (g_lald (v := (0 : Int64)) (lu (n := 102) (j := 9) hn rfl) rfl (by decide) rfl (Nat.le_of_ble_eq_true rfl)) rfl rfl rfl ?_
  refine me3 (pc' := 100) dm_X12_keep_99 (u_last (n := 102) (j := 12) hn rfl rfl (by decide) rfl (Nat.le_of_ble_eq_true rfl)) rfl rfl rfl ?_
  refine me1 (pc' := 101) dm_X12_keep_100 rfl rfl rfl rfl ?_
  refine me3 (pc' := 104) dm_X12_keep_101 (g_get (v := .ref 115) (lu (n := 102) (j := 0) hn rfl) rfl rfl (Nat.le_of_ble_eq_true rfl)) rfl rfl rfl ?_
  refine me0 (pc' := 106) (S' := .int (80 : Int32) :: _) dm_X12_keep_104 rfl rfl rfl rfl ?_
  refine me1 (pc' := 107) dm_X12_keep_106 rfl rfl rfl rfl ?_
  refine me0 (pc' := 108) (S' := .int (0 : Int32) :: _) dm_X12_keep_107 rfl rfl rfl rfl ?_
  refine me0 (pc' := 110) (S' := .int (40 : Int32) :: _) dm_X12_keep_108 rfl rfl rfl rfl ?_
  refine me0 (pc' := 111) (S' := .int (40 : Int32) :: _) dm_X12_keep_110 rfl rfl rfl rfl ?_
  refine me1 (pc' := 112) dm_X12_keep_111 rfl rfl rfl rfl ?_
  refine me0 (pc' := 113) (S' := .int (56 : Int32) :: _) dm_X12_keep_112 rfl rfl rfl rfl ?_
  refine me1 (pc' := 114) dm_X12_keep_113 rfl rfl rfl rfl ?_
  refine me3 (pc' := 117) dm_X12_keep_114 (g_get (v := .ref 113) (lu (n := 102) (j := 0) hn rfl) rfl rfl (Nat.le_of_ble_eq_true rfl)) rfl rfl rfl ?_
  refine me1 (pc' := 118) dm_X12_keep_117 rfl rfl rfl rfl ?_
  refine me3 (pc' := 119) dm_X12_keep_118 (g_iald (v := (0 : Int32)) (lu (n := 102) (j := 11) hn rfl) rfl (by decide) rfl (Nat.le_of_ble_eq_true rfl)) rfl rfl rfl ?_
  refine me3 (pc' := 120) dm_X12_keep_119 (u_iast (n := 102) (j := 13) hn rfl rfl (by decide) rfl (Nat.le_of_ble_eq_true rfl)) rfl rfl rfl ?_
  refine me1 (pc' := 123) (L' := [(2, .int (17 : Int32)), (0, .ref 102), (1, .int (0 : Int32))]) dm_X12_keep_120 rfl rfl rfl rfl ?_
  refine me2 (pc' := 40) dm_X12_keep_123 rfl rfl rfl ?_
  refine me1 (pc' := 41) dm_X12_keep_40 rfl rfl rfl rfl ?_
  refine me0 (pc' := 43) (S' := .int (40 : Int32) :: _) dm_X12_keep_41 rfl rfl rfl rfl ?_
  refine me_2f (pc' := 46) dm_X12_keep_43 rfl (by decide) rfl ?_
  refine me1 (pc' := 47) dm_X12_keep_46 rfl rfl rfl rfl ?_
  refine me3 (pc' := 50) dm_X12_keep_47 (g_get (v := .ref 114) (lu (n := 102) (j := 0) hn rfl) rfl rfl (Nat.le_of_ble_eq_true rfl)) rfl rfl rfl ?_
  refine me0 (pc' := 52) (S' := .int (80 : Int32) :: _) dm_X12_keep_50 rfl rfl rfl rfl ?_
  refine me1 (pc' := 53) dm_X12_keep_52 rfl rfl rfl rfl ?_
  refine me0 (pc' := 54) (S' := .int (0 : Int32) :: _) dm_X12_keep_53 rfl rfl rfl rfl ?_
  refine me1 (pc' := 55) dm_X12_keep_54 rfl rfl rfl rfl ?_
  refine me0 (pc' := 56) (S' := .int (17 : Int32) :: _) dm_X12_keep_55 rfl rfl rfl rfl ?_
  refine me1 (pc' := 57) dm_X12_keep_56 rfl rfl rfl rfl ?_
  refine me3 (pc' := 60) dm_X12_keep_57 (g_get (v := .ref 110) (lu (n := 102) (j := 0) hn rfl) rfl rfl (Nat.le_of_ble_eq_true rfl)) rfl rfl rfl ?_
  refine me1 (pc' := 61) dm_X12_keep_60 rfl rfl rfl rfl ?_
  refine me3 (pc' := 62) dm_X12_keep_61 (g_lald (v := (0 : Int64)) (lu (n := 102) (j := 8) hn rfl) rfl (by decide) rfl (Nat.le_of_ble_eq_true rfl)) rfl rfl rfl ?_
  refine me3 (pc' := 63) dm_X12_keep_62 (u_last (n := 102) (j := 12) hn rfl rfl (by decide) rfl (Nat.le_of_ble_eq_true rfl)) rfl rfl rfl ?_
  refine me1 (pc' := 64) dm_X12_keep_63 rfl rfl rfl rfl ?_
  refine me3 (pc' := 67) dm_X12_keep_64 (g_get (v := .ref 115) (lu (n := 102) (j := 0) hn rfl) rfl rfl (Nat.le_of_ble_eq_true rfl)) rfl rfl rfl ?_
  refine me0 (pc' := 69) (S' := .int (80 : Int32) :: _) dm_X12_keep_67 rfl rfl rfl rfl ?_
  refine me1 (pc' := 70) dm_X12_keep_69 rfl rfl rfl rfl ?_
  refine me0 (pc' := 71) (S' := .int (0 : Int32) :: _) dm_X12_keep_70 rfl rfl rfl rfl ?_
  refine me1 (pc' := 72) dm_X12_keep_71 rfl rfl rfl rfl ?_
  refine me0 (pc' := 73) (S' := .int (17 : Int32) :: _) dm_X12_keep_72 rfl rfl rfl rfl ?_
  refine me1 (pc' := 74) dm_X12_keep_73 rfl rfl rfl rfl ?_
  refine me3 (pc' := 77) dm_X12_keep_74 (g_get (v := .ref 112) (lu (n := 102) (j := 0) hn rfl) rfl rfl (Nat.le_of_ble_eq_true rfl)) rfl rfl rfl ?_
  refine me1 (pc' := 78) dm_X12_keep_77 rfl rfl rfl rfl ?_
  refine me3 (pc' := 79) dm_X12_keep_78 (g_iald (v := (0 : Int32)) (lu (n := 102) (j := 10) hn rfl) rfl (by decide) rfl (Nat.le_of_ble_eq_true rfl)) rfl rfl rfl ?_
  refine me3 (pc' := 80) dm_X12_keep_79 (u_iast (n := 102) (j := 13) hn rfl rfl (by decide) rfl (Nat.le_of_ble_eq_true rfl)) rfl rfl rfl ?_
  refine me1 (pc' := 81) dm_X12_keep_80 rfl rfl rfl rfl ?_
  refine me3 (pc' := 84) dm_X12_keep_81 (g_get (v := .ref 114) (lu (n := 102) (j := 0) hn rfl) rfl rfl (Nat.le_of_ble_eq_true rfl)) rfl rfl rfl ?_
  refine me0 (pc' := 86) (S' := .int (80 : Int32) :: _) dm_X12_keep_84 rfl rfl rfl rfl ?_
  refine me1 (pc' := 87) dm_X12_keep_86 rfl rfl rfl rfl ?_
  refine me0 (pc' := 88) (S' := .int (0 : Int32) :: _) dm_X12_keep_87 rfl rfl rfl rfl ?_
  refine me0 (pc' := 90) (S' := .int (40 : Int32) :: _) dm_X12_keep_88 rfl rfl rfl rfl ?_
  refine me0 (pc' := 91) (S' := .int (40 : Int32) :: _) dm_X12_keep_90 rfl rfl rfl rfl ?_
  refine me1 (pc' := 92) dm_X12_keep_91 rfl rfl rfl rfl ?_
  refine me0 (pc' := 93) (S' := .int (57 : Int32) :: _) dm_X12_keep_92 rfl rfl rfl rfl ?_
  refine me1 (pc' := 94) dm_X12_keep_93 rfl rfl rfl rfl ?_
  refine me3 (pc' := 97) dm_X12_keep_94 (g_get (v := .ref 111) (lu (n := 102) (j := 0) hn rfl) rfl rfl (Nat.le_of_ble_eq_true rfl)) rfl rfl rfl ?_
  refine me1 (pc' := 98) dm_X12_keep_97 rfl rfl rfl rfl ?_
  refine me3 (pc' := 99) dm_X12_keep_98 (g_lald (v := (0 : Int64)) (lu (n := 102) (j := 9) hn rfl) rfl (by decide) rfl (Nat.le_of_ble_eq_true rfl)) rfl rfl rfl ?_
  refine me3 (pc' := 100) dm_X12_keep_99 (u_last (n := 102) (j := 12) hn rfl rfl (by decide) rfl (Nat.le_of_ble_eq_true rfl)) rfl rfl rfl ?_
  refine me1 (pc' := 101) dm_X12_keep_100 rfl rfl rfl rfl ?_
  refine me3 (pc' := 104) dm_X12_keep_101 (g_get (v := .ref 115) (lu (n := 102) (j := 0) hn rfl) rfl rfl (Nat.le_of_ble_eq_true rfl)) rfl rfl rfl ?_
  refine me0 (pc' := 106) (S' := .int (80 : Int32) :: _) dm_X12_keep_104 rfl rfl rfl rfl ?_
  refine me1 (pc' := 107) dm_X12_keep_106 rfl rfl rfl rfl ?_
  refine me0 (pc' := 108) (S' := .int (0 : Int32) :: _) dm_X12_keep_107 rfl rfl rfl rfl ?_
  refine me0 (pc' := 110) (S' := .int (40 : Int32) :: _) dm_X12_keep_108 rfl rfl rfl rfl ?_
  refine me0 (pc' := 111) (S' := .int (40 : Int32) :: _) dm_X12_keep_110 rfl rfl rfl rfl ?_
  refine me1 (pc' := 112) dm_X12_keep_111 rfl rfl rfl rfl ?_
  refine me0 (pc' := 113) (S' := .int (57 : Int32) :: _) dm_X12_keep_112 rfl rfl rfl rfl ?_
  refine me1 (pc' := 114) dm_X12_keep_113 rfl rfl rfl rfl ?_
  refine me3 (pc' := 117) dm_X12_keep_114 (g_get (v := .ref 113) (lu (n := 102) (j := 0) hn rfl) rfl rfl (Nat.le_of_ble_eq_true rfl)) rfl rfl rfl ?_
  refine me1 (pc' := 118) dm_X12_keep_117 rfl rfl rfl rfl ?_
  refine me3 (pc' := 119) dm_X12_keep_118 (g_iald (v := (0 : Int32)) (lu (n := 102) (j := 11) hn rfl) rfl (by decide) rfl (Nat.le_of_ble_eq_true rfl)) rfl rfl rfl ?_
  refine me3 (pc' := 120) dm_X12_keep_119 (u_iast (n := 102) (j := 13) hn rfl rfl (by decide) rfl (Nat.le_of_ble_eq_true rfl)) rfl rfl rfl ?_
  refine me1 (pc' := 123) (L' := [(2, .int (18 : Int32)), (0, .ref 102), (1, .int (0 : Int32))]) dm_X12_keep_120 rfl rfl rfl rfl ?_
  refine me2 (pc' := 40) dm_X12_keep_123 rfl rfl rfl ?_
  refine me1 (pc' := 41) dm_X12_keep_40 rfl rfl rfl rfl ?_
  refine me0 (pc' := 43) (S' := .int (40 : Int32) :: _) dm_X12_keep_41 rfl rfl rfl rfl ?_
  refine me_2f (pc' := 46) dm_X12_keep_43 rfl (by decide) rfl ?_
  refine me1 (pc' := 47) dm_X12_keep_46 rfl rfl rfl rfl ?_
  refine me3 (pc' := 50) dm_X12_keep_47 (g_get (v := .ref 114) (lu (n := 102) (j := 0) hn rfl) rfl rfl (Nat.le_of_ble_eq_true rfl)) rfl rfl rfl ?_
  refine me0 (pc' := 52) (S' := .int (80 : Int32) :: _) dm_X12_keep_50 rfl rfl rfl rfl ?_
  refine me1 (pc' := 53) dm_X12_keep_52 rfl rfl rfl rfl ?_
  refine me0 (pc' := 54) (S' := .int (0 : Int32) :: _) dm_X12_keep_53 rfl rfl rfl rfl ?_
  refine me1 (pc' := 55) dm_X12_keep_54 rfl rfl rfl rfl ?_
  refine me0 (pc' := 56) (S' := .int (18 : Int32) :: _) dm_X12_keep_55 rfl rfl rfl rfl ?_
  refine me1 (pc' := 57) dm_X12_keep_56 rfl rfl rfl rfl ?_
  refine me3 (pc' := 60) dm_X12_keep_57 (g_get (v := .ref 110) (lu (n := 102) (j := 0) hn rfl) rfl rfl (Nat.le_of_ble_eq_true rfl)) rfl rfl rfl ?_
  refine me1 (pc' := 61) dm_X12_keep_60 rfl rfl rfl rfl ?_
  refine me3 (pc' := 62) dm_X12_keep_61 (g_lald (v := (0 : Int64)) (lu (n := 102) (j := 8) hn rfl) rfl (by decide) rfl (Nat.le_of_ble_eq_true rfl)) rfl rfl rfl ?_
  refine me3 (pc' := 63) dm_X12_keep_62 (u_last (n := 102) (j := 12) hn rfl rfl (by decide) rfl (Nat.le_of_ble_eq_true rfl)) rfl rfl rfl ?_
  refine me1 (pc' := 64) dm_X12_keep_63 rfl rfl rfl rfl ?_
  refine me3 (pc' := 67) dm_X12_keep_64 (g_get (v := .ref 115) (lu (n := 102) (j := 0) hn rfl) rfl rfl (Nat.le_of_ble_eq_true rfl)) rfl rfl rfl ?_
  refine me0 (pc' := 69) (S' := .int (80 : Int32) :: _) dm_X12_keep_67 rfl rfl rfl rfl ?_
  refine me1 (pc' := 70) dm_X12_keep_69 rfl rfl rfl rfl ?_
  refine me0 (pc' := 71) (S' := .int (0 : Int32) :: _) dm_X12_keep_70 rfl rfl rfl rfl ?_
  refine me1 (pc' := 72) dm_X12_keep_71 rfl rfl rfl rfl ?_
  refine me0 (pc' := 73) (S' := .int (18 : Int32) :: _) dm_X12_keep_72 rfl rfl rfl rfl ?_
  refine me1 (pc' := 74) dm_X12_keep_73 rfl rfl rfl rfl ?_
  refine me3 (pc' := 77) dm_X12_keep_74 (g_get (v := .ref 112) (lu (n := 102) (j := 0) hn rfl) rfl rfl (Nat.le_of_ble_eq_true rfl)) rfl rfl rfl ?_
  refine me1 (pc' := 78) dm_X12_keep_77 rfl rfl rfl rfl ?_
  refine me3 (pc' := 79) dm_X12_keep_78 (g_iald (v := (0 : Int32)) (lu (n := 102) (j := 10) hn rfl) rfl (by decide) rfl (Nat.le_of_ble_eq_true rfl)) rfl rfl rfl ?_
  refine me3 (pc' := 80) dm_X12_keep_79 (u_iast (n := 102) (j := 13) hn rfl rfl (by decide) rfl (Nat.le_of_ble_eq_true rfl)) rfl rfl rfl ?_
  refine me1 (pc' := 81) dm_X12_keep_80 rfl rfl rfl rfl ?_
  refine me3 (pc' := 84) dm_X12_keep_81 (g_get (v := .ref 114) (lu (n := 102) (j := 0) hn rfl) rfl rfl (Nat.le_of_ble_eq_true rfl)) rfl rfl rfl ?_
  refine me0 (pc' := 86) (S' := .int (80 : Int32) :: _) dm_X12_keep_84 rfl rfl rfl rfl ?_
  refine me1 (pc' := 87) dm_X12_keep_86 rfl rfl rfl rfl ?_
  refine me0 (pc' := 88) (S' := .int (0 : Int32) :: _) dm_X12_keep_87 rfl rfl rfl rfl ?_
  refine me0 (pc' := 90) (S' := .int (40 : Int32) :: _) dm_X12_keep_88 rfl rfl rfl rfl ?_
  refine me0 (pc' := 91) (S' := .int (40 : Int32) :: _) dm_X12_keep_90 rfl rfl rfl rfl ?_
  refine me1 (pc' := 92) dm_X12_keep_91 rfl rfl rfl rfl ?_
  refine me0 (pc' := 93) (S' := .int (58 : Int32) :: _) dm_X12_keep_92 rfl rfl rfl rfl ?_
  refine me1 (pc' := 94) dm_X12_keep_93 rfl rfl rfl rfl ?_
  refine me3 (pc' := 97) dm_X12_keep_94 (g_get (v := .ref 111) (lu (n := 102) (j := 0) hn rfl) rfl rfl (Nat.le_of_ble_eq_true rfl)) rfl rfl rfl ?_
  refine me1 (pc' := 98) dm_X12_keep_97 rfl rfl rfl rfl ?_
  refine me3 (pc' := 99) dm_X12_keep_98 (g_lald (v := (0 : Int64)) (lu (n := 102) (j := 9) hn rfl) rfl (by decide) rfl (Nat.le_of_ble_eq_true rfl)) rfl rfl rfl ?_
  refine me3 (pc' := 100) dm_X12_keep_99 (u_last (n := 102) (j := 12) hn rfl rfl (by decide) rfl (Nat.le_of_ble_eq_true rfl)) rfl rfl rfl ?_
  refine me1 (pc' := 101) dm_X12_keep_100 rfl rfl rfl rfl ?_
  refine me3 (pc' := 104) dm_X12_keep_101 (g_get (v := .ref 115) (lu (n := 102) (j := 0) hn rfl) rfl rfl (Nat.le_of_ble_eq_true rfl)) rfl rfl rfl ?_
  refine me0 (pc' := 106) (S' := .int (80 : Int32) :: _) dm_X12_keep_104 rfl rfl rfl rfl ?_
  refine me1 (pc' := 107) dm_X12_keep_106 rfl rfl rfl rfl ?_
  refine me0 (pc' := 108) (S' := .int (0 : Int32) :: _) dm_X12_keep_107 rfl rfl rfl rfl ?_
  refine me0 (pc' := 110) (S' := .int (40 : Int32) :: _) dm_X12_keep_108 rfl rfl rfl rfl ?_
  refine me0 (pc' := 111) (S' := .int (40 : Int32) :: _) dm_X12_keep_110 rfl rfl rfl rfl ?_
  refine me1 (pc' := 112) dm_X12_keep_111 rfl rfl rfl rfl ?_
  refine me0 (pc' := 113) (S' := .int (58 : Int32) :: _) dm_X12_keep_112 rfl rfl rfl rfl ?_
  refine me1 (pc' := 114) dm_X12_keep_113 rfl rfl rfl rfl ?_
  refine me3 (pc' := 117) dm_X12_keep_114 (g_get (v := .ref 113) (lu (n := 102) (j := 0) hn rfl) rfl rfl (Nat.le_of_ble_eq_true rfl)) rfl rfl rfl ?_
  refine me1 (pc' := 118) dm_X12_keep_117 rfl rfl rfl rfl ?_
  refine me3 (pc' := 119) dm_X12_keep_118 (g_iald (v := (0 : Int32)) (lu (n := 102) (j := 11) hn rfl) rfl (by decide) rfl (Nat.le_of_ble_eq_true rfl)) rfl rfl rfl ?_
  refine me3 (pc' := 120) dm_X12_keep_119 (u_iast (n := 102) (j := 13) hn rfl rfl (by decide) rfl (Nat.le_of_ble_eq_true rfl)) rfl rfl rfl ?_
  refine me1 (pc' := 123) (L' := [(2, .int (19 : Int32)), (0, .ref 102), (1, .int (0 : Int32))]) dm_X12_keep_120 rfl rfl rfl rfl ?_
  refine me2 (pc' := 40) dm_X12_keep_123 rfl rfl rfl ?_
  refine me1 (pc' := 41) dm_X12_keep_40 rfl rfl rfl rfl ?_
  refine me0 (pc' := 43) (S' := .int (40 : Int32) :: _) dm_X12_keep_41 rfl rfl rfl rfl ?_
  refine me_2f (pc' := 46) dm_X12_keep_43 rfl (by decide) rfl ?_
  refine me1 (pc' := 47) dm_X12_keep_46 rfl rfl rfl rfl ?_
  refine me3 (pc' := 50) dm_X12_keep_47 (g_get (v := .ref 114) (lu (n := 102) (j := 0) hn rfl) rfl rfl (Nat.le_of_ble_eq_true rfl)) rfl rfl rfl ?_
  refine me0 (pc' := 52) (S' := .int (80 : Int32) :: _) dm_X12_keep_50 rfl rfl rfl rfl ?_
  refine me1 (pc' := 53) dm_X12_keep_52 rfl rfl rfl rfl ?_
  refine me0 (pc' := 54) (S' := .int (0 : Int32) :: _) dm_X12_keep_53 rfl rfl rfl rfl ?_
  refine me1 (pc' := 55) dm_X12_keep_54 rfl rfl rfl rfl ?_
  refine me0 (pc' := 56) (S' := .int (19 : Int32) :: _) dm_X12_keep_55 rfl rfl rfl rfl ?_
  refine me1 (pc' := 57) dm_X12_keep_56 rfl rfl rfl rfl ?_
  refine me3 (pc' := 60) dm_X12_keep_57 (g_get (v := .ref 110) (lu (n := 102) (j := 0) hn rfl) rfl rfl (Nat.le_of_ble_eq_true rfl)) rfl rfl rfl ?_
  refine me1 (pc' := 61) dm_X12_keep_60 rfl rfl rfl rfl ?_
  refine me3 (pc' := 62) dm_X12_keep_61 (g_lald (v := (0 : Int64)) (lu (n := 102) (j := 8) hn rfl) rfl (by decide) rfl (Nat.le_of_ble_eq_true rfl)) rfl rfl rfl ?_
  refine me3 (pc' := 63) dm_X12_keep_62 (u_last (n := 102) (j := 12) hn rfl rfl (by decide) rfl (Nat.le_of_ble_eq_true rfl)) rfl rfl rfl ?_
  refine me1 (pc' := 64) dm_X12_keep_63 rfl rfl rfl rfl ?_
  refine me3 (pc' := 67) dm_X12_keep_64 (g_get (v := .ref 115) (lu (n := 102) (j := 0) hn rfl) rfl rfl (Nat.le_of_ble_eq_true rfl)) rfl rfl rfl ?_
  refine me0 (pc' := 69) (S' := .int (80 : Int32) :: _) dm_X12_keep_67 rfl rfl rfl rfl ?_
  refine me1 (pc' := 70) dm_X12_keep_69 rfl rfl rfl rfl ?_
  refine me0 (pc' := 71) (S' := .int (0 : Int32) :: _) dm_X12_keep_70 rfl rfl rfl rfl ?_
  refine me1 (pc' := 72) dm_X12_keep_71 rfl rfl rfl rfl ?_
  refine me0 (pc' := 73) (S' := .int (19 : Int32) :: _) dm_X12_keep_72 rfl rfl rfl rfl ?_
  refine me1 (pc' := 74) dm_X12_keep_73 rfl rfl rfl rfl ?_
  refine me3 (pc' := 77) dm_X12_keep_74 (g_get (v := .ref 112) (lu (n := 102) (j := 0) hn rfl) rfl rfl (Nat.le_of_ble_eq_true rfl)) rfl rfl rfl ?_
  refine me1 (pc' := 78) dm_X12_keep_77 rfl rfl rfl rfl ?_
  refine me3 (pc' := 79) dm_X12_keep_78 (g_iald (v := (0 : Int32)) (lu (n := 102) (j := 10) hn rfl) rfl (by decide) rfl (Nat.le_of_ble_eq_true rfl)) rfl rfl rfl ?_
  refine me3 (pc' := 80) dm_X12_keep_79 (u_iast (n := 102) (j := 13) hn rfl rfl (by decide) rfl (Nat.le_of_ble_eq_true rfl)) rfl rfl rfl ?_
  refine me1 (pc' := 81) dm_X12_keep_80 rfl rfl rfl rfl ?_
  refine me3 (pc' := 84) dm_X12_keep_81 (g_get (v := .ref 114) (lu (n := 102) (j := 0) hn rfl) rfl rfl (Nat.le_of_ble_eq_true rfl)) rfl rfl rfl ?_
  refine me0 (pc' := 86) (S' := .int (80 : Int32) :: _) dm_X12_keep_84 rfl rfl rfl rfl ?_
  refine me1 (pc' := 87) dm_X12_keep_86 rfl rfl rfl rfl ?_
  refine me0 (pc' := 88) (S' := .int (0 : Int32) :: _) dm_X12_keep_87 rfl rfl rfl rfl ?_
  refine me0 (pc' := 90) (S' := .int (40 : Int32) :: _) dm_X12_keep_88 rfl rfl rfl rfl ?_
  refine me0 (pc' := 91) (S' := .int (40 : Int32) :: _) dm_X12_keep_90 rfl rfl rfl rfl ?_
  refine me1 (pc' := 92) dm_X12_keep_91 rfl rfl rfl rfl ?_
  refine me0 (pc' := 93) (S' := .int (59 : Int32) :: _) dm_X12_keep_92 rfl rfl rfl rfl ?_
  refine me1 (pc' := 94) dm_X12_keep_93 rfl rfl rfl rfl ?_
  refine me3 (pc' := 97) dm_X12_keep_94 (g_get (v := .ref 111) (lu (n := 102) (j := 0) hn rfl) rfl rfl (Nat.le_of_ble_eq_true rfl)) rfl rfl rfl ?_
  refine me1 (pc' := 98) dm_X12_keep_97 rfl rfl rfl rfl ?_
  refine me3 (pc' := 99) dm_X12_keep_98 (g_lald (v := (0 : Int64)) (lu (n := 102) (j := 9) hn rfl) rfl (by decide) rfl (Nat.le_of_ble_eq_true rfl)) rfl rfl rfl ?_
  refine me3 (pc' := 100) dm_X12_keep_99 (u_last (n := 102) (j := 12) hn rfl rfl (by decide) rfl (Nat.le_of_ble_eq_true rfl)) rfl rfl rfl ?_
  refine me1 (pc' := 101) dm_X12_keep_100 rfl rfl rfl rfl ?_
  refine me3 (pc' := 104) dm_X12_keep_101 (g_get (v := .ref 115) (lu (n := 102) (j := 0) hn rfl) rfl rfl (Nat.le_of_ble_eq_true rfl)) rfl rfl rfl ?_
  refine me0 (pc' := 106) (S' := .int (80 : Int32) :: _) dm_X12_keep_104 rfl rfl rfl rfl ?_
  refine me1 (pc' := 107) dm_X12_keep_106 rfl rfl rfl rfl ?_
  refine me0 (pc' := 108) (S' := .int (0 : Int32) :: _) dm_X12_keep_107 rfl rfl rfl rfl ?_
  refine me0 (pc' := 110) (S' := .int (40 : Int32) :: _) dm_X12_keep_108 rfl rfl rfl rfl ?_
  refine me0 (pc' := 111) (S' := .int (40 : Int32) :: _) dm_X12_keep_110 rfl rfl rfl rfl ?_
  refine me1 (pc' := 112) dm_X12_keep_111 rfl rfl rfl rfl ?_
  refine me0 (pc' := 113) (S' := .int (59 : Int32) :: _) dm_X12_keep_112 rfl rfl rfl rfl ?_
  refine me1 (pc' := 114) dm_X12_keep_113 rfl rfl rfl rfl ?_
  refine me3 (pc' := 117) dm_X12_keep_114 (g_get (v := .ref 113) (lu (n := 102) (j := 0) hn rfl) rfl rfl (Nat.le_of_ble_eq_true rfl)) rfl rfl rfl ?_
  refine me1 (pc' := 118) dm_X12_keep_117 rfl rfl rfl rfl ?_
  refine me3 (pc' := 119) dm_X12_keep_118 (g_iald (v := (0 : Int32)) (lu (n := 102) (j := 11) hn rfl) rfl (by decide) rfl (Nat.le_of_ble_eq_true rfl)) rfl rfl rfl ?_
  refine me3 (pc' := 120) dm_X12_keep_119 (u_iast (n := 102) (j := 13) hn rfl rfl (by decide) rfl (Nat.le_of_ble_eq_true rfl)) rfl rfl rfl ?_
  refine me1 (pc' := 123) (L' := [(2, .int (20 : Int32)), (0, .ref 102), (1, .int (0 : Int32))]) dm_X12_keep_120 rfl rfl rfl rfl ?_
  refine me2 (pc' := 40) dm_X12_keep_123 rfl rfl rfl ?_
  refine me1 (pc' := 41) dm_X12_keep_40 rfl rfl rfl rfl ?_
  refine me0 (pc' := 43) (S' := .int (40 : Int32) :: _) dm_X12_keep_41 rfl rfl rfl rfl ?_
  refine me_2f (pc' := 46) dm_X12_keep_43 rfl (by decide) rfl ?_
  refine me1 (pc' := 47) dm_X12_keep_46 rfl rfl rfl rfl ?_
  refine me3 (pc' := 50) dm_X12_keep_47 (g_get (v := .ref 114) (lu (n := 102) (j := 0) hn rfl) rfl rfl (Nat.le_of_ble_eq_true rfl)) rfl rfl rfl ?_
  refine me0 (pc' := 52) (S' := .int (80 : Int32) :: _) dm_X12_keep_50 rfl rfl rfl rfl ?_
  refine me1 (pc' := 53) dm_X12_keep_52 rfl rfl rfl rfl ?_
  refine me0 (pc' := 54) (S' := .int (0 : Int32) :: _) dm_X12_keep_53 rfl rfl rfl rfl ?_
  refine me1 (pc' := 55) dm_X12_keep_54 rfl rfl rfl rfl ?_
  refine me0 (pc' := 56) (S' := .int (20 : Int32) :: _) dm_X12_keep_55 rfl rfl rfl rfl ?_
  refine me1 (pc' := 57) dm_X12_keep_56 rfl rfl rfl rfl ?_
  refine me3 (pc' := 60) dm_X12_keep_57 (g_get (v := .ref 110) (lu (n := 102) (j := 0) hn rfl) rfl rfl (Nat.le_of_ble_eq_true rfl)) rfl rfl rfl ?_
  refine me1 (pc' := 61) dm_X12_keep_60 rfl rfl rfl rfl ?_
  refine me3 (pc' := 62) dm_X12_keep_61 (g_lald (v := (0 : Int64)) (lu (n := 102) (j := 8) hn rfl) rfl (by decide) rfl (Nat.le_of_ble_eq_true rfl)) rfl rfl rfl ?_
  refine me3 (pc' := 63) dm_X12_keep_62 (u_last (n := 102) (j := 12) hn rfl rfl (by decide) rfl (Nat.le_of_ble_eq_true rfl)) rfl rfl rfl ?_
  refine me1 (pc' := 64) dm_X12_keep_63 rfl rfl rfl rfl ?_
  refine me3 (pc' := 67) dm_X12_keep_64 (g_get (v := .ref 115) (lu (n := 102) (j := 0) hn rfl) rfl rfl (Nat.le_of_ble_eq_true rfl)) rfl rfl rfl ?_
  refine me0 (pc' := 69) (S' := .int (80 : Int32) :: _) dm_X12_keep_67 rfl rfl rfl rfl ?_
  refine me1 (pc' := 70) dm_X12_keep_69 rfl rfl rfl rfl ?_
  refine me0 (pc' := 71) (S' := .int (0 : Int32) :: _) dm_X12_keep_70 rfl rfl rfl rfl ?_
  refine me1 (pc' := 72) dm_X12_keep_71 rfl rfl rfl rfl ?_
  refine me0 (pc' := 73) (S' := .int (20 : Int32) :: _) dm_X12_keep_72 rfl rfl rfl rfl ?_
  refine me1 (pc' := 74) dm_X12_keep_73 rfl rfl rfl rfl ?_
  refine me3 (pc' := 77) dm_X12_keep_74 (g_get (v := .ref 112) (lu (n := 102) (j := 0) hn rfl) rfl rfl (Nat.le_of_ble_eq_true rfl)) rfl rfl rfl ?_
  refine me1 (pc' := 78) dm_X12_keep_77 rfl rfl rfl rfl ?_
  refine me3 (pc' := 79) dm_X12_keep_78 (g_iald (v := (0 : Int32)) (lu (n := 102) (j := 10) hn rfl) rfl (by decide) rfl (Nat.le_of_ble_eq_true rfl)) rfl rfl rfl ?_
  refine me3 (pc' := 80) dm_X12_keep_79 (u_iast (n := 102) (j := 13) hn rfl rfl (by decide) rfl (Nat.le_of_ble_eq_true rfl)) rfl rfl rfl ?_
  refine me1 (pc' := 81) dm_X12_keep_80 rfl rfl rfl rfl ?_
  refine me3 (pc' := 84) dm_X12_keep_81 (g_get (v := .ref 114) (lu (n := 102) (j := 0) hn rfl) rfl rfl (Nat.le_of_ble_eq_true rfl)) rfl rfl rfl ?_
  refine me0 (pc' := 86) (S' := .int (80 : Int32) :: _) dm_X12_keep_84 rfl rfl rfl rfl ?_
  refine me1 (pc' := 87) dm_X12_keep_86 rfl rfl rfl rfl ?_
  refine me0 (pc' := 88) (S' := .int (0 : Int32) :: _) dm_X12_keep_87 rfl rfl rfl rfl ?_
  refine me0 (pc' := 90) (S' := .int (40 : Int32) :: _) dm_X12_keep_88 rfl rfl rfl rfl ?_
  refine me0 (pc' := 91) (S' := .int (40 : Int32) :: _) dm_X12_keep_90 rfl rfl rfl rfl ?_
  refine me1 (pc' := 92) dm_X12_keep_91 rfl rfl rfl rfl ?_
  refine me0 (pc' := 93) (S' := .int (60 : Int32) :: _) dm_X12_keep_92 rfl rfl rfl rfl ?_
  refine me1 (pc' := 94) dm_X12_keep_93 rfl rfl rfl rfl ?_
  refine me3 (pc' := 97) dm_X12_keep_94 (g_get (v := .ref 111) (lu (n := 102) (j := 0) hn rfl) rfl rfl (Nat.le_of_ble_eq_true rfl)) rfl rfl rfl ?_
  refine me1 (pc' := 98) dm_X12_keep_97 rfl rfl rfl rfl ?_
  refine me3 (pc' := 99) dm_X12_keep_98 (g_lald (v := (0 : Int64)) (lu (n := 102) (j := 9) hn rfl) rfl (by decide) rfl (Nat.le_of_ble_eq_true rfl)) rfl rfl rfl ?_
  refine me3 (pc' := 100) dm_X12_keep_99 (u_last (n := 102) (j := 12) hn rfl rfl (by decide) rfl (Nat.le_of_ble_eq_true rfl)) rfl rfl rfl ?_
  refine me1 (pc' := 101) dm_X12_keep_100 rfl rfl rfl rfl ?_
  refine me3 (pc' := 104) dm_X12_keep_101 (g_get (v := .ref 115) (lu (n := 102) (j := 0) hn rfl) rfl rfl (Nat.le_of_ble_eq_true rfl)) rfl rfl rfl ?_
  refine me0 (pc' := 106) (S' := .int (80 : Int32) :: _) dm_X12_keep_104 rfl rfl rfl rfl ?_
  refine me1 (pc' := 107) dm_X12_keep_106 rfl rfl rfl rfl ?_
  refine me0 (pc' := 108) (S' := .int (0 : Int32) :: _) dm_X12_keep_107 rfl rfl rfl rfl ?_
  refine me0 (pc' := 110) (S' := .int (40 : Int32) :: _) dm_X12_keep_108 rfl rfl rfl rfl ?_
  refine me0 (pc' := 111) (S' := .int (40 : Int32) :: _) dm_X12_keep_110 rfl rfl rfl rfl ?_
  refine me1 (pc' := 112) dm_X12_keep_111 rfl rfl rfl rfl ?_
  refine me0 (pc' := 113) (S' := .int (60 : Int32) :: _) dm_X12_keep_112 rfl rfl rfl rfl ?_
  refine me1 (pc' := 114) dm_X12_keep_113 rfl rfl rfl rfl ?_
  refine me3 (pc' := 117) dm_X12_keep_114 (g_get (v := .ref 113) (lu (n := 102) (j := 0) hn rfl) rfl rfl (Nat.le_of_ble_eq_true rfl)) rfl rfl rfl ?_
  refine me1 (pc' := 118) dm_X12_keep_117 rfl rfl rfl rfl ?_
  refine me3 (pc' := 119) dm_X12_keep_118 (g_iald (v := (0 : Int32)) (lu (n := 102) (j := 11) hn rfl) rfl (by decide) rfl (Nat.le_of_ble_eq_true rfl)) rfl rfl rfl ?_
  refine me3 (pc' := 120) dm_X12_keep_119 (u_iast (n := 102) (j := 13) hn rfl rfl (by decide) rfl (Nat.le_of_ble_eq_true rfl)) rfl rfl rfl ?_
  refine me1 (pc' := 123) (L' := [(2, .int (21 : Int32)), (0, .ref 102), (1, .int (0 : Int32))]) dm_X12_keep_120 rfl rfl rfl rfl ?_
  refine me2 (pc' := 40) dm_X12_keep_123 rfl rfl rfl ?_
  refine me1 (pc' := 41) dm_X12_keep_40 rfl rfl rfl rfl ?_
  refine me0 (pc' := 43) (S' := .int (40 : Int32) :: _) dm_X12_keep_41 rfl rfl rfl rfl ?_
  refine me_2f (pc' := 46) dm_X12_keep_43 rfl (by decide) rfl ?_
  refine me1 (pc' := 47) dm_X12_keep_46 rfl rfl rfl rfl ?_
  refine me3 (pc' := 50) dm_X12_keep_47 (g_get (v := .ref 114) (lu (n := 102) (j := 0) hn rfl) rfl rfl (Nat.le_of_ble_eq_true rfl)) rfl rfl rfl ?_
  refine me0 (pc' := 52) (S' := .int (80 : Int32) :: _) dm_X12_keep_50 rfl rfl rfl rfl ?_
  refine me1 (pc' := 53) dm_X12_keep_52 rfl rfl rfl rfl ?_
  refine me0 (pc' := 54) (S' := .int (0 : Int32) :: _) dm_X12_keep_53 rfl rfl rfl rfl ?_
  refine me1 (pc' := 55) dm_X12_keep_54 rfl rfl rfl rfl ?_
  refine me0 (pc' := 56) (S' := .int (21 : Int32) :: _) dm_X12_keep_55 rfl rfl rfl rfl ?_
  refine me1 (pc' := 57) dm_X12_keep_56 rfl rfl rfl rfl ?_
  refine me3 (pc' := 60) dm_X12_keep_57 (g_get (v := .ref 110) (lu (n := 102) (j := 0) hn rfl) rfl rfl (Nat.le_of_ble_eq_true rfl)) rfl rfl rfl ?_
  refine me1 (pc' := 61) dm_X12_keep_60 rfl rfl rfl rfl ?_
  refine me3 (pc' := 62) dm_X12_keep_61 (g_lald (v := (0 : Int64)) (lu (n := 102) (j := 8) hn rfl) rfl (by decide) rfl (Nat.le_of_ble_eq_true rfl)) rfl rfl rfl ?_
  refine me3 (pc' := 63) dm_X12_keep_62 (u_last (n := 102) (j := 12) hn rfl rfl (by decide) rfl (Nat.le_of_ble_eq_true rfl)) rfl rfl rfl ?_
  refine me1 (pc' := 64) dm_X12_keep_63 rfl rfl rfl rfl ?_
  refine me3 (pc' := 67) dm_X12_keep_64 (g_get (v := .ref 115) (lu (n := 102) (j := 0) hn rfl) rfl rfl (Nat.le_of_ble_eq_true rfl)) rfl rfl rfl ?_
  refine me0 (pc' := 69) (S' := .int (80 : Int32) :: _) dm_X12_keep_67 rfl rfl rfl rfl ?_
  refine me1 (pc' := 70) dm_X12_keep_69 rfl rfl rfl rfl ?_
  refine me0 (pc' := 71) (S' := .int (0 : Int32) :: _) dm_X12_keep_70 rfl rfl rfl rfl ?_
  refine me1 (pc' := 72) dm_X12_keep_71 rfl rfl rfl rfl ?_
  refine me0 (pc' := 73) (S' := .int (21 : Int32) :: _) dm_X12_keep_72 rfl rfl rfl rfl ?_
  refine me1 (pc' := 74) dm_X12_keep_73 rfl rfl rfl rfl ?_
  refine me3 (pc' := 77) dm_X12_keep_74 (g_get (v := .ref 112) (lu (n := 102) (j := 0) hn rfl) rfl rfl (Nat.le_of_ble_eq_true rfl)) rfl rfl rfl ?_
  refine me1 (pc' := 78) dm_X12_keep_77 rfl rfl rfl rfl ?_
  refine me3 (pc' := 79) dm_X12_keep_78 (g_iald (v := (0 : Int32)) (lu (n := 102) (j := 10) hn rfl) rfl (by decide) rfl (Nat.le_of_ble_eq_true rfl)) rfl rfl rfl ?_
  refine me3 (pc' := 80) dm_X12_keep_79 (u_iast (n := 102) (j := 13) hn rfl rfl (by decide) rfl (Nat.le_of_ble_eq_true rfl)) rfl rfl rfl ?_
  refine me1 (pc' := 81) dm_X12_keep_80 rfl rfl rfl rfl ?_
  refine me3 (pc' := 84) dm_X12_keep_81 (g_get (v := .ref 114) (lu (n := 102) (j := 0) hn rfl) rfl rfl (Nat.le_of_ble_eq_true rfl)) rfl rfl rfl ?_
  refine me0 (pc' := 86) (S' := .int (80 : Int32) :: _) dm_X12_keep_84 rfl rfl rfl rfl ?_
  refine me1 (pc' := 87) dm_X12_keep_86 rfl rfl rfl rfl ?_
  refine me0 (pc' := 88) (S' := .int (0 : Int32) :: _) dm_X12_keep_87 rfl rfl rfl rfl ?_
  refine me0 (pc' := 90) (S' := .int (40 : Int32) :: _) dm_X12_keep_88 rfl rfl rfl rfl ?_
  refine me0 (pc' := 91) (S' := .int (40 : Int32) :: _) dm_X12_keep_90 rfl rfl rfl rfl ?_
  refine me1 (pc' := 92) dm_X12_keep_91 rfl rfl rfl rfl ?_
  refine me0 (pc' := 93) (S' := .int (61 : Int32) :: _) dm_X12_keep_92 rfl rfl rfl rfl ?_
  refine me1 (pc' := 94) dm_X12_keep_93 rfl rfl rfl rfl ?_
  refine me3 (pc' := 97) dm_X12_keep_94 (g_get (v := .ref 111) (lu (n := 102) (j := 0) hn rfl) rfl rfl (Nat.le_of_ble_eq_true rfl)) rfl rfl rfl ?_
  refine me1 (pc' := 98) dm_X12_keep_97 rfl rfl rfl rfl ?_
  refine me3 (pc' := 99) dm_X12_keep_98 (g_lald (v := (0 : Int64)) (lu (n := 102) (j := 9) hn rfl) rfl (by decide) rfl (Nat.le_of_ble_eq_true rfl)) rfl rfl rfl ?_
  refine me3 (pc' := 100) dm_X12_keep_99 (u_last (n := 102) (j := 12) hn rfl rfl (by decide) rfl (Nat.le_of_ble_eq_true rfl)) rfl rfl rfl ?_
  refine me1 (pc' := 101) dm_X12_keep_100 rfl rfl rfl rfl ?_
  refine me3 (pc' := 104) dm_X12_keep_101 (g_get (v := .ref 115) (lu (n := 102) (j := 0) hn rfl) rfl rfl (Nat.le_of_ble_eq_true rfl)) rfl rfl rfl ?_
  refine me0 (pc' := 106) (S' := .int (80 : Int32) :: _) dm_X12_keep_104 rfl rfl rfl rfl ?_
  refine me1 (pc' := 107) dm_X12_keep_106 rfl rfl rfl rfl ?_
  refine me0 (pc' := 108) (S' := .int (0 : Int32) :: _) dm_X12_keep_107 rfl rfl rfl rfl ?_
  refine me0 (pc' := 110) (S' := .int (40 : Int32) :: _) dm_X12_keep_108 rfl rfl rfl rfl ?_
  refine me0 (pc' := 111) (S' := .int (40 : Int32) :: _) dm_X12_keep_110 rfl rfl rfl rfl ?_
  refine me1 (pc' := 112) dm_X12_keep_111 rfl rfl rfl rfl ?_
  refine me0 (pc' := 113) (S' := .int (61 : Int32) :: _) dm_X12_keep_112 rfl rfl rfl rfl ?_
  refine me1 (pc' := 114) dm_X12_keep_113 rfl rfl rfl rfl ?_
  refine me3 (pc' := 117) dm_X12_keep_114 (g_get (v := .ref 113) (lu (n := 102) (j := 0) hn rfl) rfl rfl (Nat.le_of_ble_eq_true rfl)) rfl rfl rfl ?_
  refine me1 (pc' := 118) dm_X12_keep_117 rfl rfl rfl rfl ?_
  refine me3 (pc' := 119) dm_X12_keep_118 (g_iald (v := (0 : Int32)) (lu (n := 102) (j := 11) hn rfl) rfl (by decide) rfl (Nat.le_of_ble_eq_true rfl)) rfl rfl rfl ?_
  refine me3 (pc' := 120) dm_X12_keep_119 (u_iast (n := 102) (j := 13) hn rfl rfl (by decide) rfl (Nat.le_of_ble_eq_true rfl)) rfl rfl rfl ?_
  refine me1 (pc' := 123) (L' := [(2, .int (22 : Int32)), (0, .ref 102), (1, .int (0 : Int32))]) dm_X12_keep_120 rfl rfl rfl rfl ?_
  refine me2 (pc' := 40) dm_X12_keep_123 rfl rfl rfl ?_
  refine me1 (pc' := 41) dm_X12_keep_40 rfl rfl rfl rfl ?_
  refine me0 (pc' := 43) (S' := .int (40 : Int32) :: _) dm_X12_keep_41 rfl rfl rfl rfl ?_
  refine me_2f (pc' := 46) dm_X12_keep_43 rfl (by decide) rfl ?_
  refine me1 (pc' := 47) dm_X12_keep_46 rfl rfl rfl rfl ?_
  refine me3 (pc' := 50) dm_X12_keep_47 (g_get (v := .ref 114) (lu (n := 102) (j := 0) hn rfl) rfl rfl (Nat.le_of_ble_eq_true rfl)) rfl rfl rfl ?_
  refine me0 (pc' := 52) (S' := .int (80 : Int32) :: _) dm_X12_keep_50 rfl rfl rfl rfl ?_
  refine me1 (pc' := 53) dm_X12_keep_52 rfl rfl rfl rfl ?_
  refine me0 (pc' := 54) (S' := .int (0 : Int32) :: _) dm_X12_keep_53 rfl rfl rfl rfl ?_
  refine me1 (pc' := 55) dm_X12_keep_54 rfl rfl rfl rfl ?_
  refine me0 (pc' := 56) (S' := .int (22 : Int32) :: _) dm_X12_keep_55 rfl rfl rfl rfl ?_
  refine me1 (pc' := 57) dm_X12_keep_56 rfl rfl rfl rfl ?_
  refine me3 (pc' := 60) dm_X12_keep_57 (g_get (v := .ref 110) (lu (n := 102) (j := 0) hn rfl) rfl rfl (Nat.le_of_ble_eq_true rfl)) rfl rfl rfl ?_
  refine me1 (pc' := 61) dm_X12_keep_60 rfl rfl rfl rfl ?_
  refine me3 (pc' := 62) dm_X12_keep_61 (g_lald (v := (0 : Int64)) (lu (n := 102) (j := 8) hn rfl) rfl (by decide) rfl (Nat.le_of_ble_eq_true rfl)) rfl rfl rfl ?_
  refine me3 (pc' := 63) dm_X12_keep_62 (u_last (n := 102) (j := 12) hn rfl rfl (by decide) rfl (Nat.le_of_ble_eq_true rfl)) rfl rfl rfl ?_
  refine me1 (pc' := 64) dm_X12_keep_63 rfl rfl rfl rfl ?_
  refine me3 (pc' := 67) dm_X12_keep_64 (g_get (v := .ref 115) (lu (n := 102) (j := 0) hn rfl) rfl rfl (Nat.le_of_ble_eq_true rfl)) rfl rfl rfl ?_
  refine me0 (pc' := 69) (S' := .int (80 : Int32) :: _) dm_X12_keep_67 rfl rfl rfl rfl ?_
  refine me1 (pc' := 70) dm_X12_keep_69 rfl rfl rfl rfl ?_
  refine me0 (pc' := 71) (S' := .int (0 : Int32) :: _) dm_X12_keep_70 rfl rfl rfl rfl ?_
  refine me1 (pc' := 72) dm_X12_keep_71 rfl rfl rfl rfl ?_
  refine me0 (pc' := 73) (S' := .int (22 : Int32) :: _) dm_X12_keep_72 rfl rfl rfl rfl ?_
  refine me1 (pc' := 74) dm_X12_keep_73 rfl rfl rfl rfl ?_
  refine me3 (pc' := 77) dm_X12_keep_74 (g_get (v := .ref 112) (lu (n := 102) (j := 0) hn rfl) rfl rfl (Nat.le_of_ble_eq_true rfl)) rfl rfl rfl ?_
  refine me1 (pc' := 78) dm_X12_keep_77 rfl rfl rfl rfl ?_
  refine me3 (pc' := 79) dm_X12_keep_78 (g_iald (v := (0 : Int32)) (lu (n := 102) (j := 10) hn rfl) rfl (by decide) rfl (Nat.le_of_ble_eq_true rfl)) rfl rfl rfl ?_
  refine me3 (pc' := 80) dm_X12_keep_79 (u_iast (n := 102) (j := 13) hn rfl rfl (by decide) rfl (Nat.le_of_ble_eq_true rfl)) rfl rfl rfl ?_
  refine me1 (pc' := 81) dm_X12_keep_80 rfl rfl rfl rfl ?_
  refine me3 (pc' := 84) dm_X12_keep_81 (g_get (v := .ref 114) (lu (n := 102) (j := 0) hn rfl) rfl rfl (Nat.le_of_ble_eq_true rfl)) rfl rfl rfl ?_
  refine me0 (pc' := 86) (S' := .int (80 : Int32) :: _) dm_X12_keep_84 rfl rfl rfl rfl ?_
  refine me1 (pc' := 87) dm_X12_keep_86 rfl rfl rfl rfl ?_
  refine me0 (pc' := 88) (S' := .int (0 : Int32) :: _) dm_X12_keep_87 rfl rfl rfl rfl ?_
  refine me0 (pc' := 90) (S' := .int (40 : Int32) :: _) dm_X12_keep_88 rfl rfl rfl rfl ?_
  refine me0 (pc' := 91) (S' := .int (40 : Int32) :: _) dm_X12_keep_90 rfl rfl rfl rfl ?_
  refine me1 (pc' := 92) dm_X12_keep_91 rfl rfl rfl rfl ?_
  refine me0 (pc' := 93) (S' := .int (62 : Int32) :: _) dm_X12_keep_92 rfl rfl rfl rfl ?_
  refine me1 (pc' := 94) dm_X12_keep_93 rfl rfl rfl rfl ?_
  refine me3 (pc' := 97) dm_X12_keep_94 (g_get (v := .ref 111) (lu (n := 102) (j := 0) hn rfl) rfl rfl (Nat.le_of_ble_eq_true rfl)) rfl rfl rfl ?_
  refine me1 (pc' := 98) dm_X12_keep_97 rfl rfl rfl rfl ?_
  refine me3 (pc' := 99) dm_X12_keep_98 (g_lald (v := (0 : Int64)) (lu (n := 102) (j := 9) hn rfl) rfl (by decide) rfl (Nat.le_of_ble_eq_true rfl)) rfl rfl rfl ?_
  refine me3 (pc' := 100) dm_X12_keep_99 (u_last (n := 102) (j := 12) hn rfl rfl (by decide) rfl (Nat.le_of_ble_eq_true rfl)) rfl rfl rfl ?_
  refine me1 (pc' := 101) dm_X12_keep_100 rfl rfl rfl rfl ?_
  refine me3 (pc' := 104) dm_X12_keep_101 (g_get (v := .ref 115) (lu (n := 102) (j := 0) hn rfl) rfl rfl (Nat.le_of_ble_eq_true rfl)) rfl rfl rfl ?_
  refine me0 (pc' := 106) (S' := .int (80 : Int32) :: _) dm_X12_keep_104 rfl rfl rfl rfl ?_
  refine me1 (pc' := 107) dm_X12_keep_106 rfl rfl rfl rfl ?_
  refine me0 (pc' := 108) (S' := .int (0 : Int32) :: _) dm_X12_keep_107 rfl rfl rfl rfl ?_
  refine me0 (pc' := 110) (S' := .int (40 : Int32) :: _) dm_X12_keep_108 rfl rfl rfl rfl ?_
  refine me0 (pc' := 111) (S' := .int (40 : Int32) :: _) dm_X12_keep_110 rfl rfl rfl rfl ?_
  refine me1 (pc' := 112) dm_X12_keep_111 rfl rfl rfl rfl ?_
  refine me0 (pc' := 113) (S' := .int (62 : Int32) :: _) dm_X12_keep_112 rfl rfl rfl rfl ?_
  refine me1 (pc' := 114) dm_X12_keep_113 rfl rfl rfl rfl ?_
  refine me3 (pc' := 117) dm_X12_keep_114 (g_get (v := .ref 113) (lu (n := 102) (j := 0) hn rfl) rfl rfl (Nat.le_of_ble_eq_true rfl)) rfl rfl rfl ?_
  refine me1 (pc' := 118) dm_X12_keep_117 rfl rfl rfl rfl ?_
  refine me3 (pc' := 119) dm_X12_keep_118 (g_iald (v := (0 : Int32)) (lu (n := 102) (j := 11) hn rfl) rfl (by decide) rfl (Nat.le_of_ble_eq_true rfl)) rfl rfl rfl ?_
  refine me3 (pc' := 120) dm_X12_keep_119 (u_iast (n := 102) (j := 13) hn rfl rfl (by decide) rfl (Nat.le_of_ble_eq_true rfl)) rfl rfl rfl ?_
  refine me1 (pc' := 123) (L' := [(2, .int (23 : Int32)), (0, .ref 102), (1, .int (0 : Int32))]) dm_X12_keep_120 rfl rfl rfl rfl ?_
  refine me2 (pc' := 40) dm_X12_keep_123 rfl rfl rfl ?_
  refine me1 (pc' := 41) dm_X12_keep_40 rfl rfl rfl rfl ?_
  refine me0 (pc' := 43) (S' := .int (40 : Int32) :: _) dm_X12_keep_41 rfl rfl rfl rfl ?_
  refine me_2f (pc' := 46) dm_X12_keep_43 rfl (by decide) rfl ?_
  refine me1 (pc' := 47) dm_X12_keep_46 rfl rfl rfl rfl ?_
  refine me3 (pc' := 50) dm_X12_keep_47 (g_get (v := .ref 114) (lu (n := 102) (j := 0) hn rfl) rfl rfl (Nat.le_of_ble_eq_true rfl)) rfl rfl rfl ?_
  refine me0 (pc' := 52) (S' := .int (80 : Int32) :: _) dm_X12_keep_50 rfl rfl rfl rfl ?_
  refine me1 (pc' := 53) dm_X12_keep_52 rfl rfl rfl rfl ?_
  refine me0 (pc' := 54) (S' := .int (0 : Int32) :: _) dm_X12_keep_53 rfl rfl rfl rfl ?_
  refine me1 (pc' := 55) dm_X12_keep_54 rfl rfl rfl rfl ?_
  refine me0 (pc' := 56) (S' := .int (23 : Int32) :: _) dm_X12_keep_55 rfl rfl rfl rfl ?_
  refine me1 (pc' := 57) dm_X12_keep_56 rfl rfl rfl rfl ?_
  refine me3 (pc' := 60) dm_X12_keep_57 (g_get (v := .ref 110) (lu (n := 102) (j := 0) hn rfl) rfl rfl (Nat.le_of_ble_eq_true rfl)) rfl rfl rfl ?_
  refine me1 (pc' := 61) dm_X12_keep_60 rfl rfl rfl rfl ?_
  refine me3 (pc' := 62) dm_X12_keep_61 (g_lald (v := (0 : Int64)) (lu (n := 102) (j := 8) hn rfl) rfl (by decide) rfl (Nat.le_of_ble_eq_true rfl)) rfl rfl rfl ?_
  refine me3 (pc' := 63) dm_X12_keep_62 (u_last (n := 102) (j := 12) hn rfl rfl (by decide) rfl (Nat.le_of_ble_eq_true rfl)) rfl rfl rfl ?_
  refine me1 (pc' := 64) dm_X12_keep_63 rfl rfl rfl rfl ?_
  refine me3 (pc' := 67) dm_X12_keep_64 (g_get (v := .ref 115) (lu (n := 102) (j := 0) hn rfl) rfl rfl (Nat.le_of_ble_eq_true rfl)) rfl rfl rfl ?_
  refine me0 (pc' := 69) (S' := .int (80 : Int32) :: _) dm_X12_keep_67 rfl rfl rfl rfl ?_
  refine me1 (pc' := 70) dm_X12_keep_69 rfl rfl rfl rfl ?_
  refine me0 (pc' := 71) (S' := .int (0 : Int32) :: _) dm_X12_keep_70 rfl rfl rfl rfl ?_
  refine me1 (pc' := 72) dm_X12_keep_71 rfl rfl rfl rfl ?_
  refine me0 (pc' := 73) (S' := .int (23 : Int32) :: _) dm_X12_keep_72 rfl rfl rfl rfl ?_
  refine me1 (pc' := 74) dm_X12_keep_73 rfl rfl rfl rfl ?_
  refine me3 (pc' := 77) dm_X12_keep_74 (g_get (v := .ref 112) (lu (n := 102) (j := 0) hn rfl) rfl rfl (Nat.le_of_ble_eq_true rfl)) rfl rfl rfl ?_
  refine me1 (pc' := 78) dm_X12_keep_77 rfl rfl rfl rfl ?_
  refine me3 (pc' := 79) dm_X12_keep_78 (g_iald (v := (0 : Int32)) (lu (n := 102) (j := 10) hn rfl) rfl (by decide) rfl (Nat.le_of_ble_eq_true rfl)) rfl rfl rfl ?_
  refine me3 (pc' := 80) dm_X12_keep_79 (u_iast (n := 102) (j := 13) hn rfl rfl (by decide) rfl (Nat.le_of_ble_eq_true rfl)) rfl rfl rfl ?_
  refine me1 (pc' := 81) dm_X12_keep_80 rfl rfl rfl rfl ?_
  refine me3 (pc' := 84) dm_X12_keep_81 (g_get (v := .ref 114) (lu (n := 102) (j := 0) hn rfl) rfl rfl (Nat.le_of_ble_eq_true rfl)) rfl rfl rfl ?_
  refine me0 (pc' := 86) (S' := .int (80 : Int32) :: _) dm_X12_keep_84 rfl rfl rfl rfl ?_
  refine me1 (pc' := 87) dm_X12_keep_86 rfl rfl rfl rfl ?_
  refine me0 (pc' := 88) (S' := .int (0 : Int32) :: _) dm_X12_keep_87 rfl rfl rfl rfl ?_
  refine me0 (pc' := 90) (S' := .int (40 : Int32) :: _) dm_X12_keep_88 rfl rfl rfl rfl ?_
  refine me0 (pc' := 91) (S' := .int (40 : Int32) :: _) dm_X12_keep_90 rfl rfl rfl rfl ?_
  refine me1 (pc' := 92) dm_X12_keep_91 rfl rfl rfl rfl ?_
  refine me0 (pc' := 93) (S' := .int (63 : Int32) :: _) dm_X12_keep_92 rfl rfl rfl rfl ?_
  refine me1 (pc' := 94) dm_X12_keep_93 rfl rfl rfl rfl ?_
  refine me3 (pc' := 97) dm_X12_keep_94 (g_get (v := .ref 111) (lu (n := 102) (j := 0) hn rfl) rfl rfl (Nat.le_of_ble_eq_true rfl)) rfl rfl rfl ?_
  refine me1 (pc' := 98) dm_X12_keep_97 rfl rfl rfl rfl ?_
  refine me3 (pc' := 99) dm_X12_keep_98 (g_lald (v := (0 : Int64)) (lu (n := 102) (j := 9) hn rfl) rfl (by decide) rfl (Nat.le_of_ble_eq_true rfl)) rfl rfl rfl ?_
  refine me3 (pc' := 100) dm_X12_keep_99 (u_last (n := 102) (j := 12) hn rfl rfl (by decide) rfl (Nat.le_of_ble_eq_true rfl)) rfl rfl rfl ?_
  refine me1 (pc' := 101) dm_X12_keep_100 rfl rfl rfl rfl ?_
  refine me3 (pc' := 104) dm_X12_keep_101 (g_get (v := .ref 115) (lu (n := 102) (j := 0) hn rfl) rfl rfl (Nat.le_of_ble_eq_true rfl)) rfl rfl rfl ?_
  refine me0 (pc' := 106) (S' := .int (80 : Int32) :: _) dm_X12_keep_104 rfl rfl rfl rfl ?_
  refine me1 (pc' := 107) dm_X12_keep_106 rfl rfl rfl rfl ?_
  refine me0 (pc' := 108) (S' := .int (0 : Int32) :: _) dm_X12_keep_107 rfl rfl rfl rfl ?_
  refine me0 (pc' := 110) (S' := .int (40 : Int32) :: _) dm_X12_keep_108 rfl rfl rfl rfl ?_
  refine me0 (pc' := 111) (S' := .int (40 : Int32) :: _) dm_X12_keep_110 rfl rfl rfl rfl ?_
  refine me1 (pc' := 112) dm_X12_keep_111 rfl rfl rfl rfl ?_
  refine me0 (pc' := 113) (S' := .int (63 : Int32) :: _) dm_X12_keep_112 rfl rfl rfl rfl ?_
  refine me1 (pc' := 114) dm_X12_keep_113 rfl rfl rfl rfl ?_
  refine me3 (pc' := 117) dm_X12_keep_114 (g_get (v := .ref 113) (lu (n := 102) (j := 0) hn rfl) rfl rfl (Nat.le_of_ble_eq_true rfl)) rfl rfl rfl ?_
  refine me1 (pc' := 118) dm_X12_keep_117 rfl rfl rfl rfl ?_
  refine me3 (pc' := 119) dm_X12_keep_118 (g_iald (v := (0 : Int32)) (lu (n := 102) (j := 11) hn rfl) rfl (by decide) rfl (Nat.le_of_ble_eq_true rfl)) rfl rfl rfl ?_
  refine me3 (pc' := 120) dm_X12_keep_119 (u_iast (n := 102) (j := 13) hn rfl rfl (by decide) rfl (Nat.le_of_ble_eq_true rfl)) rfl rfl rfl ?_
  refine me1 (pc' := 123) (L' := [(2, .int (24 : Int32)), (0, .ref 102), (1, .int (0 : Int32))]) dm_X12_keep_120 rfl rfl rfl rfl ?_
  refine me2 (pc' := 40) dm_X12_keep_123 rfl rfl rfl ?_
  refine me1 (pc' := 41) dm_X12_keep_40 rfl rfl rfl rfl ?_
  refine me0 (pc' := 43) (S' := .int (40 : Int32) :: _) dm_X12_keep_41 rfl rfl rfl rfl ?_
  refine me_2f (pc' := 46) dm_X12_keep_43 rfl (by decide) rfl ?_
  refine me1 (pc' := 47) dm_X12_keep_46 rfl rfl rfl rfl ?_
  refine me3 (pc' := 50) dm_X12_keep_47 (g_get (v := .ref 114) (lu (n := 102) (j := 0) hn rfl) rfl rfl (Nat.le_of_ble_eq_true rfl)) rfl rfl rfl ?_
  refine me0 (pc' := 52) (S' := .int (80 : Int32) :: _) dm_X12_keep_50 rfl rfl rfl rfl ?_
  refine me1 (pc' := 53) dm_X12_keep_52 rfl rfl rfl rfl ?_
  refine me0 (pc' := 54) (S' := .int (0 : Int32) :: _) dm_X12_keep_53 rfl rfl rfl rfl ?_
  refine me1 (pc' := 55) dm_X12_keep_54 rfl rfl rfl rfl ?_
  refine me0 (pc' := 56) (S' := .int (24 : Int32) :: _) dm_X12_keep_55 rfl rfl rfl rfl ?_
  refine me1 (pc' := 57) dm_X12_keep_56 rfl rfl rfl rfl ?_
  refine me3 (pc' := 60) dm_X12_keep_57 (g_get (v := .ref 110) (lu (n := 102) (j := 0) hn rfl) rfl rfl (Nat.le_of_ble_eq_true rfl)) rfl rfl rfl ?_
  refine me1 (pc' := 61) dm_X12_keep_60 rfl rfl rfl rfl ?_
  refine me3 (pc' := 62) dm_X12_keep_61 (g_lald (v := (0 : Int64)) (lu (n := 102) (j := 8) hn rfl) rfl (by decide) rfl (Nat.le_of_ble_eq_true rfl)) rfl rfl rfl ?_
  refine me3 (pc' := 63) dm_X12_keep_62 (u_last (n := 102) (j := 12) hn rfl rfl (by decide) rfl (Nat.le_of_ble_eq_true rfl)) rfl rfl rfl ?_
  refine me1 (pc' := 64) dm_X12_keep_63 rfl rfl rfl rfl ?_
  refine me3 (pc' := 67) dm_X12_keep_64 (g_get (v := .ref 115) (lu (n := 102) (j := 0) hn rfl) rfl rfl (Nat.le_of_ble_eq_true rfl)) rfl rfl rfl ?_
  refine me0 (pc' := 69) (S' := .int (80 : Int32) :: _) dm_X12_keep_67 rfl rfl rfl rfl ?_
  refine me1 (pc' := 70) dm_X12_keep_69 rfl rfl rfl rfl ?_
  refine me0 (pc' := 71) (S' := .int (0 : Int32) :: _) dm_X12_keep_70 rfl rfl rfl rfl ?_
  refine me1 (pc' := 72) dm_X12_keep_71 rfl rfl rfl rfl ?_
  refine me0 (pc' := 73) (S' := .int (24 : Int32) :: _) dm_X12_keep_72 rfl rfl rfl rfl ?_
  refine me1 (pc' := 74) dm_X12_keep_73 rfl rfl rfl rfl ?_
  refine me3 (pc' := 77) dm_X12_keep_74 (g_get (v := .ref 112) (lu (n := 102) (j := 0) hn rfl) rfl rfl (Nat.le_of_ble_eq_true rfl)) rfl rfl rfl ?_
  refine me1 (pc' := 78) dm_X12_keep_77 rfl rfl rfl rfl ?_
  refine me3 (pc' := 79) dm_X12_keep_78 (g_iald (v := (0 : Int32)) (lu (n := 102) (j := 10) hn rfl) rfl (by decide) rfl (Nat.le_of_ble_eq_true rfl)) rfl rfl rfl ?_
  refine me3 (pc' := 80) dm_X12_keep_79 (u_iast (n := 102) (j := 13) hn rfl rfl (by decide) rfl (Nat.le_of_ble_eq_true rfl)) rfl rfl rfl ?_
  refine me1 (pc' := 81) dm_X12_keep_80 rfl rfl rfl rfl ?_
  refine me3 (pc' := 84) dm_X12_keep_81 (g_get (v := .ref 114) (lu (n := 102) (j := 0) hn rfl) rfl rfl (Nat.le_of_ble_eq_true rfl)) rfl rfl rfl ?_
  refine me0 (pc' := 86) (S' := .int (80 : Int32) :: _) dm_X12_keep_84 rfl rfl rfl rfl ?_
  refine me1 (pc' := 87) dm_X12_keep_86 rfl rfl rfl rfl ?_
  refine me0 (pc' := 88) (S' := .int (0 : Int32) :: _) dm_X12_keep_87 rfl rfl rfl rfl ?_
  refine me0 (pc' := 90) (S' := .int (40 : Int32) :: _) dm_X12_keep_88 rfl rfl rfl rfl ?_
  refine me0 (pc' := 91) (S' := .int (40 : Int32) :: _) dm_X12_keep_90 rfl rfl rfl rfl ?_
  refine me1 (pc' := 92) dm_X12_keep_91 rfl rfl rfl rfl ?_
  refine me0 (pc' := 93) (S' := .int (64 : Int32) :: _) dm_X12_keep_92 rfl rfl rfl rfl ?_
  refine me1 (pc' := 94) dm_X12_keep_93 rfl rfl rfl rfl ?_
  refine me3 (pc' := 97) dm_X12_keep_94 (g_get (v := .ref 111) (lu (n := 102) (j := 0) hn rfl) rfl rfl (Nat.le_of_ble_eq_true rfl)) rfl rfl rfl ?_
  refine me1 (pc' := 98) dm_X12_keep_97 rfl rfl rfl rfl ?_
  refine me3 (pc' := 99) dm_X12_keep_98 (g_lald (v := (0 : Int64)) (lu (n := 102) (j := 9) hn rfl) rfl (by decide) rfl (Nat.le_of_ble_eq_true rfl)) rfl rfl rfl ?_
  refine me3 (pc' := 100) dm_X12_keep_99 (u_last (n := 102) (j := 12) hn rfl rfl (by decide) rfl (Nat.le_of_ble_eq_true rfl)) rfl rfl rfl ?_
  refine me1 (pc' := 101) dm_X12_keep_100 rfl rfl rfl rfl ?_
  refine me3 (pc' := 104) dm_X12_keep_101 (g_get (v := .ref 115) (lu (n := 102) (j := 0) hn rfl) rfl rfl (Nat.le_of_ble_eq_true rfl)) rfl rfl rfl ?_
  refine me0 (pc' := 106) (S' := .int (80 : Int32) :: _) dm_X12_keep_104 rfl rfl rfl rfl ?_
  refine me1 (pc' := 107) dm_X12_keep_106 rfl rfl rfl rfl ?_
  refine me0 (pc' := 108) (S' := .int (0 : Int32) :: _) dm_X12_keep_107 rfl rfl rfl rfl ?_
  refine me0 (pc' := 110) (S' := .int (40 : Int32) :: _) dm_X12_keep_108 rfl rfl rfl rfl ?_
  refine me0 (pc' := 111) (S' := .int (40 : Int32) :: _) dm_X12_keep_110 rfl rfl rfl rfl ?_
  refine me1 (pc' := 112) dm_X12_keep_111 rfl rfl rfl rfl ?_
  refine me0 (pc' := 113) (S' := .int (64 : Int32) :: _) dm_X12_keep_112 rfl rfl rfl rfl ?_
  refine me1 (pc' := 114) dm_X12_keep_113 rfl rfl rfl rfl ?_
  refine me3 (pc' := 117) dm_X12_keep_114 (g_get (v := .ref 113) (lu (n := 102) (j := 0) hn rfl) rfl rfl (Nat.le_of_ble_eq_true rfl)) rfl rfl rfl ?_
  refine me1 (pc' := 118) dm_X12_keep_117 rfl rfl rfl rfl ?_
  refine me3 (pc' := 119) dm_X12_keep_118 (g_iald (v := (0 : Int32)) (lu (n := 102) (j := 11) hn rfl) rfl (by decide) rfl (Nat.le_of_ble_eq_true rfl)) rfl rfl rfl ?_
  refine me3 (pc' := 120) dm_X12_keep_119 (u_iast (n := 102) (j := 13) hn rfl rfl (by decide) rfl (Nat.le_of_ble_eq_true rfl)) rfl rfl rfl ?_
  refine me1 (pc' := 123) (L' := [(2, .int (25 : Int32)), (0, .ref 102), (1, .int (0 : Int32))]) dm_X12_keep_120 rfl rfl rfl rfl ?_
  refine me2 (pc' := 40) dm_X12_keep_123 rfl rfl rfl ?_
  refine me1 (pc' := 41) dm_X12_keep_40 rfl rfl rfl rfl ?_
  refine me0 (pc' := 43) (S' := .int (40 : Int32) :: _) dm_X12_keep_41 rfl rfl rfl rfl ?_
  refine me_2f (pc' := 46) dm_X12_keep_43 rfl (by decide) rfl ?_
  refine me1 (pc' := 47) dm_X12_keep_46 rfl rfl rfl rfl ?_
  refine me3 (pc' := 50) dm_X12_keep_47 (g_get (v := .ref 114) (lu (n := 102) (j := 0) hn rfl) rfl rfl (Nat.le_of_ble_eq_true rfl)) rfl rfl rfl ?_
  refine me0 (pc' := 52) (S' := .int (80 : Int32) :: _) dm_X12_keep_50 rfl rfl rfl rfl ?_
  refine me1 (pc' := 53) dm_X12_keep_52 rfl rfl rfl rfl ?_
  refine me0 (pc' := 54) (S' := .int (0 : Int32) :: _) dm_X12_keep_53 rfl rfl rfl rfl ?_
  refine me1 (pc' := 55) dm_X12_keep_54 rfl rfl rfl rfl ?_
  refine me0 (pc' := 56) (S' := .int (25 : Int32) :: _) dm_X12_keep_55 rfl rfl rfl rfl ?_
  refine me1 (pc' := 57) dm_X12_keep_56 rfl rfl rfl rfl ?_
  refine me3 (pc' := 60) dm_X12_keep_57 (g_get (v := .ref 110) (lu (n := 102) (j := 0) hn rfl) rfl rfl (Nat.le_of_ble_eq_true rfl)) rfl rfl rfl ?_
  refine me1 (pc' := 61) dm_X12_keep_60 rfl rfl rfl rfl ?_
  refine me3 (pc' := 62) dm_X12_keep_61 (g_lald (v := (0 : Int64)) (lu (n := 102) (j := 8) hn rfl) rfl (by decide) rfl (Nat.le_of_ble_eq_true rfl)) rfl rfl rfl ?_
  refine me3 (pc' := 63) dm_X12_keep_62 (u_last (n := 102) (j := 12) hn rfl rfl (by decide) rfl (Nat.le_of_ble_eq_true rfl)) rfl rfl rfl ?_
  refine me1 (pc' := 64) dm_X12_keep_63 rfl rfl rfl rfl ?_
  refine me3 (pc' := 67) dm_X12_keep_64 (g_get (v := .ref 115) (lu (n := 102) (j := 0) hn rfl) rfl rfl (Nat.le_of_ble_eq_true rfl)) rfl rfl rfl ?_
  refine me0 (pc' := 69) (S' := .int (80 : Int32) :: _) dm_X12_keep_67 rfl rfl rfl rfl ?_
  refine me1 (pc' := 70) dm_X12_keep_69 rfl rfl rfl rfl ?_
  refine me0 (pc' := 71) (S' := .int (0 : Int32) :: _) dm_X12_keep_70 rfl rfl rfl rfl ?_
  refine me1 (pc' := 72) dm_X12_keep_71 rfl rfl rfl rfl ?_
  refine me0 (pc' := 73) (S' := .int (25 : Int32) :: _) dm_X12_keep_72 rfl rfl rfl rfl ?_
  refine me1 (pc' := 74) dm_X12_keep_73 rfl rfl rfl rfl ?_
  refine me3 (pc' := 77) dm_X12_keep_74 (g_get (v := .ref 112) (lu (n := 102) (j := 0) hn rfl) rfl rfl (Nat.le_of_ble_eq_true rfl)) rfl rfl rfl ?_
  refine me1 (pc' := 78) dm_X12_keep_77 rfl rfl rfl rfl ?_
  refine me3 (pc' := 79) dm_X12_keep_78 (g_iald (v := (0 : Int32)) (lu (n := 102) (j := 10) hn rfl) rfl (by decide) rfl (Nat.le_of_ble_eq_true rfl)) rfl rfl rfl ?_
  refine me3 (pc' := 80) dm_X12_keep_79 (u_iast (n := 102) (j := 13) hn rfl rfl (by decide) rfl (Nat.le_of_ble_eq_true rfl)) rfl rfl rfl ?_
  refine me1 (pc' := 81) dm_X12_keep_80 rfl rfl rfl rfl ?_
  refine me3 (pc' := 84) dm_X12_keep_81 (g_get (v := .ref 114) (lu (n := 102) (j := 0) hn rfl) rfl rfl (Nat.le_of_ble_eq_true rfl)) rfl rfl rfl ?_
  refine me0 (pc' := 86) (S' := .int (80 : Int32) :: _) dm_X12_keep_84 rfl rfl rfl rfl ?_
  refine me1 (pc' := 87) dm_X12_keep_86 rfl rfl rfl rfl ?_
  refine me0 (pc' := 88) (S' := .int (0 : Int32) :: _) dm_X12_keep_87 rfl rfl rfl rfl ?_
  refine me0 (pc' := 90) (S' := .int (40 : Int32) :: _) dm_X12_keep_88 rfl rfl rfl rfl ?_
  refine me0 (pc' := 91) (S' := .int (40 : Int32) :: _) dm_X12_keep_90 rfl rfl rfl rfl ?_
  refine me1 (pc' := 92) dm_X12_keep_91 rfl rfl rfl rfl ?_
  refine me0 (pc' := 93) (S' := .int (65 : Int32) :: _) dm_X12_keep_92 rfl rfl rfl rfl ?_
  refine me1 (pc' := 94) dm_X12_keep_93 rfl rfl rfl rfl ?_
  refine me3 (pc' := 97) dm_X12_keep_94 (g_get (v := .ref 111) (lu (n := 102) (j := 0) hn rfl) rfl rfl (Nat.le_of_ble_eq_true rfl)) rfl rfl rfl ?_
  refine me1 (pc' := 98) dm_X12_keep_97 rfl rfl rfl rfl ?_
  refine me3 (pc' := 99) dm_X12_keep_98 (g_lald (v := (0 : Int64)) (lu (n := 102) (j := 9) hn rfl) rfl (by decide) rfl (Nat.le_of_ble_eq_true rfl)) rfl rfl rfl ?_
  refine me3 (pc' := 100) dm_X12_keep_99 (u_last (n := 102) (j := 12) hn rfl rfl (by decide) rfl (Nat.le_of_ble_eq_true rfl)) rfl rfl rfl ?_
  refine me1 (pc' := 101) dm_X12_keep_100 rfl rfl rfl rfl ?_
  refine me3 (pc' := 104) dm_X12_keep_101 (g_get (v := .ref 115) (lu (n := 102) (j := 0) hn rfl) rfl rfl (Nat.le_of_ble_eq_true rfl)) rfl rfl rfl ?_
  refine me0 (pc' := 106) (S' := .int (80 : Int32) :: _) dm_X12_keep_104 rfl rfl rfl rfl ?_
  refine me1 (pc' := 107) dm_X12_keep_106 rfl rfl rfl rfl ?_
  refine me0 (pc' := 108) (S' := .int (0 : Int32) :: _) dm_X12_keep_107 rfl rfl rfl rfl ?_
  refine me0 (pc' := 110) (S' := .int (40 : Int32) :: _) dm_X12_keep_108 rfl rfl rfl rfl ?_
  refine me0 (pc' := 111) (S' := .int (40 : Int32) :: _) dm_X12_keep_110 rfl rfl rfl rfl ?_
  refine me1 (pc' := 112) dm_X12_keep_111 rfl rfl rfl rfl ?_
  refine me0 (pc' := 113) (S' := .int (65 : Int32) :: _) dm_X12_keep_112 rfl rfl rfl rfl ?_
  refine me1 (pc' := 114) dm_X12_keep_113 rfl rfl rfl rfl ?_
  refine me3 (pc' := 117) dm_X12_keep_114 (g_get (v := .ref 113) (lu (n := 102) (j := 0) hn rfl) rfl rfl (Nat.le_of_ble_eq_true rfl)) rfl rfl rfl ?_
  refine me1 (pc' := 118) dm_X12_keep_117 rfl rfl rfl rfl ?_
  refine me3 (pc' := 119) dm_X12_keep_118 (g_iald (v := (0 : Int32)) (lu (n := 102) (j := 11) hn rfl) rfl (by decide) rfl (Nat.le_of_ble_eq_true rfl)) rfl rfl rfl ?_
  refine me3 (pc' := 120) dm_X12_keep_119 (u_iast (n := 102) (j := 13) hn rfl rfl (by decide) rfl (Nat.le_of_ble_eq_true rfl)) rfl rfl rfl ?_
  refine me1 (pc' := 123) (L' := [(2, .int (26 : Int32)), (0, .ref 102), (1, .int (0 : Int32))]) dm_X12_keep_120 rfl rfl rfl rfl ?_
  refine me2 (pc' := 40) dm_X12_keep_123 rfl rfl rfl ?_
  refine me1 (pc' := 41) dm_X12_keep_40 rfl rfl rfl rfl ?_
  refine me0 (pc' := 43) (S' := .int (40 : Int32) :: _) dm_X12_keep_41 rfl rfl rfl rfl ?_
  refine me_2f (pc' := 46) dm_X12_keep_43 rfl (by decide) rfl ?_
  refine me1 (pc' := 47) dm_X12_keep_46 rfl rfl rfl rfl ?_
  refine me3 (pc' := 50) dm_X12_keep_47 (g_get (v := .ref 114) (lu (n := 102) (j := 0) hn rfl) rfl rfl (Nat.le_of_ble_eq_true rfl)) rfl rfl rfl ?_
  refine me0 (pc' := 52) (S' := .int (80 : Int32) :: _) dm_X12_keep_50 rfl rfl rfl rfl ?_
  refine me1 (pc' := 53) dm_X12_keep_52 rfl rfl rfl rfl ?_
  refine me0 (pc' := 54) (S' := .int (0 : Int32) :: _) dm_X12_keep_53 rfl rfl rfl rfl ?_
  refine me1 (pc' := 55) dm_X12_keep_54 rfl rfl rfl rfl ?_
  refine me0 (pc' := 56) (S' := .int (26 : Int32) :: _) dm_X12_keep_55 rfl rfl rfl rfl ?_
  refine me1 (pc' := 57) dm_X12_keep_56 rfl rfl rfl rfl ?_
  refine me3 (pc' := 60) dm_X12_keep_57 (g_get (v := .ref 110) (lu (n := 102) (j := 0) hn rfl) rfl rfl (Nat.le_of_ble_eq_true rfl)) rfl rfl rfl ?_
  refine me1 (pc' := 61) dm_X12_keep_60 rfl rfl rfl rfl ?_
  refine me3 (pc' := 62) dm_X12_keep_61 (g_lald (v := (0 : Int64)) (lu (n := 102) (j := 8) hn rfl) rfl (by decide) rfl (Nat.le_of_ble_eq_true rfl)) rfl rfl rfl ?_
  refine me3 (pc' := 63) dm_X12_keep_62 (u_last (n := 102) (j := 12) hn rfl rfl (by decide) rfl (Nat.le_of_ble_eq_true rfl)) rfl rfl rfl ?_
  refine me1 (pc' := 64) dm_X12_keep_63 rfl rfl rfl rfl ?_
  refine me3 (pc' := 67) dm_X12_keep_64 (g_get (v := .ref 115) (lu (n := 102) (j := 0) hn rfl) rfl rfl (Nat.le_of_ble_eq_true rfl)) rfl rfl rfl ?_
  refine me0 (pc' := 69) (S' := .int (80 : Int32) :: _) dm_X12_keep_67 rfl rfl rfl rfl ?_
  refine me1 (pc' := 70) dm_X12_keep_69 rfl rfl rfl rfl ?_
  refine me0 (pc' := 71) (S' := .int (0 : Int32) :: _) dm_X12_keep_70 rfl rfl rfl rfl ?_
  refine me1 (pc' := 72) dm_X12_keep_71 rfl rfl rfl rfl ?_
  refine me0 (pc' := 73) (S' := .int (26 : Int32) :: _) dm_X12_keep_72 rfl rfl rfl rfl ?_
  refine me1 (pc' := 74) dm_X12_keep_73 rfl rfl rfl rfl ?_
  refine me3 (pc' := 77) dm_X12_keep_74 (g_get (v := .ref 112) (lu (n := 102) (j := 0) hn rfl) rfl rfl (Nat.le_of_ble_eq_true rfl)) rfl rfl rfl ?_
  refine me1 (pc' := 78) dm_X12_keep_77 rfl rfl rfl rfl ?_
  refine me3 (pc' := 79) dm_X12_keep_78 (g_iald (v := (0 : Int32)) (lu (n := 102) (j := 10) hn rfl) rfl (by decide) rfl (Nat.le_of_ble_eq_true rfl)) rfl rfl rfl ?_
  refine me3 (pc' := 80) dm_X12_keep_79 (u_iast (n := 102) (j := 13) hn rfl rfl (by decide) rfl (Nat.le_of_ble_eq_true rfl)) rfl rfl rfl ?_
  refine me1 (pc' := 81) dm_X12_keep_80 rfl rfl rfl rfl ?_
  refine me3 (pc' := 84) dm_X12_keep_81 (g_get (v := .ref 114) (lu (n := 102) (j := 0) hn rfl) rfl rfl (Nat.le_of_ble_eq_true rfl)) rfl rfl rfl ?_
  refine me0 (pc' := 86) (S' := .int (80 : Int32) :: _) dm_X12_keep_84 rfl rfl rfl rfl ?_
  refine me1 (pc' := 87) dm_X12_keep_86 rfl rfl rfl rfl ?_
  refine me0 (pc' := 88) (S' := .int (0 : Int32) :: _) dm_X12_keep_87 rfl rfl rfl rfl ?_
  refine me0 (pc' := 90) (S' := .int (40 : Int32) :: _) dm_X12_keep_88 rfl rfl rfl rfl ?_
  refine me0 (pc' := 91) (S' := .int (40 : Int32) :: _) dm_X12_keep_90 rfl rfl rfl rfl ?_
  refine me1 (pc' := 92) dm_X12_keep_91 rfl rfl rfl rfl ?_
  refine me0 (pc' := 93) (S' := .int (66 : Int32) :: _) dm_X12_keep_92 rfl rfl rfl rfl ?_
  refine me1 (pc' := 94) dm_X12_keep_93 rfl rfl rfl rfl ?_
  refine me3 (pc' := 97) dm_X12_keep_94 (g_get (v := .ref 111) (lu (n := 102) (j := 0) hn rfl) rfl rfl (Nat.le_of_ble_eq_true rfl)) rfl rfl rfl ?_
  refine me1 (pc' := 98) dm_X12_keep_97 rfl rfl rfl rfl ?_
  refine me3 (pc' := 99) dm_X12_keep_98 (g_lald (v := (0 : Int64)) (lu (n := 102) (j := 9) hn rfl) rfl (by decide) rfl (Nat.le_of_ble_eq_true rfl)) rfl rfl rfl ?_
  refine me3 (pc' := 100) dm_X12_keep_99 (u_last (n := 102) (j := 12) hn rfl rfl (by decide) rfl (Nat.le_of_ble_eq_true rfl)) rfl rfl rfl ?_
  refine me1 (pc' := 101) dm_X12_keep_100 rfl rfl rfl rfl ?_
  refine me3 (pc' := 104) dm_X12_keep_101 (g_get (v := .ref 115) (lu (n := 102) (j := 0) hn rfl) rfl rfl (Nat.le_of_ble_eq_true rfl)) rfl rfl rfl ?_
  refine me0 (pc' := 106) (S' := .int (80 : Int32) :: _) dm_X12_keep_104 rfl rfl rfl rfl ?_
  refine me1 (pc' := 107) dm_X12_keep_106 rfl rfl rfl rfl ?_
  refine me0 (pc' := 108) (S' := .int (0 : Int32) :: _) dm_X12_keep_107 rfl rfl rfl rfl ?_
  refine me0 (pc' := 110) (S' := .int (40 : Int32) :: _) dm_X12_keep_108 rfl rfl rfl rfl ?_
  refine me0 (pc' := 111) (S' := .int (40 : Int32) :: _) dm_X12_keep_110 rfl rfl rfl rfl ?_
  refine me1 (pc' := 112) dm_X12_keep_111 rfl rfl rfl rfl ?_
  refine me0 (pc' := 113) (S' := .int (66 : Int32) :: _) dm_X12_keep_112 rfl rfl rfl rfl ?_
  refine me1 (pc' := 114) dm_X12_keep_113 rfl rfl rfl rfl ?_
  refine me3 (pc' := 117) dm_X12_keep_114 (g_get (v := .ref 113) (lu (n := 102) (j := 0) hn rfl) rfl rfl (Nat.le_of_ble_eq_true rfl)) rfl rfl rfl ?_
  refine me1 (pc' := 118) dm_X12_keep_117 rfl rfl rfl rfl ?_
  refine me3 (pc' := 119) dm_X12_keep_118 (g_iald (v := (0 : Int32)) (lu (n := 102) (j := 11) hn rfl) rfl (by decide) rfl (Nat.le_of_ble_eq_true rfl)) rfl rfl rfl ?_
  refine me3 (pc' := 120) dm_X12_keep_119 (u_iast (n := 102) (j := 13) hn rfl rfl (by decide) rfl (Nat.le_of_ble_eq_true rfl)) rfl rfl rfl ?_
  refine me1 (pc' := 123) (L' := [(2, .int (27 : Int32)), (0, .ref 102), (1, .int (0 : Int32))]) dm_X12_keep_120 rfl rfl rfl rfl ?_
  refine me2 (pc' := 40) dm_X12_keep_123 rfl rfl rfl ?_
  refine me1 (pc' := 41) dm_X12_keep_40 rfl rfl rfl rfl ?_
  refine me0 (pc' := 43) (S' := .int (40 : Int32) :: _) dm_X12_keep_41 rfl rfl rfl rfl ?_
  refine me_2f (pc' := 46) dm_X12_keep_43 rfl (by decide) rfl ?_
  refine me1 (pc' := 47) dm_X12_keep_46 rfl rfl rfl rfl ?_
  refine me3 (pc' := 50) dm_X12_keep_47 (g_get (v := .ref 114) (lu (n := 102) (j := 0) hn rfl) rfl rfl (Nat.le_of_ble_eq_true rfl)) rfl rfl rfl ?_
  refine me0 (pc' := 52) (S' := .int (80 : Int32) :: _) dm_X12_keep_50 rfl rfl rfl rfl ?_
  refine me1 (pc' := 53) dm_X12_keep_52 rfl rfl rfl rfl ?_
  refine me0 (pc' := 54) (S' := .int (0 : Int32) :: _) dm_X12_keep_53 rfl rfl rfl rfl ?_
  refine me1 (pc' := 55) dm_X12_keep_54 rfl rfl rfl rfl ?_
  refine me0 (pc' := 56) (S' := .int (27 : Int32) :: _) dm_X12_keep_55 rfl rfl rfl rfl ?_
  refine me1 (pc' := 57) dm_X12_keep_56 rfl rfl rfl rfl ?_
  refine me3 (pc' := 60) dm_X12_keep_57 (g_get (v := .ref 110) (lu (n := 102) (j := 0) hn rfl) rfl rfl (Nat.le_of_ble_eq_true rfl)) rfl rfl rfl ?_
  refine me1 (pc' := 61) dm_X12_keep_60 rfl rfl rfl rfl ?_
  refine me3 (pc' := 62) dm_X12_keep_61 (g_lald (v := (0 : Int64)) (lu (n := 102) (j := 8) hn rfl) rfl (by decide) rfl (Nat.le_of_ble_eq_true rfl)) rfl rfl rfl ?_
  refine me3 (pc' := 63) dm_X12_keep_62 (u_last (n := 102) (j := 12) hn rfl rfl (by decide) rfl (Nat.le_of_ble_eq_true rfl)) rfl rfl rfl ?_
  refine me1 (pc' := 64) dm_X12_keep_63 rfl rfl rfl rfl ?_
  refine me3 (pc' := 67) dm_X12_keep_64 (g_get (v := .ref 115) (lu (n := 102) (j := 0) hn rfl) rfl rfl (Nat.le_of_ble_eq_true rfl)) rfl rfl rfl ?_
  refine me0 (pc' := 69) (S' := .int (80 : Int32) :: _) dm_X12_keep_67 rfl rfl rfl rfl ?_
  refine me1 (pc' := 70) dm_X12_keep_69 rfl rfl rfl rfl ?_
  refine me0 (pc' := 71) (S' := .int (0 : Int32) :: _) dm_X12_keep_70 rfl rfl rfl rfl ?_
  refine me1 (pc' := 72) dm_X12_keep_71 rfl rfl rfl rfl ?_
  refine me0 (pc' := 73) (S' := .int (27 : Int32) :: _) dm_X12_keep_72 rfl rfl rfl rfl ?_
  refine me1 (pc' := 74) dm_X12_keep_73 rfl rfl rfl rfl ?_
  refine me3 (pc' := 77) dm_X12_keep_74 (g_get (v := .ref 112) (lu (n := 102) (j := 0) hn rfl) rfl rfl (Nat.le_of_ble_eq_true rfl)) rfl rfl rfl ?_
  refine me1 (pc' := 78) dm_X12_keep_77 rfl rfl rfl rfl ?_
  refine me3 (pc' := 79) dm_X12_keep_78 (g_iald (v := (0 : Int32)) (lu (n := 102) (j := 10) hn rfl) rfl (by decide) rfl (Nat.le_of_ble_eq_true rfl)) rfl rfl rfl ?_
  refine me3 (pc' := 80) dm_X12_keep_79 (u_iast (n := 102) (j := 13) hn rfl rfl (by decide) rfl (Nat.le_of_ble_eq_true rfl)) rfl rfl rfl ?_
  refine me1 (pc' := 81) dm_X12_keep_80 rfl rfl rfl rfl ?_
  refine me3 (pc' := 84) dm_X12_keep_81 (g_get (v := .ref 114) (lu (n := 102) (j := 0) hn rfl) rfl rfl (Nat.le_of_ble_eq_true rfl)) rfl rfl rfl ?_
  refine me0 (pc' := 86) (S' := .int (80 : Int32) :: _) dm_X12_keep_84 rfl rfl rfl rfl ?_
  refine me1 (pc' := 87) dm_X12_keep_86 rfl rfl rfl rfl ?_
  refine me0 (pc' := 88) (S' := .int (0 : Int32) :: _) dm_X12_keep_87 rfl rfl rfl rfl ?_
  refine me0 (pc' := 90) (S' := .int (40 : Int32) :: _) dm_X12_keep_88 rfl rfl rfl rfl ?_
  refine me0 (pc' := 91) (S' := .int (40 : Int32) :: _) dm_X12_keep_90 rfl rfl rfl rfl ?_
  refine me1 (pc' := 92) dm_X12_keep_91 rfl rfl rfl rfl ?_
  refine me0 (pc' := 93) (S' := .int (67 : Int32) :: _) dm_X12_keep_92 rfl rfl rfl rfl ?_
  refine me1 (pc' := 94) dm_X12_keep_93 rfl rfl rfl rfl ?_
  refine me3 (pc' := 97) dm_X12_keep_94 (g_get (v := .ref 111) (lu (n := 102) (j := 0) hn rfl) rfl rfl (Nat.le_of_ble_eq_true rfl)) rfl rfl rfl ?_
  refine me1 (pc' := 98) dm_X12_keep_97 rfl rfl rfl rfl ?_
  refine me3 (pc' := 99) dm_X12_keep_98 (g_lald (v := (0 : Int64)) (lu (n := 102) (j := 9) hn rfl) rfl (by decide) rfl (Nat.le_of_ble_eq_true rfl)) rfl rfl rfl ?_
  refine me3 (pc' := 100) dm_X12_keep_99 (u_last (n := 102) (j := 12) hn rfl rfl (by decide) rfl (Nat.le_of_ble_eq_true rfl)) rfl rfl rfl ?_
  refine me1 (pc' := 101) dm_X12_keep_100 rfl rfl rfl rfl ?_
  refine me3 (pc' := 104) dm_X12_keep_101 (g_get (v := .ref 115) (lu (n := 102) (j := 0) hn rfl) rfl rfl (Nat.le_of_ble_eq_true rfl)) rfl rfl rfl ?_
  refine me0 (pc' := 106) (S' := .int (80 : Int32) :: _) dm_X12_keep_104 rfl rfl rfl rfl ?_
  refine me1 (pc' := 107) dm_X12_keep_106 rfl rfl rfl rfl ?_
  refine me0 (pc' := 108) (S' := .int (0 : Int32) :: _) dm_X12_keep_107 rfl rfl rfl rfl ?_
  refine me0 (pc' := 110) (S' := .int (40 : Int32) :: _) dm_X12_keep_108 rfl rfl rfl rfl ?_
  refine me0 (pc' := 111) (S' := .int (40 : Int32) :: _) dm_X12_keep_110 rfl rfl rfl rfl ?_
  refine me1 (pc' := 112) dm_X12_keep_111 rfl rfl rfl rfl ?_
  refine me0 (pc' := 113) (S' := .int (67 : Int32) :: _) dm_X12_keep_112 rfl rfl rfl rfl ?_
  refine me1 (pc' := 114) dm_X12_keep_113 rfl rfl rfl rfl ?_
  refine me3 (pc' := 117) dm_X12_keep_114 (g_get (v := .ref 113) (lu (n := 102) (j := 0) hn rfl) rfl rfl (Nat.le_of_ble_eq_true rfl)) rfl rfl rfl ?_
  refine me1 (pc' := 118) dm_X12_keep_117 rfl rfl rfl rfl ?_
  refine me3 (pc' := 119) dm_X12_keep_118 (g_iald (v := (0 : Int32)) (lu (n := 102) (j := 11) hn rfl) rfl (by decide) rfl (Nat.le_of_ble_eq_true rfl)) rfl rfl rfl ?_
  refine me3 (pc' := 120) dm_X12_keep_119 (u_iast (n := 102) (j := 13) hn rfl rfl (by decide) rfl (Nat.le_of_ble_eq_true rfl)) rfl rfl rfl ?_
  refine me1 (pc' := 123) (L' := [(2, .int (28 : Int32)), (0, .ref 102), (1, .int (0 : Int32))]) dm_X12_keep_120 rfl rfl rfl rfl ?_
  refine me2 (pc' := 40) dm_X12_keep_123 rfl rfl rfl ?_
  refine me1 (pc' := 41) dm_X12_keep_40 rfl rfl rfl rfl ?_
  refine me0 (pc' := 43) (S' := .int (40 : Int32) :: _) dm_X12_keep_41 rfl rfl rfl rfl ?_
  refine me_2f (pc' := 46) dm_X12_keep_43 rfl (by decide) rfl ?_
  refine me1 (pc' := 47) dm_X12_keep_46 rfl rfl rfl rfl ?_
  refine me3 (pc' := 50) dm_X12_keep_47 (g_get (v := .ref 114) (lu (n := 102) (j := 0) hn rfl) rfl rfl (Nat.le_of_ble_eq_true rfl)) rfl rfl rfl ?_
  refine me0 (pc' := 52) (S' := .int (80 : Int32) :: _) dm_X12_keep_50 rfl rfl rfl rfl ?_
  refine me1 (pc' := 53) dm_X12_keep_52 rfl rfl rfl rfl ?_
  refine me0 (pc' := 54) (S' := .int (0 : Int32) :: _) dm_X12_keep_53 rfl rfl rfl rfl ?_
  refine me1 (pc' := 55) dm_X12_keep_54 rfl rfl rfl rfl ?_
  refine me0 (pc' := 56) (S' := .int (28 : Int32) :: _) dm_X12_keep_55 rfl rfl rfl rfl ?_
  refine me1 (pc' := 57) dm_X12_keep_56 rfl rfl rfl rfl ?_
  refine me3 (pc' := 60) dm_X12_keep_57 (g_get (v := .ref 110) (lu (n := 102) (j := 0) hn rfl) rfl rfl (Nat.le_of_ble_eq_true rfl)) rfl rfl rfl ?_
  refine me1 (pc' := 61) dm_X12_keep_60 rfl rfl rfl rfl ?_
  refine me3 (pc' := 62) dm_X12_keep_61 (g_lald (v := (0 : Int64)) (lu (n := 102) (j := 8) hn rfl) rfl (by decide) rfl (Nat.le_of_ble_eq_true rfl)) rfl rfl rfl ?_
  refine me3 (pc' := 63) dm_X12_keep_62 (u_last (n := 102) (j := 12) hn rfl rfl (by decide) rfl (Nat.le_of_ble_eq_true rfl)) rfl rfl rfl ?_
  refine me1 (pc' := 64) dm_X12_keep_63 rfl rfl rfl rfl ?_
  refine me3 (pc' := 67) dm_X12_keep_64 (g_get (v := .ref 115) (lu (n := 102) (j := 0) hn rfl) rfl rfl (Nat.le_of_ble_eq_true rfl)) rfl rfl rfl ?_
  refine me0 (pc' := 69) (S' := .int (80 : Int32) :: _) dm_X12_keep_67 rfl rfl rfl rfl ?_
  refine me1 (pc' := 70) dm_X12_keep_69 rfl rfl rfl rfl ?_
  refine me0 (pc' := 71) (S' := .int (0 : Int32) :: _) dm_X12_keep_70 rfl rfl rfl rfl ?_
  refine me1 (pc' := 72) dm_X12_keep_71 rfl rfl rfl rfl ?_
  refine me0 (pc' := 73) (S' := .int (28 : Int32) :: _) dm_X12_keep_72 rfl rfl rfl rfl ?_
  refine me1 (pc' := 74) dm_X12_keep_73 rfl rfl rfl rfl ?_
  refine me3 (pc' := 77) dm_X12_keep_74 (g_get (v := .ref 112) (lu (n := 102) (j := 0) hn rfl) rfl rfl (Nat.le_of_ble_eq_true rfl)) rfl rfl rfl ?_
  refine me1 (pc' := 78) dm_X12_keep_77 rfl rfl rfl rfl ?_
  refine me3 (pc' := 79) dm_X12_keep_78 (g_iald (v := (0 : Int32)) (lu (n := 102) (j := 10) hn rfl) rfl (by decide) rfl (Nat.le_of_ble_eq_true rfl)) rfl rfl rfl ?_
  refine me3 (pc' := 80) dm_X12_keep_79 (u_iast (n := 102) (j := 13) hn rfl rfl (by decide) rfl (Nat.le_of_ble_eq_true rfl)) rfl rfl rfl ?_
  refine me1 (pc' := 81) dm_X12_keep_80 rfl rfl rfl rfl ?_
  refine me3 (pc' := 84) dm_X12_keep_81 (g_get (v := .ref 114) (lu (n := 102) (j := 0) hn rfl) rfl rfl (Nat.le_of_ble_eq_true rfl)) rfl rfl rfl ?_
  refine me0 (pc' := 86) (S' := .int (80 : Int32) :: _) dm_X12_keep_84 rfl rfl rfl rfl ?_
  refine me1 (pc' := 87) dm_X12_keep_86 rfl rfl rfl rfl ?_
  refine me0 (pc' := 88) (S' := .int (0 : Int32) :: _) dm_X12_keep_87 rfl rfl rfl rfl ?_
  refine me0 (pc' := 90) (S' := .int (40 : Int32) :: _) dm_X12_keep_88 rfl rfl rfl rfl ?_
  refine me0 (pc' := 91) (S' := .int (40 : Int32) :: _) dm_X12_keep_90 rfl rfl rfl rfl ?_
  refine me1 (pc' := 92) dm_X12_keep_91 rfl rfl rfl rfl ?_
  refine me0 (pc' := 93) (S' := .int (68 : Int32) :: _) dm_X12_keep_92 rfl rfl rfl rfl ?_
  refine me1 (pc' := 94) dm_X12_keep_93 rfl rfl rfl rfl ?_
  refine me3 (pc' := 97) dm_X12_keep_94 (g_get (v := .ref 111) (lu (n := 102) (j := 0) hn rfl) rfl rfl (Nat.le_of_ble_eq_true rfl)) rfl rfl rfl ?_
  refine me1 (pc' := 98) dm_X12_keep_97 rfl rfl rfl rfl ?_
  refine me3 (pc' := 99) dm_X12_keep_98 (g_lald (v := (0 : Int64)) (lu (n := 102) (j := 9) hn rfl) rfl (by decide) rfl (Nat.le_of_ble_eq_true rfl)) rfl rfl rfl ?_
  refine me3 (pc' := 100) dm_X12_keep_99 (u_last (n := 102) (j := 12) hn rfl rfl (by decide) rfl (Nat.le_of_ble_eq_true rfl)) rfl rfl rfl ?_
  refine me1 (pc' := 101) dm_X12_keep_100 rfl rfl rfl rfl ?_
  refine me3 (pc' := 104) dm_X12_keep_101 (g_get (v := .ref 115) (lu (n := 102) (j := 0) hn rfl) rfl rfl (Nat.le_of_ble_eq_true rfl)) rfl rfl rfl ?_
  refine me0 (pc' := 106) (S' := .int (80 : Int32) :: _) dm_X12_keep_104 rfl rfl rfl rfl ?_
  refine me1 (pc' := 107) dm_X12_keep_106 rfl rfl rfl rfl ?_
  refine me0 (pc' := 108) (S' := .int (0 : Int32) :: _) dm_X12_keep_107 rfl rfl rfl rfl ?_
  refine me0 (pc' := 110) (S' := .int (40 : Int32) :: _) dm_X12_keep_108 rfl rfl rfl rfl ?_
  refine me0 (pc' := 111) (S' := .int (40 : Int32) :: _) dm_X12_keep_110 rfl rfl rfl rfl ?_
  refine me1 (pc' := 112) dm_X12_keep_111 rfl rfl rfl rfl ?_
  refine me0 (pc' := 113) (S' := .int (68 : Int32) :: _) dm_X12_keep_112 rfl rfl rfl rfl ?_
  refine me1 (pc' := 114) dm_X12_keep_113 rfl rfl rfl rfl ?_
  refine me3 (pc' := 117) dm_X12_keep_114 (g_get (v := .ref 113) (lu (n := 102) (j := 0) hn rfl) rfl rfl (Nat.le_of_ble_eq_true rfl)) rfl rfl rfl ?_
  refine me1 (pc' := 118) dm_X12_keep_117 rfl rfl rfl rfl ?_
  refine me3 (pc' := 119) dm_X12_keep_118 (g_iald (v := (0 : Int32)) (lu (n := 102) (j := 11) hn rfl) rfl (by decide) rfl (Nat.le_of_ble_eq_true rfl)) rfl rfl rfl ?_
  refine me3 (pc' := 120) dm_X12_keep_119 (u_iast (n := 102) (j := 13) hn rfl rfl (by decide) rfl (Nat.le_of_ble_eq_true rfl)) rfl rfl rfl ?_
  refine me1 (pc' := 123) (L' := [(2, .int (29 : Int32)), (0, .ref 102), (1, .int (0 : Int32))]) dm_X12_keep_120 rfl rfl rfl rfl ?_
  refine me2 (pc' := 40) dm_X12_keep_123 rfl rfl rfl ?_
  refine me1 (pc' := 41) dm_X12_keep_40 rfl rfl rfl rfl ?_
  refine me0 (pc' := 43) (S' := .int (40 : Int32) :: _) dm_X12_keep_41 rfl rfl rfl rfl ?_
  refine me_2f (pc' := 46) dm_X12_keep_43 rfl (by decide) rfl ?_
  refine me1 (pc' := 47) dm_X12_keep_46 rfl rfl rfl rfl ?_
  refine me3 (pc' := 50) dm_X12_keep_47 (g_get (v := .ref 114) (lu (n := 102) (j := 0) hn rfl) rfl rfl (Nat.le_of_ble_eq_true rfl)) rfl rfl rfl ?_
  refine me0 (pc' := 52) (S' := .int (80 : Int32) :: _) dm_X12_keep_50 rfl rfl rfl rfl ?_
  refine me1 (pc' := 53) dm_X12_keep_52 rfl rfl rfl rfl ?_
  refine me0 (pc' := 54) (S' := .int (0 : Int32) :: _) dm_X12_keep_53 rfl rfl rfl rfl ?_
  refine me1 (pc' := 55) dm_X12_keep_54 rfl rfl rfl rfl ?_
  refine me0 (pc' := 56) (S' := .int (29 : Int32) :: _) dm_X12_keep_55 rfl rfl rfl rfl ?_
  refine me1 (pc' := 57) dm_X12_keep_56 rfl rfl rfl rfl ?_
  refine me3 (pc' := 60) dm_X12_keep_57 (g_get (v := .ref 110) (lu (n := 102) (j := 0) hn rfl) rfl rfl (Nat.le_of_ble_eq_true rfl)) rfl rfl rfl ?_
  refine me1 (pc' := 61) dm_X12_keep_60 rfl rfl rfl rfl ?_
  refine me3 (pc' := 62) dm_X12_keep_61 (g_lald (v := (0 : Int64)) (lu (n := 102) (j := 8) hn rfl) rfl (by decide) rfl (Nat.le_of_ble_eq_true rfl)) rfl rfl rfl ?_
  refine me3 (pc' := 63) dm_X12_keep_62 (u_last (n := 102) (j := 12) hn rfl rfl (by decide) rfl (Nat.le_of_ble_eq_true rfl)) rfl rfl rfl ?_
  refine me1 (pc' := 64) dm_X12_keep_63 rfl rfl rfl rfl ?_
  refine me3 (pc' := 67) dm_X12_keep_64 (g_get (v := .ref 115) (lu (n := 102) (j := 0) hn rfl) rfl rfl (Nat.le_of_ble_eq_true rfl)) rfl rfl rfl ?_
  refine me0 (pc' := 69) (S' := .int (80 : Int32) :: _) dm_X12_keep_67 rfl rfl rfl rfl ?_
  refine me1 (pc' := 70) dm_X12_keep_69 rfl rfl rfl rfl ?_
  refine me0 (pc' := 71) (S' := .int (0 : Int32) :: _) dm_X12_keep_70 rfl rfl rfl rfl ?_
  refine me1 (pc' := 72) dm_X12_keep_71 rfl rfl rfl rfl ?_
  refine me0 (pc' := 73) (S' := .int (29 : Int32) :: _) dm_X12_keep_72 rfl rfl rfl rfl ?_
  refine me1 (pc' := 74) dm_X12_keep_73 rfl rfl rfl rfl ?_
  refine me3 (pc' := 77) dm_X12_keep_74 (g_get (v := .ref 112) (lu (n := 102) (j := 0) hn rfl) rfl rfl (Nat.le_of_ble_eq_true rfl)) rfl rfl rfl ?_
  refine me1 (pc' := 78) dm_X12_keep_77 rfl rfl rfl rfl ?_
  refine me3 (pc' := 79) dm_X12_keep_78 (g_iald (v := (0 : Int32)) (lu (n := 102) (j := 10) hn rfl) rfl (by decide) rfl (Nat.le_of_ble_eq_true rfl)) rfl rfl rfl ?_
  refine me3 (pc' := 80) dm_X12_keep_79 (u_iast (n := 102) (j := 13) hn rfl rfl (by decide) rfl (Nat.le_of_ble_eq_true rfl)) rfl rfl rfl ?_
  refine me1 (pc' := 81) dm_X12_keep_80 rfl rfl rfl rfl ?_
  refine me3 (pc' := 84) dm_X12_keep_81 (g_get (v := .ref 114) (lu (n := 102) (j := 0) hn rfl) rfl rfl (Nat.le_of_ble_eq_true rfl)) rfl rfl rfl ?_
  refine me0 (pc' := 86) (S' := .int (80 : Int32) :: _) dm_X12_keep_84 rfl rfl rfl rfl ?_
  refine me1 (pc' := 87) dm_X12_keep_86 rfl rfl rfl rfl ?_
  refine me0 (pc' := 88) (S' := .int (0 : Int32) :: _) dm_X12_keep_87 rfl rfl rfl rfl ?_
  refine me0 (pc' := 90) (S' := .int (40 : Int32) :: _) dm_X12_keep_88 rfl rfl rfl rfl ?_
  refine me0 (pc' := 91) (S' := .int (40 : Int32) :: _) dm_X12_keep_90 rfl rfl rfl rfl ?_
  refine me1 (pc' := 92) dm_X12_keep_91 rfl rfl rfl rfl ?_
  refine me0 (pc' := 93) (S' := .int (69 : Int32) :: _) dm_X12_keep_92 rfl rfl rfl rfl ?_
  refine me1 (pc' := 94) dm_X12_keep_93 rfl rfl rfl rfl ?_
  refine me3 (pc' := 97) dm_X12_keep_94 (g_get (v := .ref 111) (lu (n := 102) (j := 0) hn rfl) rfl rfl (Nat.le_of_ble_eq_true rfl)) rfl rfl rfl ?_
  refine me1 (pc' := 98) dm_X12_keep_97 rfl rfl rfl rfl ?_
  refine me3 (pc' := 99) dm_X12_keep_98 (g_lald (v := (0 : Int64)) (lu (n := 102) (j := 9) hn rfl) rfl (by decide) rfl (Nat.le_of_ble_eq_true rfl)) rfl rfl rfl ?_
  refine me3 (pc' := 100) dm_X12_keep_99 (u_last (n := 102) (j := 12) hn rfl rfl (by decide) rfl (Nat.le_of_ble_eq_true rfl)) rfl rfl rfl ?_
  refine me1 (pc' := 101) dm_X12_keep_100 rfl rfl rfl rfl ?_
  refine me3 (pc' := 104) dm_X12_keep_101 (g_get (v := .ref 115) (lu (n := 102) (j := 0) hn rfl) rfl rfl (Nat.le_of_ble_eq_true rfl)) rfl rfl rfl ?_
  refine me0 (pc' := 106) (S' := .int (80 : Int32) :: _) dm_X12_keep_104 rfl rfl rfl rfl ?_
  refine me1 (pc' := 107) dm_X12_keep_106 rfl rfl rfl rfl ?_
  refine me0 (pc' := 108) (S' := .int (0 : Int32) :: _) dm_X12_keep_107 rfl rfl rfl rfl ?_
  refine me0 (pc' := 110) (S' := .int (40 : Int32) :: _) dm_X12_keep_108 rfl rfl rfl rfl ?_
  refine me0 (pc' := 111) (S' := .int (40 : Int32) :: _) dm_X12_keep_110 rfl rfl rfl rfl ?_
  refine me1 (pc' := 112) dm_X12_keep_111 rfl rfl rfl rfl ?_
  refine me0 (pc' := 113) (S' := .int (69 : Int32) :: _) dm_X12_keep_112 rfl rfl rfl rfl ?_
  refine me1 (pc' := 114) dm_X12_keep_113 rfl rfl rfl rfl ?_
  refine me3 (pc' := 117) dm_X12_keep_114 (g_get (v := .ref 113) (lu (n := 102) (j := 0) hn rfl) rfl rfl (Nat.le_of_ble_eq_true rfl)) rfl rfl rfl ?_
  refine me1 (pc' := 118) dm_X12_keep_117 rfl rfl rfl rfl ?_
  refine me3 (pc' := 119) dm_X12_keep_118 (g_iald (v := (0 : Int32)) (lu (n := 102) (j := 11) hn rfl) rfl (by decide) rfl (Nat.le_of_ble_eq_true rfl)) rfl rfl rfl ?_
  refine me3 (pc' := 120) dm_X12_keep_119 (u_iast (n := 102) (j := 13) hn rfl rfl (by decide) rfl (Nat.le_of_ble_eq_true rfl)) rfl rfl rfl ?_
  refine me1 (pc' := 123) (L' := [(2, .int (30 : Int32)), (0, .ref 102), (1, .int (0 : Int32))]) dm_X12_keep_120 rfl rfl rfl rfl ?_
  refine me2 (pc' := 40) dm_X12_keep_123 rfl rfl rfl ?_
  refine me1 (pc' := 41) dm_X12_keep_40 rfl rfl rfl rfl ?_
  refine me0 (pc' := 43) (S' := .int (40 : Int32) :: _) dm_X12_keep_41 rfl rfl rfl rfl ?_
  refine me_2f (pc' := 46) dm_X12_keep_43 rfl (by decide) rfl ?_
  refine me1 (pc' := 47) dm_X12_keep_46 rfl rfl rfl rfl ?_
  refine me3 (pc' := 50) dm_X12_keep_47 (g_get (v := .ref 114) (lu (n := 102) (j := 0) hn rfl) rfl rfl (Nat.le_of_ble_eq_true rfl)) rfl rfl rfl ?_
  refine me0 (pc' := 52) (S' := .int (80 : Int32) :: _) dm_X12_keep_50 rfl rfl rfl rfl ?_
  refine me1 (pc' := 53) dm_X12_keep_52 rfl rfl rfl rfl ?_
  refine me0 (pc' := 54) (S' := .int (0 : Int32) :: _) dm_X12_keep_53 rfl rfl rfl rfl ?_
  refine me1 (pc' := 55) dm_X12_keep_54 rfl rfl rfl rfl ?_
  refine me0 (pc' := 56) (S' := .int (30 : Int32) :: _) dm_X12_keep_55 rfl rfl rfl rfl ?_
  refine me1 (pc' := 57) dm_X12_keep_56 rfl rfl rfl rfl ?_
  refine me3 (pc' := 60) dm_X12_keep_57 (g_get (v := .ref 110) (lu (n := 102) (j := 0) hn rfl) rfl rfl (Nat.le_of_ble_eq_true rfl)) rfl rfl rfl ?_
  refine me1 (pc' := 61) dm_X12_keep_60 rfl rfl rfl rfl ?_
  refine me3 (pc' := 62) dm_X12_keep_61 (g_lald (v := (0 : Int64)) (lu (n := 102) (j := 8) hn rfl) rfl (by decide) rfl (Nat.le_of_ble_eq_true rfl)) rfl rfl rfl ?_
  refine me3 (pc' := 63) dm_X12_keep_62 (u_last (n := 102) (j := 12) hn rfl rfl (by decide) rfl (Nat.le_of_ble_eq_true rfl)) rfl rfl rfl ?_
  refine me1 (pc' := 64) dm_X12_keep_63 rfl rfl rfl rfl ?_
  refine me3 (pc' := 67) dm_X12_keep_64 (g_get (v := .ref 115) (lu (n := 102) (j := 0) hn rfl) rfl rfl (Nat.le_of_ble_eq_true rfl)) rfl rfl rfl ?_
  refine me0 (pc' := 69) (S' := .int (80 : Int32) :: _) dm_X12_keep_67 rfl rfl rfl rfl ?_
  refine me1 (pc' := 70) dm_X12_keep_69 rfl rfl rfl rfl ?_
  refine me0 (pc' := 71) (S' := .int (0 : Int32) :: _) dm_X12_keep_70 rfl rfl rfl rfl ?_
  refine me1 (pc' := 72) dm_X12_keep_71 rfl rfl rfl rfl ?_
  refine me0 (pc' := 73) (S' := .int (30 : Int32) :: _) dm_X12_keep_72 rfl rfl rfl rfl ?_
  refine me1 (pc' := 74) dm_X12_keep_73 rfl rfl rfl rfl ?_
  refine me3 (pc' := 77) dm_X12_keep_74 (g_get (v := .ref 112) (lu (n := 102) (j := 0) hn rfl) rfl rfl (Nat.le_of_ble_eq_true rfl)) rfl rfl rfl ?_
  refine me1 (pc' := 78) dm_X12_keep_77 rfl rfl rfl rfl ?_
  refine me3 (pc' := 79) dm_X12_keep_78 (g_iald (v := (0 : Int32)) (lu (n := 102) (j := 10) hn rfl) rfl (by decide) rfl (Nat.le_of_ble_eq_true rfl)) rfl rfl rfl ?_
  refine me3 (pc' := 80) dm_X12_keep_79 (u_iast (n := 102) (j := 13) hn rfl rfl (by decide) rfl (Nat.le_of_ble_eq_true rfl)) rfl rfl rfl ?_
  refine me1 (pc' := 81) dm_X12_keep_80 rfl rfl rfl rfl ?_
  refine me3 (pc' := 84) dm_X12_keep_81 (g_get (v := .ref 114) (lu (n := 102) (j := 0) hn rfl) rfl rfl (Nat.le_of_ble_eq_true rfl)) rfl rfl rfl ?_
  refine me0 (pc' := 86) (S' := .int (80 : Int32) :: _) dm_X12_keep_84 rfl rfl rfl rfl ?_
  refine me1 (pc' := 87) dm_X12_keep_86 rfl rfl rfl rfl ?_
  refine me0 (pc' := 88) (S' := .int (0 : Int32) :: _) dm_X12_keep_87 rfl rfl rfl rfl ?_
  refine me0 (pc' := 90) (S' := .int (40 : Int32) :: _) dm_X12_keep_88 rfl rfl rfl rfl ?_
  refine me0 (pc' := 91) (S' := .int (40 : Int32) :: _) dm_X12_keep_90 rfl rfl rfl rfl ?_
  refine me1 (pc' := 92) dm_X12_keep_91 rfl rfl rfl rfl ?_
  refine me0 (pc' := 93) (S' := .int (70 : Int32) :: _) dm_X12_keep_92 rfl rfl rfl rfl ?_
  refine me1 (pc' := 94) dm_X12_keep_93 rfl rfl rfl rfl ?_
  refine me3 (pc' := 97) dm_X12_keep_94 (g_get (v := .ref 111) (lu (n := 102) (j := 0) hn rfl) rfl rfl (Nat.le_of_ble_eq_true rfl)) rfl rfl rfl ?_
  refine me1 (pc' := 98) dm_X12_keep_97 rfl rfl rfl rfl ?_
  refine me3 (pc' := 99) dm_X12_keep_98 (g_lald (v := (0 : Int64)) (lu (n := 102) (j := 9) hn rfl) rfl (by decide) rfl (Nat.le_of_ble_eq_true rfl)) rfl rfl rfl ?_
  refine me3 (pc' := 100) dm_X12_keep_99 (u_last (n := 102) (j := 12) hn rfl rfl (by decide) rfl (Nat.le_of_ble_eq_true rfl)) rfl rfl rfl ?_
  refine me1 (pc' := 101) dm_X12_keep_100 rfl rfl rfl rfl ?_
  refine me3 (pc' := 104) dm_X12_keep_101 (g_get (v := .ref 115) (lu (n := 102) (j := 0) hn rfl) rfl rfl (Nat.le_of_ble_eq_true rfl)) rfl rfl rfl ?_
  refine me0 (pc' := 106) (S' := .int (80 : Int32) :: _) dm_X12_keep_104 rfl rfl rfl rfl ?_
  refine me1 (pc' := 107) dm_X12_keep_106 rfl rfl rfl rfl ?_
  refine me0 (pc' := 108) (S' := .int (0 : Int32) :: _) dm_X12_keep_107 rfl rfl rfl rfl ?_
  refine me0 (pc' := 110) (S' := .int (40 : Int32) :: _) dm_X12_keep_108 rfl rfl rfl rfl ?_
  refine me0 (pc' := 111) (S' := .int (40 : Int32) :: _) dm_X12_keep_110 rfl rfl rfl rfl ?_
  refine me1 (pc' := 112) dm_X12_keep_111 rfl rfl rfl rfl ?_
  refine me0 (pc' := 113) (S' := .int (70 : Int32) :: _) dm_X12_keep_112 rfl rfl rfl rfl ?_
  refine me1 (pc' := 114) dm_X12_keep_113 rfl rfl rfl rfl ?_
  refine me3 (pc' := 117) dm_X12_keep_114 (g_get (v := .ref 113) (lu (n := 102) (j := 0) hn rfl) rfl rfl (Nat.le_of_ble_eq_true rfl)) rfl rfl rfl ?_
  refine me1 (pc' := 118) dm_X12_keep_117 rfl rfl rfl rfl ?_
  refine me3 (pc' := 119) dm_X12_keep_118 (g_iald (v := (0 : Int32)) (lu (n := 102) (j := 11) hn rfl) rfl (by decide) rfl (Nat.le_of_ble_eq_true rfl)) rfl rfl rfl ?_
  refine me3 (pc' := 120) dm_X12_keep_119 (u_iast (n := 102) (j := 13) hn rfl rfl (by decide) rfl (Nat.le_of_ble_eq_true rfl)) rfl rfl rfl ?_
  refine me1 (pc' := 123) (L' := [(2, .int (31 : Int32)), (0, .ref 102), (1, .int (0 : Int32))]) dm_X12_keep_120 rfl rfl rfl rfl ?_
  refine me2 (pc' := 40) dm_X12_keep_123 rfl rfl rfl ?_
  refine me1 (pc' := 41) dm_X12_keep_40 rfl rfl rfl rfl ?_
  refine me0 (pc' := 43) (S' := .int (40 : Int32) :: _) dm_X12_keep_41 rfl rfl rfl rfl ?_
  refine me_2f (pc' := 46) dm_X12_keep_43 rfl (by decide) rfl ?_
  refine me1 (pc' := 47) dm_X12_keep_46 rfl rfl rfl rfl ?_
  refine me3 (pc' := 50) dm_X12_keep_47 (g_get (v := .ref 114) (lu (n := 102) (j := 0) hn rfl) rfl rfl (Nat.le_of_ble_eq_true rfl)) rfl rfl rfl ?_
  refine me0 (pc' := 52) (S' := .int (80 : Int32) :: _) dm_X12_keep_50 rfl rfl rfl rfl ?_
  refine me1 (pc' := 53) dm_X12_keep_52 rfl rfl rfl rfl ?_
  refine me0 (pc' := 54) (S' := .int (0 : Int32) :: _) dm_X12_keep_53 rfl rfl rfl rfl ?_
  refine me1 (pc' := 55) dm_X12_keep_54 rfl rfl rfl rfl ?_
  refine me0 (pc' := 56) (S' := .int (31 : Int32) :: _) dm_X12_keep_55 rfl rfl rfl rfl ?_
  refine me1 (pc' := 57) dm_X12_keep_56 rfl rfl rfl rfl ?_
  refine me3 (pc' := 60) dm_X12_keep_57 (g_get (v := .ref 110) (lu (n := 102) (j := 0) hn rfl) rfl rfl (Nat.le_of_ble_eq_true rfl)) rfl rfl rfl ?_
  refine me1 (pc' := 61) dm_X12_keep_60 rfl rfl rfl rfl ?_
  refine me3 (pc' := 62) dm_X12_keep_61 (g_lald (v := (0 : Int64)) (lu (n := 102) (j := 8) hn rfl) rfl (by decide) rfl (Nat.le_of_ble_eq_true rfl)) rfl rfl rfl ?_
  refine me3 (pc' := 63) dm_X12_keep_62 (u_last (n := 102) (j := 12) hn rfl rfl (by decide) rfl (Nat.le_of_ble_eq_true rfl)) rfl rfl rfl ?_
  refine me1 (pc' := 64) dm_X12_keep_63 rfl rfl rfl rfl ?_
  refine me3 (pc' := 67) dm_X12_keep_64 (g_get (v := .ref 115) (lu (n := 102) (j := 0) hn rfl) rfl rfl (Nat.le_of_ble_eq_true rfl)) rfl rfl rfl ?_
  refine me0 (pc' := 69) (S' := .int (80 : Int32) :: _) dm_X12_keep_67 rfl rfl rfl rfl ?_
  refine me1 (pc' := 70) dm_X12_keep_69 rfl rfl rfl rfl ?_
  refine me0 (pc' := 71) (S' := .int (0 : Int32) :: _) dm_X12_keep_70 rfl rfl rfl rfl ?_
  refine me1 (pc' := 72) dm_X12_keep_71 rfl rfl rfl rfl ?_
  refine me0 (pc' := 73) (S' := .int (31 : Int32) :: _) dm_X12_keep_72 rfl rfl rfl rfl ?_
  refine me1 (pc' := 74) dm_X12_keep_73 rfl rfl rfl rfl ?_
  refine me3 (pc' := 77) dm_X12_keep_74 (g_get (v := .ref 112) (lu (n := 102) (j := 0) hn rfl) rfl rfl (Nat.le_of_ble_eq_true rfl)) rfl rfl rfl ?_
  refine me1 (pc' := 78) dm_X12_keep_77 rfl rfl rfl rfl ?_
  refine me3 (pc' := 79) dm_X12_keep_78 (g_iald (v := (0 : Int32)) (lu (n := 102) (j := 10) hn rfl) rfl (by decide) rfl (Nat.le_of_ble_eq_true rfl)) rfl rfl rfl ?_
  refine me3 (pc' := 80) dm_X12_keep_79 (u_iast (n := 102) (j := 13) hn rfl rfl (by decide) rfl (Nat.le_of_ble_eq_true rfl)) rfl rfl rfl ?_
  refine me1 (pc' := 81) dm_X12_keep_80 rfl rfl rfl rfl ?_
  refine me3 (pc' := 84) dm_X12_keep_81 (g_get (v := .ref 114) (lu (n := 102) (j := 0) hn rfl) rfl rfl (Nat.le_of_ble_eq_true rfl)) rfl rfl rfl ?_
  refine me0 (pc' := 86) (S' := .int (80 : Int32) :: _) dm_X12_keep_84 rfl rfl rfl rfl ?_
  refine me1 (pc' := 87) dm_X12_keep_86 rfl rfl rfl rfl ?_
  refine me0 (pc' := 88) (S' := .int (0 : Int32) :: _) dm_X12_keep_87 rfl rfl rfl rfl ?_
  refine me0 (pc' := 90) (S' := .int (40 : Int32) :: _) dm_X12_keep_88 rfl rfl rfl rfl ?_
  refine me0 (pc' := 91) (S' := .int (40 : Int32) :: _) dm_X12_keep_90 rfl rfl rfl rfl ?_
  refine me1 (pc' := 92) dm_X12_keep_91 rfl rfl rfl rfl ?_
  refine me0 (pc' := 93) (S' := .int (71 : Int32) :: _) dm_X12_keep_92 rfl rfl rfl rfl ?_
  refine me1 (pc' := 94) dm_X12_keep_93 rfl rfl rfl rfl ?_
  refine me3 (pc' := 97) dm_X12_keep_94 (g_get (v := .ref 111) (lu (n := 102) (j := 0) hn rfl) rfl rfl (Nat.le_of_ble_eq_true rfl)) rfl rfl rfl ?_
  refine me1 (pc' := 98) dm_X12_keep_97 rfl rfl rfl rfl ?_
  refine me3 (pc' := 99) dm_X12_keep_98 (g_lald (v := (0 : Int64)) (lu (n := 102) (j := 9) hn rfl) rfl (by decide) rfl (Nat.le_of_ble_eq_true rfl)) rfl rfl rfl ?_
  refine me3 (pc' := 100) dm_X12_keep_99 (u_last (n := 102) (j := 12) hn rfl rfl (by decide) rfl (Nat.le_of_ble_eq_true rfl)) rfl rfl rfl ?_
  refine me1 (pc' := 101) dm_X12_keep_100 rfl rfl rfl rfl ?_
  refine me3 (pc' := 104) dm_X12_keep_101 (g_get (v := .ref 115) (lu (n := 102) (j := 0) hn rfl) rfl rfl (Nat.le_of_ble_eq_true rfl)) rfl rfl rfl ?_
  refine me0 (pc' := 106) (S' := .int (80 : Int32) :: _) dm_X12_keep_104 rfl rfl rfl rfl ?_
  refine me1 (pc' := 107) dm_X12_keep_106 rfl rfl rfl rfl ?_
  refine me0 (pc' := 108) (S' := .int (0 : Int32) :: _) dm_X12_keep_107 rfl rfl rfl rfl ?_
  refine me0 (pc' := 110) (S' := .int (40 : Int32) :: _) dm_X12_keep_108 rfl rfl rfl rfl ?_
  refine me0 (pc' := 111) (S' := .int (40 : Int32) :: _) dm_X12_keep_110 rfl rfl rfl rfl ?_
  refine me1 (pc' := 112) dm_X12_keep_111 rfl rfl rfl rfl ?_
  refine me0 (pc' := 113) (S' := .int (71 : Int32) :: _) dm_X12_keep_112 rfl rfl rfl rfl ?_
  refine me1 (pc' := 114) dm_X12_keep_113 rfl rfl rfl rfl ?_
  refine me3 (pc' := 117) dm_X12_keep_114 (g_get (v := .ref 113) (lu (n := 102) (j := 0) hn rfl) rfl rfl (Nat.le_of_ble_eq_true rfl)) rfl rfl rfl ?_
  refine me1 (pc' := 118) dm_X12_keep_117 rfl rfl rfl rfl ?_
  refine me3 (pc' := 119) dm_X12_keep_118 (g_iald (v := (0 : Int32)) (lu (n := 102) (j := 11) hn rfl) rfl (by decide) rfl (Nat.le_of_ble_eq_true rfl)) rfl rfl rfl ?_
  refine me3 (pc' := 120) dm_X12_keep_119 (u_iast (n := 102) (j := 13) hn rfl rfl (by decide) rfl (Nat.le_of_ble_eq_true rfl)) rfl rfl rfl ?_
  refine me1 (pc' := 123) (L' := [(2, .int (32 : Int32)), (0, .ref 102), (1, .int (0 : Int32))]) dm_X12_keep_120 rfl rfl rfl rfl ?_
  refine me2 (pc' := 40) dm_X12_keep_123 rfl rfl rfl ?_
  refine me1 (pc' := 41) dm_X12_keep_40 rfl rfl rfl rfl ?_
  refine me0 (pc' := 43) (S' := .int (40 : Int32) :: _) dm_X12_keep_41 rfl rfl rfl rfl ?_
  refine me_2f (pc' := 46) dm_X12_keep_43 rfl (by decide) rfl ?_
  refine me1 (pc' := 47) dm_X12_keep_46 rfl rfl rfl rfl ?_
  refine me3 (pc' := 50) dm_X12_keep_47 (g_get (v := .ref 114) (lu (n := 102) (j := 0) hn rfl) rfl rfl (Nat.le_of_ble_eq_true rfl)) rfl rfl rfl ?_
  refine me0 (pc' := 52) (S' := .int (80 : Int32) :: _) dm_X12_keep_50 rfl rfl rfl rfl ?_
  refine me1 (pc' := 53) dm_X12_keep_52 rfl rfl rfl rfl ?_
  refine me0 (pc' := 54) (S' := .int (0 : Int32) :: _) dm_X12_keep_53 rfl rfl rfl rfl ?_
  refine me1 (pc' := 55) dm_X12_keep_54 rfl rfl rfl rfl ?_
  refine me0 (pc' := 56) (S' := .int (32 : Int32) :: _) dm_X12_keep_55 rfl rfl rfl rfl ?_
  refine me1 (pc' := 57) dm_X12_keep_56 rfl rfl rfl rfl ?_
  refine me3 (pc' := 60) dm_X12_keep_57 (g_get (v := .ref 110) (lu (n := 102) (j := 0) hn rfl) rfl rfl (Nat.le_of_ble_eq_true rfl)) rfl rfl rfl ?_
  refine me1 (pc' := 61) dm_X12_keep_60 rfl rfl rfl rfl ?_
  refine me3 (pc' := 62) dm_X12_keep_61 (g_lald (v := (0 : Int64)) (lu (n := 102) (j := 8) hn rfl) rfl (by decide) rfl (Nat.le_of_ble_eq_true rfl)) rfl rfl rfl ?_
  refine me3 (pc' := 63) dm_X12_keep_62 (u_last (n := 102) (j := 12) hn rfl rfl (by decide) rfl (Nat.le_of_ble_eq_true rfl)) rfl rfl rfl ?_
  refine me1 (pc' := 64) dm_X12_keep_63 rfl rfl rfl rfl ?_
  refine me3 (pc' := 67) dm_X12_keep_64 (g_get (v := .ref 115) (lu (n := 102) (j := 0) hn rfl) rfl rfl (Nat.le_of_ble_eq_true rfl)) rfl rfl rfl ?_
  refine me0 (pc' := 69) (S' := .int (80 : Int32) :: _) dm_X12_keep_67 rfl rfl rfl rfl ?_
  refine me1 (pc' := 70) dm_X12_keep_69 rfl rfl rfl rfl ?_
  refine me0 (pc' := 71) (S' := .int (0 : Int32) :: _) dm_X12_keep_70 rfl rfl rfl rfl ?_
  refine me1 (pc' := 72) dm_X12_keep_71 rfl rfl rfl rfl ?_
  refine me0 (pc' := 73) (S' := .int (32 : Int32) :: _) dm_X12_keep_72 rfl rfl rfl rfl ?_
  refine me1 (pc' := 74) dm_X12_keep_73 rfl rfl rfl rfl ?_
  refine me3 (pc' := 77) dm_X12_keep_74 (g_get (v := .ref 112) (lu (n := 102) (j := 0) hn rfl) rfl rfl (Nat.le_of_ble_eq_true rfl)) rfl rfl rfl ?_
  refine me1 (pc' := 78) dm_X12_keep_77 rfl rfl rfl rfl ?_
  refine me3 (pc' := 79) dm_X12_keep_78 (g_iald (v := (0 : Int32)) (lu (n := 102) (j := 10) hn rfl) rfl (by decide) rfl (Nat.le_of_ble_eq_true rfl)) rfl rfl rfl ?_
  refine me3 (pc' := 80) dm_X12_keep_79 (u_iast (n := 102) (j := 13) hn rfl rfl (by decide) rfl (Nat.le_of_ble_eq_true rfl)) rfl rfl rfl ?_
  refine me1 (pc' := 81) dm_X12_keep_80 rfl rfl rfl rfl ?_
  refine me3 (pc' := 84) dm_X12_keep_81 (g_get (v := .ref 114) (lu (n := 102) (j := 0) hn rfl) rfl rfl (Nat.le_of_ble_eq_true rfl)) rfl rfl rfl ?_
  refine me0 (pc' := 86) (S' := .int (80 : Int32) :: _) dm_X12_keep_84 rfl rfl rfl rfl ?_
  refine me1 (pc' := 87) dm_X12_keep_86 rfl rfl rfl rfl ?_
  refine me0 (pc' := 88) (S' := .int (0 : Int32) :: _) dm_X12_keep_87 rfl rfl rfl rfl ?_
  refine me0 (pc' := 90) (S' := .int (40 : Int32) :: _) dm_X12_keep_88 rfl rfl rfl rfl ?_
  refine me0 (pc' := 91) (S' := .int (40 : Int32) :: _) dm_X12_keep_90 rfl rfl rfl rfl ?_
  refine me1 (pc' := 92) dm_X12_keep_91 rfl rfl rfl rfl ?_
  refine me0 (pc' := 93) (S' := .int (72 : Int32) :: _) dm_X12_keep_92 rfl rfl rfl rfl ?_
  refine me1 (pc' := 94) dm_X12_keep_93 rfl rfl rfl rfl ?_
  refine me3 (pc' := 97) dm_X12_keep_94 (g_get (v := .ref 111) (lu (n := 102) (j := 0) hn rfl) rfl rfl (Nat.le_of_ble_eq_true rfl)) rfl rfl rfl ?_
  refine me1 (pc' := 98) dm_X12_keep_97 rfl rfl rfl rfl ?_
  refine me3 (pc' := 99) dm_X12_keep_98 (g_lald (v := (0 : Int64)) (lu (n := 102) (j := 9) hn rfl) rfl (by decide) rfl (Nat.le_of_ble_eq_true rfl)) rfl rfl rfl ?_
  refine me3 (pc' := 100) dm_X12_keep_99 (u_last (n := 102) (j := 12) hn rfl rfl (by decide) rfl (Nat.le_of_ble_eq_true rfl)) rfl rfl rfl ?_
  refine me1 (pc' := 101) dm_X12_keep_100 rfl rfl rfl rfl ?_
  refine me3 (pc' := 104) dm_X12_keep_101 (g_get (v := .ref 115) (lu (n := 102) (j := 0) hn rfl) rfl rfl (Nat.le_of_ble_eq_true rfl)) rfl rfl rfl ?_
  refine me0 (pc' := 106) (S' := .int (80 : Int32) :: _) dm_X12_keep_104 rfl rfl rfl rfl ?_
  refine me1 (pc' := 107) dm_X12_keep_106 rfl rfl rfl rfl ?_
  refine me0 (pc' := 108) (S' := .int (0 : Int32) :: _) dm_X12_keep_107 rfl rfl rfl rfl ?_
  refine me0 (pc' := 110) (S' := .int (40 : Int32) :: _) dm_X12_keep_108 rfl rfl rfl rfl ?_
  refine me0 (pc' := 111) (S' := .int (40 : Int32) :: _) dm_X12_keep_110 rfl rfl rfl rfl ?_
  refine me1 (pc' := 112) dm_X12_keep_111 rfl rfl rfl rfl ?_
  refine me0 (pc' := 113) (S' := .int (72 : Int32) :: _) dm_X12_keep_112 rfl rfl rfl rfl ?_
  refine me1 (pc' := 114) dm_X12_keep_113 rfl rfl rfl rfl ?_
  refine me3 (pc' := 117) dm_X12_keep_114 (g_get (v := .ref 113) (lu (n := 102) (j := 0) hn rfl) rfl rfl (Nat.le_of_ble_eq_true rfl)) rfl rfl rfl ?_
  refine me1 (pc' := 118) dm_X12_keep_117 rfl rfl rfl rfl ?_
  refine me3 (pc' := 119) dm_X12_keep_118 (g_iald (v := (0 : Int32)) (lu (n := 102) (j := 11) hn rfl) rfl (by decide) rfl (Nat.le_of_ble_eq_true rfl)) rfl rfl rfl ?_
  refine me3 (pc' := 120) dm_X12_keep_119 (u_iast (n := 102) (j := 13) hn rfl rfl (by decide) rfl (Nat.le_of_ble_eq_true rfl)) rfl rfl rfl ?_
  refine me1 (pc' := 123) (L' := [(2, .int (33 : Int32)), (0, .ref 102), (1, .int (0 : Int32))]) dm_X12_keep_120 rfl rfl rfl rfl ?_
  refine me2 (pc' := 40) dm_X12_keep_123 rfl rfl rfl ?_
  refine me1 (pc' := 41) dm_X12_keep_40 rfl rfl rfl rfl ?_
  refine me0 (pc' := 43) (S' := .int (40 : Int32) :: _) dm_X12_keep_41 rfl rfl rfl rfl ?_
  refine me_2f (pc' := 46) dm_X12_keep_43 rfl (by decide) rfl ?_
  refine me1 (pc' := 47) dm_X12_keep_46 rfl rfl rfl rfl ?_
  refine me3 (pc' := 50) dm_X12_keep_47 (g_get (v := .ref 114) (lu (n := 102) (j := 0) hn rfl) rfl rfl (Nat.le_of_ble_eq_true rfl)) rfl rfl rfl ?_
  refine me0 (pc' := 52) (S' := .int (80 : Int32) :: _) dm_X12_keep_50 rfl rfl rfl rfl ?_
  refine me1 (pc' := 53) dm_X12_keep_52 rfl rfl rfl rfl ?_
  refine me0 (pc' := 54) (S' := .int (0 : Int32) :: _) dm_X12_keep_53 rfl rfl rfl rfl ?_
  refine me1 (pc' := 55) dm_X12_keep_54 rfl rfl rfl rfl ?_
  refine me0 (pc' := 56) (S' := .int (33 : Int32) :: _) dm_X12_keep_55 rfl rfl rfl rfl ?_
  refine me1 (pc' := 57) dm_X12_keep_56 rfl rfl rfl rfl ?_
  refine me3 (pc' := 60) dm_X12_keep_57 (g_get (v := .ref 110) (lu (n := 102) (j := 0) hn rfl) rfl rfl (Nat.le_of_ble_eq_true rfl)) rfl rfl rfl ?_
  refine me1 (pc' := 61) dm_X12_keep_60 rfl rfl rfl rfl ?_
  refine me3 (pc' := 62) dm_X12_keep_61 (g_lald (v := (0 : Int64)) (lu (n := 102) (j := 8) hn rfl) rfl (by decide) rfl (Nat.le_of_ble_eq_true rfl)) rfl rfl rfl ?_
  refine me3 (pc' := 63) dm_X12_keep_62 (u_last (n := 102) (j := 12) hn rfl rfl (by decide) rfl (Nat.le_of_ble_eq_true rfl)) rfl rfl rfl ?_
  refine me1 (pc' := 64) dm_X12_keep_63 rfl rfl rfl rfl ?_
  refine me3 (pc' := 67) dm_X12_keep_64 (g_get (v := .ref 115) (lu (n := 102) (j := 0) hn rfl) rfl rfl (Nat.le_of_ble_eq_true rfl)) rfl rfl rfl ?_
  refine me0 (pc' := 69) (S' := .int (80 : Int32) :: _) dm_X12_keep_67 rfl rfl rfl rfl ?_
  refine me1 (pc' := 70) dm_X12_keep_69 rfl rfl rfl rfl ?_
  refine me0 (pc' := 71) (S' := .int (0 : Int32) :: _) dm_X12_keep_70 rfl rfl rfl rfl ?_
  refine me1 (pc' := 72) dm_X12_keep_71 rfl rfl rfl rfl ?_
  refine me0 (pc' := 73) (S' := .int (33 : Int32) :: _) dm_X12_keep_72 rfl rfl rfl rfl ?_
  refine me1 (pc' := 74) dm_X12_keep_73 rfl rfl rfl rfl ?_
  refine me3 (pc' := 77) dm_X12_keep_74 (g_get (v := .ref 112) (lu (n := 102) (j := 0) hn rfl) rfl rfl (Nat.le_of_ble_eq_true rfl)) rfl rfl rfl ?_
  refine me1 (pc' := 78) dm_X12_keep_77 rfl rfl rfl rfl ?_
  refine me3 (pc' := 79) dm_X12_keep_78 (g_iald (v := (0 : Int32)) (lu (n := 102) (j := 10) hn rfl) rfl (by decide) rfl (Nat.le_of_ble_eq_true rfl)) rfl rfl rfl ?_
  refine me3 (pc' := 80) dm_X12_keep_79 (u_iast (n := 102) (j := 13) hn rfl rfl (by decide) rfl (Nat.le_of_ble_eq_true rfl)) rfl rfl rfl ?_
  refine me1 (pc' := 81) dm_X12_keep_80 rfl rfl rfl rfl ?_
  refine me3 (pc' := 84) dm_X12_keep_81 (g_get (v := .ref 114) (lu (n := 102) (j := 0) hn rfl) rfl rfl (Nat.le_of_ble_eq_true rfl)) rfl rfl rfl ?_
  refine me0 (pc' := 86) (S' := .int (80 : Int32) :: _) dm_X12_keep_84 rfl rfl rfl rfl ?_
  refine me1 (pc' := 87) dm_X12_keep_86 rfl rfl rfl rfl ?_
  refine me0 (pc' := 88) (S' := .int (0 : Int32) :: _) dm_X12_keep_87 rfl rfl rfl rfl ?_
  refine me0 (pc' := 90) (S' := .int (40 : Int32) :: _) dm_X12_keep_88 rfl rfl rfl rfl ?_
  refine me0 (pc' := 91) (S' := .int (40 : Int32) :: _) dm_X12_keep_90 rfl rfl rfl rfl ?_
  refine me1 (pc' := 92) dm_X12_keep_91 rfl rfl rfl rfl ?_
  refine me0 (pc' := 93) (S' := .int (73 : Int32) :: _) dm_X12_keep_92 rfl rfl rfl rfl ?_
  refine me1 (pc' := 94) dm_X12_keep_93 rfl rfl rfl rfl ?_
  refine me3 (pc' := 97) dm_X12_keep_94 (g_get (v := .ref 111) (lu (n := 102) (j := 0) hn rfl) rfl rfl (Nat.le_of_ble_eq_true rfl)) rfl rfl rfl ?_
  refine me1 (pc' := 98) dm_X12_keep_97 rfl rfl rfl rfl ?_
  refine me3 (pc' := 99) dm_X12_keep_98 (g_lald (v := (0 : Int64)) (lu (n := 102) (j := 9) hn rfl) rfl (by decide) rfl (Nat.le_of_ble_eq_true rfl)) rfl rfl rfl ?_
  refine me3 (pc' := 100) dm_X12_keep_99 (u_last (n := 102) (j := 12) hn rfl rfl (by decide) rfl (Nat.le_of_ble_eq_true rfl)) rfl rfl rfl ?_
  refine me1 (pc' := 101) dm_X12_keep_100 rfl rfl rfl rfl ?_
  refine me3 (pc' := 104) dm_X12_keep_101 (g_get (v := .ref 115) (lu (n := 102) (j := 0) hn rfl) rfl rfl (Nat.le_of_ble_eq_true rfl)) rfl rfl rfl ?_
  refine me0 (pc' := 106) (S' := .int (80 : Int32) :: _) dm_X12_keep_104 rfl rfl rfl rfl ?_
  refine me1 (pc' := 107) dm_X12_keep_106 rfl rfl rfl rfl ?_
  refine me0 (pc' := 108) (S' := .int (0 : Int32) :: _) dm_X12_keep_107 rfl rfl rfl rfl ?_
  refine me0 (pc' := 110) (S' := .int (40 : Int32) :: _) dm_X12_keep_108 rfl rfl rfl rfl ?_
  refine me0 (pc' := 111) (S' := .int (40 : Int32) :: _) dm_X12_keep_110 rfl rfl rfl rfl ?_
  refine me1 (pc' := 112) dm_X12_keep_111 rfl rfl rfl rfl ?_
  refine me0 (pc' := 113) (S' := .int (73 : Int32) :: _) dm_X12_keep_112 rfl rfl rfl rfl ?_
  refine me1 (pc' := 114) dm_X12_keep_113 rfl rfl rfl rfl ?_
  refine me3 (pc' := 117) dm_X12_keep_114 (g_get (v := .ref 113) (lu (n := 102) (j := 0) hn rfl) rfl rfl (Nat.le_of_ble_eq_true rfl)) rfl rfl rfl ?_
  refine me1 (pc' := 118) dm_X12_keep_117 rfl rfl rfl rfl ?_
  refine me3 (pc' := 119) dm_X12_keep_118 (g_iald (v := (0 : Int32)) (lu (n := 102) (j := 11) hn rfl) rfl (by decide) rfl (Nat.le_of_ble_eq_true rfl)) rfl rfl rfl ?_
  refine me3 (pc' := 120) dm_X12_keep_119 (u_iast (n := 102) (j := 13) hn rfl rfl (by decide) rfl (Nat.le_of_ble_eq_true rfl)) rfl rfl rfl ?_
  refine me1 (pc' := 123) (L' := [(2, .int (34 : Int32)), (0, .ref 102), (1, .int (0 : Int32))]) dm_X12_keep_120 rfl rfl rfl rfl ?_
  refine me2 (pc' := 40) dm_X12_keep_123 rfl rfl rfl ?_
  refine me1 (pc' := 41) dm_X12_keep_40 rfl rfl rfl rfl ?_
  refine me0 (pc' := 43) (S' := .int (40 : Int32) :: _) dm_X12_keep_41 rfl rfl rfl rfl ?_
  refine me_2f (pc' := 46) dm_X12_keep_43 rfl (by decide) rfl ?_
  refine me1 (pc' := 47) dm_X12_keep_46 rfl rfl rfl rfl ?_
  refine me3 (pc' := 50) dm_X12_keep_47 (g_get (v := .ref 114) (lu (n := 102) (j := 0) hn rfl) rfl rfl (Nat.le_of_ble_eq_true rfl)) rfl rfl rfl ?_
  refine me0 (pc' := 52) (S' := .int (80 : Int32) :: _) dm_X12_keep_50 rfl rfl rfl rfl ?_
  refine me1 (pc' := 53) dm_X12_keep_52 rfl rfl rfl rfl ?_
  refine me0 (pc' := 54) (S' := .int (0 : Int32) :: _) dm_X12_keep_53 rfl rfl rfl rfl ?_
  refine me1 (pc' := 55) dm_X12_keep_54 rfl rfl rfl rfl ?_
  refine me0 (pc' := 56) (S' := .int (34 : Int32) :: _) dm_X12_keep_55 rfl rfl rfl rfl ?_
  refine me1 (pc' := 57) dm_X12_keep_56 rfl rfl rfl rfl ?_
  refine me3 (pc' := 60) dm_X12_keep_57 (g_get (v := .ref 110) (lu (n := 102) (j := 0) hn rfl) rfl rfl (Nat.le_of_ble_eq_true rfl)) rfl rfl rfl ?_
  refine me1 (pc' := 61) dm_X12_keep_60 rfl rfl rfl rfl ?_
  refine me3 (pc' := 62) dm_X12_keep_61 (g_lald (v := (0 : Int64)) (lu (n := 102) (j := 8) hn rfl) rfl (by decide) rfl (Nat.le_of_ble_eq_true rfl)) rfl rfl rfl ?_
  refine me3 (pc' := 63) dm_X12_keep_62 (u_last (n := 102) (j := 12) hn rfl rfl (by decide) rfl (Nat.le_of_ble_eq_true rfl)) rfl rfl rfl ?_
  refine me1 (pc' := 64) dm_X12_keep_63 rfl rfl rfl rfl ?_
  refine me3 (pc' := 67) dm_X12_keep_64 (g_get (v := .ref 115) (lu (n := 102) (j := 0) hn rfl) rfl rfl (Nat.le_of_ble_eq_true rfl)) rfl rfl rfl ?_
  refine me0 (pc' := 69) (S' := .int (80 : Int32) :: _) dm_X12_keep_67 rfl rfl rfl rfl ?_
  refine me1 (pc' := 70) dm_X12_keep_69 rfl rfl rfl rfl ?_
  refine me0 (pc' := 71) (S' := .int (0 : Int32) :: _) dm_X12_keep_70 rfl rfl rfl rfl ?_
  refine me1 (pc' := 72) dm_X12_keep_71 rfl rfl rfl rfl ?_
  refine me0 (pc' := 73) (S' := .int (34 : Int32) :: _) dm_X12_keep_72 rfl rfl rfl rfl ?_
  refine me1 (pc' := 74) dm_X12_keep_73 rfl rfl rfl rfl ?_
  refine me3 (pc' := 77) dm_X12_keep_74 (g_get (v := .ref 112) (lu (n := 102) (j := 0) hn rfl) rfl rfl (Nat.le_of_ble_eq_true rfl)) rfl rfl rfl ?_
  refine me1 (pc' := 78) dm_X12_keep_77 rfl rfl rfl rfl ?_
  refine me3 (pc' := 79) dm_X12_keep_78 (g_iald (v := (0 : Int32)) (lu (n := 102) (j := 10) hn rfl) rfl (by decide) rfl (Nat.le_of_ble_eq_true rfl)) rfl rfl rfl ?_
  refine me3 (pc' := 80) dm_X12_keep_79 (u_iast (n := 102) (j := 13) hn rfl rfl (by decide) rfl (Nat.le_of_ble_eq_true rfl)) rfl rfl rfl ?_
  refine me1 (pc' := 81) dm_X12_keep_80 rfl rfl rfl rfl ?_
  refine me3 (pc' := 84) dm_X12_keep_81 (g_get (v := .ref 114) (lu (n := 102) (j := 0) hn rfl) rfl rfl (Nat.le_of_ble_eq_true rfl)) rfl rfl rfl ?_
  refine me0 (pc' := 86) (S' := .int (80 : Int32) :: _) dm_X12_keep_84 rfl rfl rfl rfl ?_
  refine me1 (pc' := 87) dm_X12_keep_86 rfl rfl rfl rfl ?_
  refine me0 (pc' := 88) (S' := .int (0 : Int32) :: _) dm_X12_keep_87 rfl rfl rfl rfl ?_
  refine me0 (pc' := 90) (S' := .int (40 : Int32) :: _) dm_X12_keep_88 rfl rfl rfl rfl ?_
  refine me0 (pc' := 91) (S' := .int (40 : Int32) :: _) dm_X12_keep_90 rfl rfl rfl rfl ?_
  refine me1 (pc' := 92) dm_X12_keep_91 rfl rfl rfl rfl ?_
  refine me0 (pc' := 93) (S' := .int (74 : Int32) :: _) dm_X12_keep_92 rfl rfl rfl rfl ?_
  refine me1 (pc' := 94) dm_X12_keep_93 rfl rfl rfl rfl ?_
  refine me3 (pc' := 97) dm_X12_keep_94 (g_get (v := .ref 111) (lu (n := 102) (j := 0) hn rfl) rfl rfl (Nat.le_of_ble_eq_true rfl)) rfl rfl rfl ?_
  refine me1 (pc' := 98) dm_X12_keep_97 rfl rfl rfl rfl ?_
  refine me3 (pc' := 99) dm_X12_keep_98 (g_lald (v := (0 : Int64)) (lu (n := 102) (j := 9) hn rfl) rfl (by decide) rfl (Nat.le_of_ble_eq_true rfl)) rfl rfl rfl ?_
  refine me3 (pc' := 100) dm_X12_keep_99 (u_last (n := 102) (j := 12) hn rfl rfl (by decide) rfl (Nat.le_of_ble_eq_true rfl)) rfl rfl rfl ?_
  refine me1 (pc' := 101) dm_X12_keep_100 rfl rfl rfl rfl ?_
  refine me3 (pc' := 104) dm_X12_keep_101 (g_get (v := .ref 115) (lu (n := 102) (j := 0) hn rfl) rfl rfl (Nat.le_of_ble_eq_true rfl)) rfl rfl rfl ?_
  refine me0 (pc' := 106) (S' := .int (80 : Int32) :: _) dm_X12_keep_104 rfl rfl rfl rfl ?_
  refine me1 (pc' := 107) dm_X12_keep_106 rfl rfl rfl rfl ?_
  refine me0 (pc' := 108) (S' := .int (0 : Int32) :: _) dm_X12_keep_107 rfl rfl rfl rfl ?_
  refine me0 (pc' := 110) (S' := .int (40 : Int32) :: _) dm_X12_keep_108 rfl rfl rfl rfl ?_
  refine me0 (pc' := 111) (S' := .int (40 : Int32) :: _) dm_X12_keep_110 rfl rfl rfl rfl ?_
  refine me1 (pc' := 112) dm_X12_keep_111 rfl rfl rfl rfl ?_
  refine me0 (pc' := 113) (S' := .int (74 : Int32) :: _) dm_X12_keep_112 rfl rfl rfl rfl ?_
  refine me1 (pc' := 114) dm_X12_keep_113 rfl rfl rfl rfl ?_
  refine me3 (pc' := 117) dm_X12_keep_114 (g_get (v := .ref 113) (lu (n := 102) (j := 0) hn rfl) rfl rfl (Nat.le_of_ble_eq_true rfl)) rfl rfl rfl ?_
  refine me1 (pc' := 118) dm_X12_keep_117 rfl rfl rfl rfl ?_
  refine me3 (pc' := 119) dm_X12_keep_118 (g_iald (v := (0 : Int32)) (lu (n := 102) (j := 11) hn rfl) rfl (by decide) rfl (Nat.le_of_ble_eq_true rfl)) rfl rfl rfl ?_
  refine me3 (pc' := 120) dm_X12_keep_119 (u_iast (n := 102) (j := 13) hn rfl rfl (by decide) rfl (Nat.le_of_ble_eq_true rfl)) rfl rfl rfl ?_
  refine me1 (pc' := 123) (L' := [(2, .int (35 : Int32)), (0, .ref 102), (1, .int (0 : Int32))]) dm_X12_keep_120 rfl rfl rfl rfl ?_
  refine me2 (pc' := 40) dm_X12_keep_123 rfl rfl rfl ?_
  refine me1 (pc' := 41) dm_X12_keep_40 rfl rfl rfl rfl ?_
  refine me0 (pc' := 43) (S' := .int (40 : Int32) :: _) dm_X12_keep_41 rfl rfl rfl rfl ?_
  refine me_2f (pc' := 46) dm_X12_keep_43 rfl (by decide) rfl ?_
  refine me1 (pc' := 47) dm_X12_keep_46 rfl rfl rfl rfl ?_
  refine me3 (pc' := 50) dm_X12_keep_47 (g_get (v := .ref 114) (lu (n := 102) (j := 0) hn rfl) rfl rfl (Nat.le_of_ble_eq_true rfl)) rfl rfl rfl ?_
  refine me0 (pc' := 52) (S' := .int (80 : Int32) :: _) dm_X12_keep_50 rfl rfl rfl rfl ?_
  refine me1 (pc' := 53) dm_X12_keep_52 rfl rfl rfl rfl ?_
  refine me0 (pc' := 54) (S' := .int (0 : Int32) :: _) dm_X12_keep_53 rfl rfl rfl rfl ?_
  refine me1 (pc' := 55) dm_X12_keep_54 rfl rfl rfl rfl ?_
  refine me0 (pc' := 56) (S' := .int (35 : Int32) :: _) dm_X12_keep_55 rfl rfl rfl rfl ?_
  refine me1 (pc' := 57) dm_X12_keep_56 rfl rfl rfl rfl ?_
  refine me3 (pc' := 60) dm_X12_keep_57 (g_get (v := .ref 110) (lu (n := 102) (j := 0) hn rfl) rfl rfl (Nat.le_of_ble_eq_true rfl)) rfl rfl rfl ?_
  refine me1 (pc' := 61) dm_X12_keep_60 rfl rfl rfl rfl ?_
  refine me3 (pc' := 62) dm_X12_keep_61 (g_lald (v := (0 : Int64)) (lu (n := 102) (j := 8) hn rfl) rfl (by decide) rfl (Nat.le_of_ble_eq_true rfl)) rfl rfl rfl ?_
  refine me3 (pc' := 63) dm_X12_keep_62 (u_last (n := 102) (j := 12) hn rfl rfl (by decide) rfl (Nat.le_of_ble_eq_true rfl)) rfl rfl rfl ?_
  refine me1 (pc' := 64) dm_X12_keep_63 rfl rfl rfl rfl ?_
  refine me3 (pc' := 67) dm_X12_keep_64 (g_get (v := .ref 115) (lu (n := 102) (j := 0) hn rfl) rfl rfl (Nat.le_of_ble_eq_true rfl)) rfl rfl rfl ?_
  refine me0 (pc' := 69) (S' := .int (80 : Int32) :: _) dm_X12_keep_67 rfl rfl rfl rfl ?_
  refine me1 (pc' := 70) dm_X12_keep_69 rfl rfl rfl rfl ?_
  refine me0 (pc' := 71) (S' := .int (0 : Int32) :: _) dm_X12_keep_70 rfl rfl rfl rfl ?_
  refine me1 (pc' := 72) dm_X12_keep_71 rfl rfl rfl rfl ?_
  refine me0 (pc' := 73) (S' := .int (35 : Int32) :: _) dm_X12_keep_72 rfl rfl rfl rfl ?_
  refine me1 (pc' := 74) dm_X12_keep_73 rfl rfl rfl rfl ?_
  refine me3 (pc' := 77) dm_X12_keep_74 (g_get (v := .ref 112) (lu (n := 102) (j := 0) hn rfl) rfl rfl (Nat.le_of_ble_eq_true rfl)) rfl rfl rfl ?_
  refine me1 (pc' := 78) dm_X12_keep_77 rfl rfl rfl rfl ?_
  refine me3 (pc' := 79) dm_X12_keep_78 (g_iald (v := (0 : Int32)) (lu (n := 102) (j := 10) hn rfl) rfl (by decide) rfl (Nat.le_of_ble_eq_true rfl)) rfl rfl rfl ?_
  refine me3 (pc' := 80) dm_X12_keep_79 (u_iast (n := 102) (j := 13) hn rfl rfl (by decide) rfl (Nat.le_of_ble_eq_true rfl)) rfl rfl rfl ?_
  refine me1 (pc' := 81) dm_X12_keep_80 rfl rfl rfl rfl ?_
  refine me3 (pc' := 84) dm_X12_keep_81 (g_get (v := .ref 114) (lu (n := 102) (j := 0) hn rfl) rfl rfl (Nat.le_of_ble_eq_true rfl)) rfl rfl rfl ?_
  refine me0 (pc' := 86) (S' := .int (80 : Int32) :: _) dm_X12_keep_84 rfl rfl rfl rfl ?_
  refine me1 (pc' := 87) dm_X12_keep_86 rfl rfl rfl rfl ?_
  refine me0 (pc' := 88) (S' := .int (0 : Int32) :: _) dm_X12_keep_87 rfl rfl rfl rfl ?_
  refine me0 (pc' := 90) (S' := .int (40 : Int32) :: _) dm_X12_keep_88 rfl rfl rfl rfl ?_
  refine me0 (pc' := 91) (S' := .int (40 : Int32) :: _) dm_X12_keep_90 rfl rfl rfl rfl ?_
  refine me1 (pc' := 92) dm_X12_keep_91 rfl rfl rfl rfl ?_
  refine me0 (pc' := 93) (S' := .int (75 : Int32) :: _) dm_X12_keep_92 rfl rfl rfl rfl ?_
  refine me1 (pc' := 94) dm_X12_keep_93 rfl rfl rfl rfl ?_
  refine me3 (pc' := 97) dm_X12_keep_94 (g_get (v := .ref 111) (lu (n := 102) (j := 0) hn rfl) rfl rfl (Nat.le_of_ble_eq_true rfl)) rfl rfl rfl ?_
  refine me1 (pc' := 98) dm_X12_keep_97 rfl rfl rfl rfl ?_
  refine me3 (pc' := 99) dm_X12_keep_98 (g_lald (v := (0 : Int64)) (lu (n := 102) (j := 9) hn rfl) rfl (by decide) rfl (Nat.le_of_ble_eq_true rfl)) rfl rfl rfl ?_
  refine me3 (pc' := 100) dm_X12_keep_99 (u_last (n := 102) (j := 12) hn rfl rfl (by decide) rfl (Nat.le_of_ble_eq_true rfl)) rfl rfl rfl ?_
  refine me1 (pc' := 101) dm_X12_keep_100 rfl rfl rfl rfl ?_
  refine me3 (pc' := 104) dm_X12_keep_101 (g_get (v := .ref 115) (lu (n := 102) (j := 0) hn rfl) rfl rfl (Nat.le_of_ble_eq_true rfl)) rfl rfl rfl ?_
  refine me0 (pc' := 106) (S' := .int (80 : Int32) :: _) dm_X12_keep_104 rfl rfl rfl rfl ?_
  refine me1 (pc' := 107) dm_X12_keep_106 rfl rfl rfl rfl ?_
  refine me0 (pc' := 108) (S' := .int (0 : Int32) :: _) dm_X12_keep_107 rfl rfl rfl rfl ?_
  refine me0 (pc' := 110) (S' := .int (40 : Int32) :: _) dm_X12_keep_108 rfl rfl rfl rfl ?_
  refine me0 (pc' := 111) (S' := .int (40 : Int32) :: _) dm_X12_keep_110 rfl rfl rfl rfl ?_
  refine me1 (pc' := 112) dm_X12_keep_111 rfl rfl rfl rfl ?_
  refine me0 (pc' := 113) (S' := .int (75 : Int32) :: _) dm_X12_keep_112 rfl rfl rfl rfl ?_
  refine me1 (pc' := 114) dm_X12_keep_113 rfl rfl rfl rfl ?_
  refine me3 (pc' := 117) dm_X12_keep_114 (g_get (v := .ref 113) (lu (n := 102) (j := 0) hn rfl) rfl rfl (Nat.le_of_ble_eq_true rfl)) rfl rfl rfl ?_
  refine me1 (pc' := 118) dm_X12_keep_117 rfl rfl rfl rfl ?_
  refine me3 (pc' := 119) dm_X12_keep_118 (g_iald (v := (0 : Int32)) (lu (n := 102) (j := 11) hn rfl) rfl (by decide) rfl (Nat.le_of_ble_eq_true rfl)) rfl rfl rfl ?_
  refine me3 (pc' := 120) dm_X12_keep_119 (u_iast (n := 102) (j := 13) hn rfl rfl (by decide) rfl (Nat.le_of_ble_eq_true rfl)) rfl rfl rfl ?_
  refine me1 (pc' := 123) (L' := [(2, .int (36 : Int32)), (0, .ref 102), (1, .int (0 : Int32))]) dm_X12_keep_120 rfl rfl rfl rfl ?_
  refine me2 (pc' := 40) dm_X12_keep_123 rfl rfl rfl ?_
  refine me1 (pc' := 41) dm_X12_keep_40 rfl rfl rfl rfl ?_
  refine me0 (pc' := 43) (S' := .int (40 : Int32) :: _) dm_X12_keep_41 rfl rfl rfl rfl ?_
  refine me_2f (pc' := 46) dm_X12_keep_43 rfl (by decide) rfl ?_
  refine me1 (pc' := 47) dm_X12_keep_46 rfl rfl rfl rfl ?_
  refine me3 (pc' := 50) dm_X12_keep_47 (g_get (v := .ref 114) (lu (n := 102) (j := 0) hn rfl) rfl rfl (Nat.le_of_ble_eq_true rfl)) rfl rfl rfl ?_
  refine me0 (pc' := 52) (S' := .int (80 : Int32) :: _) dm_X12_keep_50 rfl rfl rfl rfl ?_
  refine me1 (pc' := 53) dm_X12_keep_52 rfl rfl rfl rfl ?_
  refine me0 (pc' := 54) (S' := .int (0 : Int32) :: _) dm_X12_keep_53 rfl rfl rfl rfl ?_
  refine me1 (pc' := 55) dm_X12_keep_54 rfl rfl rfl rfl ?_
  refine me0 (pc' := 56) (S' := .int (36 : Int32) :: _) dm_X12_keep_55 rfl rfl rfl rfl ?_
  refine me1 (pc' := 57) dm_X12_keep_56 rfl rfl rfl rfl ?_
  refine me3 (pc' := 60) dm_X12_keep_57 (g_get (v := .ref 110) (lu (n := 102) (j := 0) hn rfl) rfl rfl (Nat.le_of_ble_eq_true rfl)) rfl rfl rfl ?_
  refine me1 (pc' := 61) dm_X12_keep_60 rfl rfl rfl rfl ?_
  refine me3 (pc' := 62) dm_X12_keep_61 (g_lald (v := (0 : Int64)) (lu (n := 102) (j := 8) hn rfl) rfl (by decide) rfl (Nat.le_of_ble_eq_true rfl)) rfl rfl rfl ?_
  refine me3 (pc' := 63) dm_X12_keep_62 (u_last (n := 102) (j := 12) hn rfl rfl (by decide) rfl (Nat.le_of_ble_eq_true rfl)) rfl rfl rfl ?_
  refine me1 (pc' := 64) dm_X12_keep_63 rfl rfl rfl rfl ?_
  refine me3 (pc' := 67) dm_X12_keep_64 (g_get (v := .ref 115) (lu (n := 102) (j := 0) hn rfl) rfl rfl (Nat.le_of_ble_eq_true rfl)) rfl rfl rfl ?_
  refine me0 (pc' := 69) (S' := .int (80 : Int32) :: _) dm_X12_keep_67 rfl rfl rfl rfl ?_
  refine me1 (pc' := 70) dm_X12_keep_69 rfl rfl rfl rfl ?_
  refine me0 (pc' := 71) (S' := .int (0 : Int32) :: _) dm_X12_keep_70 rfl rfl rfl rfl ?_
  refine me1 (pc' := 72) dm_X12_keep_71 rfl rfl rfl rfl ?_
  refine me0 (pc' := 73) (S' := .int (36 : Int32) :: _) dm_X12_keep_72 rfl rfl rfl rfl ?_
  refine me1 (pc' := 74) dm_X12_keep_73 rfl rfl rfl rfl ?_
  refine me3 (pc' := 77) dm_X12_keep_74 (g_get (v := .ref 112) (lu (n := 102) (j := 0) hn rfl) rfl rfl (Nat.le_of_ble_eq_true rfl)) rfl rfl rfl ?_
  refine me1 (pc' := 78) dm_X12_keep_77 rfl rfl rfl rfl ?_
  refine me3 (pc' := 79) dm_X12_keep_78 (g_iald (v := (0 : Int32)) (lu (n := 102) (j := 10) hn rfl) rfl (by decide) rfl (Nat.le_of_ble_eq_true rfl)) rfl rfl rfl ?_
  refine me3 (pc' := 80) dm_X12_keep_79 (u_iast (n := 102) (j := 13) hn rfl rfl (by decide) rfl (Nat.le_of_ble_eq_true rfl)) rfl rfl rfl ?_
  refine me1 (pc' := 81) dm_X12_keep_80 rfl rfl rfl rfl ?_
  refine me3 (pc' := 84) dm_X12_keep_81 (g_get (v := .ref 114) (lu (n := 102) (j := 0) hn rfl) rfl rfl (Nat.le_of_ble_eq_true rfl)) rfl rfl rfl ?_
  refine me0 (pc' := 86) (S' := .int (80 : Int32) :: _) dm_X12_keep_84 rfl rfl rfl rfl ?_
  refine me1 (pc' := 87) dm_X12_keep_86 rfl rfl rfl rfl ?_
  refine me0 (pc' := 88) (S' := .int (0 : Int32) :: _) dm_X12_keep_87 rfl rfl rfl rfl ?_
  refine me0 (pc' := 90) (S' := .int (40 : Int32) :: _) dm_X12_keep_88 rfl rfl rfl rfl ?_
  refine me0 (pc' := 91) (S' := .int (40 : Int32) :: _) dm_X12_keep_90 rfl rfl rfl rfl ?_
  refine me1 (pc' := 92) dm_X12_keep_91 rfl rfl rfl rfl ?_
  refine me0 (pc' := 93) (S' := .int (76 : Int32) :: _) dm_X12_keep_92 rfl rfl rfl rfl ?_
  refine me1 (pc' := 94) dm_X12_keep_93 rfl rfl rfl rfl ?_
  refine me3 (pc' := 97) dm_X12_keep_94 (g_get (v := .ref 111) (lu (n := 102) (j := 0) hn rfl) rfl rfl (Nat.le_of_ble_eq_true rfl)) rfl rfl rfl ?_
  refine me1 (pc' := 98) dm_X12_keep_97 rfl rfl rfl rfl ?_
  refine me3 (pc' := 99) dm_X12_keep_98 (g_lald (v := (0 : Int64)) (lu (n := 102) (j := 9) hn rfl) rfl (by decide) rfl (Nat.le_of_ble_eq_true rfl)) rfl rfl rfl ?_
  refine me3 (pc' := 100) dm_X12_keep_99 (u_last (n := 102) (j := 12) hn rfl rfl (by decide) rfl (Nat.le_of_ble_eq_true rfl)) rfl rfl rfl ?_
  refine me1 (pc' := 101) dm_X12_keep_100 rfl rfl rfl rfl ?_
  refine me3 (pc' := 104) dm_X12_keep_101 (g_get (v := .ref 115) (lu (n := 102) (j := 0) hn rfl) rfl rfl (Nat.le_of_ble_eq_true rfl)) rfl rfl rfl ?_
  refine me0 (pc' := 106) (S' := .int (80 : Int32) :: _) dm_X12_keep_104 rfl rfl rfl rfl ?_
  refine me1 (pc' := 107) dm_X12_keep_106 rfl rfl rfl rfl ?_
  refine me0 (pc' := 108) (S' := .int (0 : Int32) :: _) dm_X12_keep_107 rfl rfl rfl rfl ?_
  refine me0 (pc' := 110) (S' := .int (40 : Int32) :: _) dm_X12_keep_108 rfl rfl rfl rfl ?_
  refine me0 (pc' := 111) (S' := .int (40 : Int32) :: _) dm_X12_keep_110 rfl rfl rfl rfl ?_
  refine me1 (pc' := 112) dm_X12_keep_111 rfl rfl rfl rfl ?_
  refine me0 (pc' := 113) (S' := .int (76 : Int32) :: _) dm_X12_keep_112 rfl rfl rfl rfl ?_
  refine me1 (pc' := 114) dm_X12_keep_113 rfl rfl rfl rfl ?_
  refine me3 (pc' := 117) dm_X12_keep_114 (g_get (v := .ref 113) (lu (n := 102) (j := 0) hn rfl) rfl rfl (Nat.le_of_ble_eq_true rfl)) rfl rfl rfl ?_
  refine me1 (pc' := 118) dm_X12_keep_117 rfl rfl rfl rfl ?_
  refine me3 (pc' := 119) dm_X12_keep_118 (g_iald (v := (0 : Int32)) (lu (n := 102) (j := 11) hn rfl) rfl (by decide) rfl (Nat.le_of_ble_eq_true rfl)) rfl rfl rfl ?_
  refine me3 (pc' := 120) dm_X12_keep_119 (u_iast (n := 102) (j := 13) hn rfl rfl (by decide) rfl (Nat.le_of_ble_eq_true rfl)) rfl rfl rfl ?_
  refine me1 (pc' := 123) (L' := [(2, .int (37 : Int32)), (0, .ref 102), (1, .int (0 : Int32))]) dm_X12_keep_120 rfl rfl rfl rfl ?_
  refine me2 (pc' := 40) dm_X12_keep_123 rfl rfl rfl ?_
  refine me1 (pc' := 41) dm_X12_keep_40 rfl rfl rfl rfl ?_
  refine me0 (pc' := 43) (S' := .int (40 : Int32) :: _) dm_X12_keep_41 rfl rfl rfl rfl ?_
  refine me_2f (pc' := 46) dm_X12_keep_43 rfl (by decide) rfl ?_
  refine me1 (pc' := 47) dm_X12_keep_46 rfl rfl rfl rfl ?_
  refine me3 (pc' := 50) dm_X12_keep_47 (g_get (v := .ref 114) (lu (n := 102) (j := 0) hn rfl) rfl rfl (Nat.le_of_ble_eq_true rfl)) rfl rfl rfl ?_
  refine me0 (pc' := 52) (S' := .int (80 : Int32) :: _) dm_X12_keep_50 rfl rfl rfl rfl ?_
  refine me1 (pc' := 53) dm_X12_keep_52 rfl rfl rfl rfl ?_
  refine me0 (pc' := 54) (S' := .int (0 : Int32) :: _) dm_X12_keep_53 rfl rfl rfl rfl ?_
  refine me1 (pc' := 55) dm_X12_keep_54 rfl rfl rfl rfl ?_
  refine me0 (pc' := 56) (S' := .int (37 : Int32) :: _) dm_X12_keep_55 rfl rfl rfl rfl ?_
  refine me1 (pc' := 57) dm_X12_keep_56 rfl rfl rfl rfl ?_
  refine me3 (pc' := 60) dm_X12_keep_57 (g_get (v := .ref 110) (lu (n := 102) (j := 0) hn rfl) rfl rfl (Nat.le_of_ble_eq_true rfl)) rfl rfl rfl ?_
  refine me1 (pc' := 61) dm_X12_keep_60 rfl rfl rfl rfl ?_
  refine me3 (pc' := 62) dm_X12_keep_61 (g_lald (v := (0 : Int64)) (lu (n := 102) (j := 8) hn rfl) rfl (by decide) rfl (Nat.le_of_ble_eq_true rfl)) rfl rfl rfl ?_
  refine me3 (pc' := 63) dm_X12_keep_62 (u_last (n := 102) (j := 12) hn rfl rfl (by decide) rfl (Nat.le_of_ble_eq_true rfl)) rfl rfl rfl ?_
  refine me1 (pc' := 64) dm_X12_keep_63 rfl rfl rfl rfl ?_
  refine me3 (pc' := 67) dm_X12_keep_64 (g_get (v := .ref 115) (lu (n := 102) (j := 0) hn rfl) rfl rfl (Nat.le_of_ble_eq_true rfl)) rfl rfl rfl ?_
  refine me0 (pc' := 69) (S' := .int (80 : Int32) :: _) dm_X12_keep_67 rfl rfl rfl rfl ?_
  refine me1 (pc' := 70) dm_X12_keep_69 rfl rfl rfl rfl ?_
  refine me0 (pc' := 71) (S' := .int (0 : Int32) :: _) dm_X12_keep_70 rfl rfl rfl rfl ?_
  refine me1 (pc' := 72) dm_X12_keep_71 rfl rfl rfl rfl ?_
  refine me0 (pc' := 73) (S' := .int (37 : Int32) :: _) dm_X12_keep_72 rfl rfl rfl rfl ?_
  refine me1 (pc' := 74) dm_X12_keep_73 rfl rfl rfl rfl ?_
  refine me3 (pc' := 77) dm_X12_keep_74 (g_get (v := .ref 112) (lu (n := 102) (j := 0) hn rfl) rfl rfl (Nat.le_of_ble_eq_true rfl)) rfl rfl rfl ?_
  refine me1 (pc' := 78) dm_X12_keep_77 rfl rfl rfl rfl ?_
  refine me3 (pc' := 79) dm_X12_keep_78 (g_iald (v := (0 : Int32)) (lu (n := 102) (j := 10) hn rfl) rfl (by decide) rfl (Nat.le_of_ble_eq_true rfl)) rfl rfl rfl ?_
  refine me3 (pc' := 80) dm_X12_keep_79 (u_iast (n := 102) (j := 13) hn rfl rfl (by decide) rfl (Nat.le_of_ble_eq_true rfl)) rfl rfl rfl ?_
  refine me1 (pc' := 81) dm_X12_keep_80 rfl rfl rfl rfl ?_
  refine me3 (pc' := 84) dm_X12_keep_81 (g_get (v := .ref 114) (lu (n := 102) (j := 0) hn rfl) rfl rfl (Nat.le_of_ble_eq_true rfl)) rfl rfl rfl ?_
  refine me0 (pc' := 86) (S' := .int (80 : Int32) :: _) dm_X12_keep_84 rfl rfl rfl rfl ?_
  refine me1 (pc' := 87) dm_X12_keep_86 rfl rfl rfl rfl ?_
  refine me0 (pc' := 88) (S' := .int (0 : Int32) :: _) dm_X12_keep_87 rfl rfl rfl rfl ?_
  refine me0 (pc' := 90) (S' := .int (40 : Int32) :: _) dm_X12_keep_88 rfl rfl rfl rfl ?_
  refine me0 (pc' := 91) (S' := .int (40 : Int32) :: _) dm_X12_keep_90 rfl rfl rfl rfl ?_
  refine me1 (pc' := 92) dm_X12_keep_91 rfl rfl rfl rfl ?_
  refine me0 (pc' := 93) (S' := .int (77 : Int32) :: _) dm_X12_keep_92 rfl rfl rfl rfl ?_
  refine me1 (pc' := 94) dm_X12_keep_93 rfl rfl rfl rfl ?_
  refine me3 (pc' := 97) dm_X12_keep_94 (g_get (v := .ref 111) (lu (n := 102) (j := 0) hn rfl) rfl rfl (Nat.le_of_ble_eq_true rfl)) rfl rfl rfl ?_
  refine me1 (pc' := 98) dm_X12_keep_97 rfl rfl rfl rfl ?_
  refine me3 (pc' := 99) dm_X12_keep_98 (g_lald (v := (0 : Int64)) (lu (n := 102) (j := 9) hn rfl) rfl (by decide) rfl (Nat.le_of_ble_eq_true rfl)) rfl rfl rfl ?_
  refine me3 (pc' := 100) dm_X12_keep_99 (u_last (n := 102) (j := 12) hn rfl rfl (by decide) rfl (Nat.le_of_ble_eq_true rfl)) rfl rfl rfl ?_
  refine me1 (pc' := 101) dm_X12_keep_100 rfl rfl rfl rfl ?_
  refine me3 (pc' := 104) dm_X12_keep_101 (g_get (v := .ref 115) (lu (n := 102) (j := 0) hn rfl) rfl rfl (Nat.le_of_ble_eq_true rfl)) rfl rfl rfl ?_
  refine me0 (pc' := 106) (S' := .int (80 : Int32) :: _) dm_X12_keep_104 rfl rfl rfl rfl ?_
  refine me1 (pc' := 107) dm_X12_keep_106 rfl rfl rfl rfl ?_
  refine me0 (pc' := 108) (S' := .int (0 : Int32) :: _) dm_X12_keep_107 rfl rfl rfl rfl ?_
  refine me0 (pc' := 110) (S' := .int (40 : Int32) :: _) dm_X12_keep_108 rfl rfl rfl rfl ?_
  refine me0 (pc' := 111) (S' := .int (40 : Int32) :: _) dm_X12_keep_110 rfl rfl rfl rfl ?_
  refine me1 (pc' := 112) dm_X12_keep_111 rfl rfl rfl rfl ?_
  refine me0 (pc' := 113) (S' := .int (77 : Int32) :: _) dm_X12_keep_112 rfl rfl rfl rfl ?_
  refine me1 (pc' := 114) dm_X12_keep_113 rfl rfl rfl rfl ?_
  refine me3 (pc' := 117) dm_X12_keep_114 (g_get (v := .ref 113) (lu (n := 102) (j := 0) hn rfl) rfl rfl (Nat.le_of_ble_eq_true rfl)) rfl rfl rfl ?_
  refine me1 (pc' := 118) dm_X12_keep_117 rfl rfl rfl rfl ?_
  refine me3 (pc' := 119) dm_X12_keep_118 (g_iald (v := (0 : Int32)) (lu (n := 102) (j := 11) hn rfl) rfl (by decide) rfl (Nat.le_of_ble_eq_true rfl)) rfl rfl rfl ?_
  refine me3 (pc' := 120) dm_X12_keep_119 (u_iast (n := 102) (j := 13) hn rfl rfl (by decide) rfl (Nat.le_of_ble_eq_true rfl)) rfl rfl rfl ?_
  refine me1 (pc' := 123) (L' := [(2, .int (38 : Int32)), (0, .ref 102), (1, .int (0 : Int32))]) dm_X12_keep_120 rfl rfl rfl rfl ?_
  refine me2 (pc' := 40) dm_X12_keep_123 rfl rfl rfl ?_
  refine me1 (pc' := 41) dm_X12_keep_40 rfl rfl rfl rfl ?_
  refine me0 (pc' := 43) (S' := .int (40 : Int32) :: _) dm_X12_keep_41 rfl rfl rfl rfl ?_
  refine me_2f (pc' := 46) dm_X12_keep_43 rfl (by decide) rfl ?_
  refine me1 (pc' := 47) dm_X12_keep_46 rfl rfl rfl rfl ?_
  refine me3 (pc' := 50) dm_X12_keep_47 (g_get (v := .ref 114) (lu (n := 102) (j := 0) hn rfl) rfl rfl (Nat.le_of_ble_eq_true rfl)) rfl rfl rfl ?_
  refine me0 (pc' := 52) (S' := .int (80 : Int32) :: _) dm_X12_keep_50 rfl rfl rfl rfl ?_
  refine me1 (pc' := 53) dm_X12_keep_52 rfl rfl rfl rfl ?_
  refine me0 (pc' := 54) (S' := .int (0 : Int32) :: _) dm_X12_keep_53 rfl rfl rfl rfl ?_
  refine me1 (pc' := 55) dm_X12_keep_54 rfl rfl rfl rfl ?_
  refine me0 (pc' := 56) (S' := .int (38 : Int32) :: _) dm_X12_keep_55 rfl rfl rfl rfl ?_
  refine me1 (pc' := 57) dm_X12_keep_56 rfl rfl rfl rfl ?_
  refine me3 (pc' := 60) dm_X12_keep_57 (g_get (v := .ref 110) (lu (n := 102) (j := 0) hn rfl) rfl rfl (Nat.le_of_ble_eq_true rfl)) rfl rfl rfl ?_
  refine me1 (pc' := 61) dm_X12_keep_60 rfl rfl rfl rfl ?_
  refine me3 (pc' := 62) dm_X12_keep_61 (g_lald (v := (0 : Int64)) (lu (n := 102) (j := 8) hn rfl) rfl (by decide) rfl (Nat.le_of_ble_eq_true rfl)) rfl rfl rfl ?_
  refine me3 (pc' := 63) dm_X12_keep_62 (u_last (n := 102) (j := 12) hn rfl rfl (by decide) rfl (Nat.le_of_ble_eq_true rfl)) rfl rfl rfl ?_
  refine me1 (pc' := 64) dm_X12_keep_63 rfl rfl rfl rfl ?_
  refine me3 (pc' := 67) dm_X12_keep_64 (g_get (v := .ref 115) (lu (n := 102) (j := 0) hn rfl) rfl rfl (Nat.le_of_ble_eq_true rfl)) rfl rfl rfl ?_
  refine me0 (pc' := 69) (S' := .int (80 : Int32) :: _) dm_X12_keep_67 rfl rfl rfl rfl ?_
  refine me1 (pc' := 70) dm_X12_keep_69 rfl rfl rfl rfl ?_
  refine me0 (pc' := 71) (S' := .int (0 : Int32) :: _) dm_X12_keep_70 rfl rfl rfl rfl ?_
  refine me1 (pc' := 72) dm_X12_keep_71 rfl rfl rfl rfl ?_
  refine me0 (pc' := 73) (S' := .int (38 : Int32) :: _) dm_X12_keep_72 rfl rfl rfl rfl ?_
  refine me1 (pc' := 74) dm_X12_keep_73 rfl rfl rfl rfl ?_
  refine me3 (pc' := 77) dm_X12_keep_74 (g_get (v := .ref 112) (lu (n := 102) (j := 0) hn rfl) rfl rfl (Nat.le_of_ble_eq_true rfl)) rfl rfl rfl ?_
  refine me1 (pc' := 78) dm_X12_keep_77 rfl rfl rfl rfl ?_
  refine me3 (pc' := 79) dm_X12_keep_78 (g_iald (v := (0 : Int32)) (lu (n := 102) (j := 10) hn rfl) rfl (by decide) rfl (Nat.le_of_ble_eq_true rfl)) rfl rfl rfl ?_
  refine me3 (pc' := 80) dm_X12_keep_79 (u_iast (n := 102) (j := 13) hn rfl rfl (by decide) rfl (Nat.le_of_ble_eq_true rfl)) rfl rfl rfl ?_
  refine me1 (pc' := 81) dm_X12_keep_80 rfl rfl rfl rfl ?_
  refine me3 (pc' := 84) dm_X12_keep_81 (g_get (v := .ref 114) (lu (n := 102) (j := 0) hn rfl) rfl rfl (Nat.le_of_ble_eq_true rfl)) rfl rfl rfl ?_
  refine me0 (pc' := 86) (S' := .int (80 : Int32) :: _) dm_X12_keep_84 rfl rfl rfl rfl ?_
  refine me1 (pc' := 87) dm_X12_keep_86 rfl rfl rfl rfl ?_
  refine me0 (pc' := 88) (S' := .int (0 : Int32) :: _) dm_X12_keep_87 rfl rfl rfl rfl ?_
  refine me0 (pc' := 90) (S' := .int (40 : Int32) :: _) dm_X12_keep_88 rfl rfl rfl rfl ?_
  refine me0 (pc' := 91) (S' := .int (40 : Int32) :: _) dm_X12_keep_90 rfl rfl rfl rfl ?_
  refine me1 (pc' := 92) dm_X12_keep_91 rfl rfl rfl rfl ?_
  refine me0 (pc' := 93) (S' := .int (78 : Int32) :: _) dm_X12_keep_92 rfl rfl rfl rfl ?_
  refine me1 (pc' := 94) dm_X12_keep_93 rfl rfl rfl rfl ?_
  refine me3 (pc' := 97) dm_X12_keep_94 (g_get (v := .ref 111) (lu (n := 102) (j := 0) hn rfl) rfl rfl (Nat.le_of_ble_eq_true rfl)) rfl rfl rfl ?_
  refine me1 (pc' := 98) dm_X12_keep_97 rfl rfl rfl rfl ?_
  refine me3 (pc' := 99) dm_X12_keep_98 (g_lald (v := (0 : Int64)) (lu (n := 102) (j := 9) hn rfl) rfl (by decide) rfl (Nat.le_of_ble_eq_true rfl)) rfl rfl rfl ?_
  refine me3 (pc' := 100) dm_X12_keep_99 (u_last (n := 102) (j := 12) hn rfl rfl (by decide) rfl (Nat.le_of_ble_eq_true rfl)) rfl rfl rfl ?_
  refine me1 (pc' := 101) dm_X12_keep_100 rfl rfl rfl rfl ?_
  refine me3 (pc' := 104) dm_X12_keep_101 (g_get (v := .ref 115) (lu (n := 102) (j := 0) hn rfl) rfl rfl (Nat.le_of_ble_eq_true rfl)) rfl rfl rfl ?_
  refine me0 (pc' := 106) (S' := .int (80 : Int32) :: _) dm_X12_keep_104 rfl rfl rfl rfl ?_
  refine me1 (pc' := 107) dm_X12_keep_106 rfl rfl rfl rfl ?_
  refine me0 (pc' := 108) (S' := .int (0 : Int32) :: _) dm_X12_keep_107 rfl rfl rfl rfl ?_
  refine me0 (pc' := 110) (S' := .int (40 : Int32) :: _) dm_X12_keep_108 rfl rfl rfl rfl ?_
  refine me0 (pc' := 111) (S' := .int (40 : Int32) :: _) dm_X12_keep_110 rfl rfl rfl rfl ?_
  refine me1 (pc' := 112) dm_X12_keep_111 rfl rfl rfl rfl ?_
  refine me0 (pc' := 113) (S' := .int (78 : Int32) :: _) dm_X12_keep_112 rfl rfl rfl rfl ?_
  refine me1 (pc' := 114) dm_X12_keep_113 rfl rfl rfl rfl ?_
  refine me3 (pc' := 117) dm_X12_keep_114 (g_get (v := .ref 113) (lu (n := 102) (j := 0) hn rfl) rfl rfl (Nat.le_of_ble_eq_true rfl)) rfl rfl rfl ?_
  refine me1 (pc' := 118) dm_X12_keep_117 rfl rfl rfl rfl ?_
  refine me3 (pc' := 119) dm_X12_keep_118 (g_iald (v := (0 : Int32)) (lu (n := 102) (j := 11) hn rfl) rfl (by decide) rfl (Nat.le_of_ble_eq_true rfl)) rfl rfl rfl ?_
  refine me3 (pc' := 120) dm_X12_keep_119 (u_iast (n := 102) (j := 13) hn rfl rfl (by decide) rfl (Nat.le_of_ble_eq_true rfl)) rfl rfl rfl ?_
  refine me1 (pc' := 123) (L' := [(2, .int (39 : Int32)), (0, .ref 102), (1, .int (0 : Int32))]) dm_X12_keep_120 rfl rfl rfl rfl ?_
  refine me2 (pc' := 40) dm_X12_keep_123 rfl rfl rfl ?_
  refine me1 (pc' := 41) dm_X12_keep_40 rfl rfl rfl rfl ?_
  refine me0 (pc' := 43) (S' := .int (40 : Int32) :: _) dm_X12_keep_41 rfl rfl rfl rfl ?_
  refine me_2f (pc' := 46) dm_X12_keep_43 rfl (by decide) rfl ?_
  refine me1 (pc' := 47) dm_X12_keep_46 rfl rfl rfl rfl ?_
  refine me3 (pc' := 50) dm_X12_keep_47 (g_get (v := .ref 114) (lu (n := 102) (j := 0) hn rfl) rfl rfl (Nat.le_of_ble_eq_true rfl)) rfl rfl rfl ?_
  refine me0 (pc' := 52) (S' := .int (80 : Int32) :: _) dm_X12_keep_50 rfl rfl rfl rfl ?_
  refine me1 (pc' := 53) dm_X12_keep_52 rfl rfl rfl rfl ?_
  refine me0 (pc' := 54) (S' := .int (0 : Int32) :: _) dm_X12_keep_53 rfl rfl rfl rfl ?_
  refine me1 (pc' := 55) dm_X12_keep_54 rfl rfl rfl rfl ?_
  refine me0 (pc' := 56) (S' := .int (39 : Int32) :: _) dm_X12_keep_55 rfl rfl rfl rfl ?_
  refine me1 (pc' := 57) dm_X12_keep_56 rfl rfl rfl rfl ?_
  refine me3 (pc' := 60) dm_X12_keep_57 (g_get (v := .ref 110) (lu (n := 102) (j := 0) hn rfl) rfl rfl (Nat.le_of_ble_eq_true rfl)) rfl rfl rfl ?_
  refine me1 (pc' := 61) dm_X12_keep_60 rfl rfl rfl rfl ?_
  refine me3 (pc' := 62) dm_X12_keep_61 (g_lald (v := (0 : Int64)) (lu (n := 102) (j := 8) hn rfl) rfl (by decide) rfl (Nat.le_of_ble_eq_true rfl)) rfl rfl rfl ?_
  refine me3 (pc' := 63) dm_X12_keep_62 (u_last (n := 102) (j := 12) hn rfl rfl (by decide) rfl (Nat.le_of_ble_eq_true rfl)) rfl rfl rfl ?_
  refine me1 (pc' := 64) dm_X12_keep_63 rfl rfl rfl rfl ?_
  refine me3 (pc' := 67) dm_X12_keep_64 (g_get (v := .ref 115) (lu (n := 102) (j := 0) hn rfl) rfl rfl (Nat.le_of_ble_eq_true rfl)) rfl rfl rfl ?_
  refine me0 (pc' := 69) (S' := .int (80 : Int32) :: _) dm_X12_keep_67 rfl rfl rfl rfl ?_
  refine me1 (pc' := 70) dm_X12_keep_69 rfl rfl rfl rfl ?_
  refine me0 (pc' := 71) (S' := .int (0 : Int32) :: _) dm_X12_keep_70 rfl rfl rfl rfl ?_
  refine me1 (pc' := 72) dm_X12_keep_71 rfl rfl rfl rfl ?_
  refine me0 (pc' := 73) (S' := .int (39 : Int32) :: _) dm_X12_keep_72 rfl rfl rfl rfl ?_
  refine me1 (pc' := 74) dm_X12_keep_73 rfl rfl rfl rfl ?_
  refine me3 (pc' := 77) dm_X12_keep_74 (g_get (v := .ref 112) (lu (n := 102) (j := 0) hn rfl) rfl rfl (Nat.le_of_ble_eq_true rfl)) rfl rfl rfl ?_
  refine me1 (pc' := 78) dm_X12_keep_77 rfl rfl rfl rfl ?_
  refine me3 (pc' := 79) dm_X12_keep_78 (g_iald (v := (0 : Int32)) (lu (n := 102) (j := 10) hn rfl) rfl (by decide) rfl (Nat.le_of_ble_eq_true rfl)) rfl rfl rfl ?_
  refine me3 (pc' := 80) dm_X12_keep_79 (u_iast (n := 102) (j := 13) hn rfl rfl (by decide) rfl (Nat.le_of_ble_eq_true rfl)) rfl rfl rfl ?_
  refine me1 (pc' := 81) dm_X12_keep_80 rfl rfl rfl rfl ?_
  refine me3 (pc' := 84) dm_X12_keep_81 (g_get (v := .ref 114) (lu (n := 102) (j := 0) hn rfl) rfl rfl (Nat.le_of_ble_eq_true rfl)) rfl rfl rfl ?_
  refine me0 (pc' := 86) (S' := .int (80 : Int32) :: _) dm_X12_keep_84 rfl rfl rfl rfl ?_
  refine me1 (pc' := 87) dm_X12_keep_86 rfl rfl rfl rfl ?_
  refine me0 (pc' := 88) (S' := .int (0 : Int32) :: _) dm_X12_keep_87 rfl rfl rfl rfl ?_
  refine me0 (pc' := 90) (S' := .int (40 : Int32) :: _) dm_X12_keep_88 rfl rfl rfl rfl ?_
  refine me0 (pc' := 91) (S' := .int (40 : Int32) :: _) dm_X12_keep_90 rfl rfl rfl rfl ?_
  refine me1 (pc' := 92) dm_X12_keep_91 rfl rfl rfl rfl ?_
  refine me0 (pc' := 93) (S' := .int (79 : Int32) :: _) dm_X12_keep_92 rfl rfl rfl rfl ?_
  refine me1 (pc' := 94) dm_X12_keep_93 rfl rfl rfl rfl ?_
  refine me3 (pc' := 97) dm_X12_keep_94 (g_get (v := .ref 111) (lu (n := 102) (j := 0) hn rfl) rfl rfl (Nat.le_of_ble_eq_true rfl)) rfl rfl rfl ?_
  refine me1 (pc' := 98) dm_X12_keep_97 rfl rfl rfl rfl ?_
  refine me3 (pc' := 99) dm_X12_keep_98 (g_lald (v := (0 : Int64)) (lu (n := 102) (j := 9) hn rfl) rfl (by decide) rfl (Nat.le_of_ble_eq_true rfl)) rfl rfl rfl ?_
  refine me3 (pc' := 100) dm_X12_keep_99 (u_last (n := 102) (j := 12) hn rfl rfl (by decide) rfl (Nat.le_of_ble_eq_true rfl)) rfl rfl rfl ?_
  refine me1 (pc' := 101) dm_X12_keep_100 rfl rfl rfl rfl ?_
  refine me3 (pc' := 104) dm_X12_keep_101 (g_get (v := .ref 115) (lu (n := 102) (j := 0) hn rfl) rfl rfl (Nat.le_of_ble_eq_true rfl)) rfl rfl rfl ?_
  refine me0 (pc' := 106) (S' := .int (80 : Int32) :: _) dm_X12_keep_104 rfl rfl rfl rfl ?_
  refine me1 (pc' := 107) dm_X12_keep_106 rfl rfl rfl rfl ?_
  refine me0 (pc' := 108) (S' := .int (0 : Int32) :: _) dm_X12_keep_107 rfl rfl rfl rfl ?_
  refine me0 (pc' := 110) (S' := .int (40 : Int32) :: _) dm_X12_keep_108 rfl rfl rfl rfl ?_
  refine me0 (pc' := 111) (S' := .int (40 : Int32) :: _) dm_X12_keep_110 rfl rfl rfl rfl ?_
  refine me1 (pc' := 112) dm_X12_keep_111 rfl rfl rfl rfl ?_
  refine me0 (pc' := 113) (S' := .int (79 : Int32) :: _) dm_X12_keep_112 rfl rfl rfl rfl ?_
  refine me1 (pc' := 114) dm_X12_keep_113 rfl rfl rfl rfl ?_
  refine me3 (pc' := 117) dm_X12_keep_114 (g_get (v := .ref 113) (lu (n := 102) (j := 0) hn rfl) rfl rfl (Nat.le_of_ble_eq_true rfl)) rfl rfl rfl ?_
  refine me1 (pc' := 118) dm_X12_keep_117 rfl rfl rfl rfl ?_
  refine me3 (pc' := 119) dm_X12_keep_118 (g_iald (v := (0 : Int32)) (lu (n := 102) (j := 11) hn rfl) rfl (by decide) rfl (Nat.le_of_ble_eq_true rfl)) rfl rfl rfl ?_
  refine me3 (pc' := 120) dm_X12_keep_119 (u_iast (n := 102) (j := 13) hn rfl rfl (by decide) rfl (Nat.le_of_ble_eq_true rfl)) rfl rfl rfl ?_
  refine me1 (pc' := 123) (L' := [(2, .int (40 : Int32)), (0, .ref 102), (1, .int (0 : Int32))]) dm_X12_keep_120 rfl rfl rfl rfl ?_
  refine me2 (pc' := 40) dm_X12_keep_123 rfl rfl rfl ?_
  refine me1 (pc' := 41) dm_X12_keep_40 rfl rfl rfl rfl ?_
  refine me0 (pc' := 43) (S' := .int (40 : Int32) :: _) dm_X12_keep_41 rfl rfl rfl rfl ?_
  refine me_2t (pc' := 126) dm_X12_keep_43 rfl rfl ?_
  refine me0 (pc' := 127) (S' := .int (1 : Int32) :: _) dm_X12_keep_126 rfl rfl rfl rfl ?_
  refine me5 dm_X12_keep_127 rfl rfl rfl ?_
  exact k _ rfl (Nat.le_of_ble_eq_true rfl)
set_option maxRecDepth 100000 in
set_option maxHeartbeats 40000000 in
theorem r_keep_v1 {xt : mj_X} {d : Nat} {h W : mj_H} (hn : h.length = 102) {P : Option Value → mj_H → Prop}  (k : ∀ U, U.length = 25 → mj_sl U ≤ 3000000 → P (some (.int (1 : Int32))) (h ++ (U ++ W))) : pgE xt (d + 20) 12 3 false (Option.some FieldType.boolean) (mj_dec prog_14_method_119_code) 0 [(0, .ref 102), (1, .int (1 : Int32))] [] (h ++ (rT ++ W)) P := by
  refine me1 (pc' := 1) dm_X12_keep_0 rfl rfl rfl rfl ?_
  refine me_1f (pc' := 4) dm_X12_keep_1 rfl (by decide) rfl ?_
  refine me1 (pc' := 5) dm_X12_keep_4 rfl rfl rfl rfl ?_
  refine me0 (pc' := 6) (S' := .int (3 : Int32) :: _) dm_X12_keep_5 rfl rfl rfl rfl ?_
  refine me_2t (pc' := 11) dm_X12_keep_6 rfl rfl ?_
  refine me1 (pc' := 12) dm_X12_keep_11 rfl rfl rfl rfl ?_
  refine me3 (pc' := 15) dm_X12_keep_12 (g_get (v := .ref 118) (lu (n := 102) (j := 0) hn rfl) rfl rfl (Nat.le_of_ble_eq_true rfl)) rfl rfl rfl ?_
  refine me1 (pc' := 16) dm_X12_keep_15 rfl rfl rfl rfl ?_
  refine me0 (pc' := 17) (S' := .int (1 : Int32) :: _) dm_X12_keep_16 rfl rfl rfl rfl ?_
  refine me3 (pc' := 18) dm_X12_keep_17 (u_zast (n := 102) (j := 16) hn rfl rfl (by decide) rfl (Nat.le_of_ble_eq_true rfl)) rfl rfl rfl ?_
  refine me1 (pc' := 19) dm_X12_keep_18 rfl rfl rfl rfl ?_
  refine me3 (pc' := 22) dm_X12_keep_19 (g_get (v := .ref 116) (lu (n := 102) (j := 0) hn rfl) rfl rfl (Nat.le_of_ble_eq_true rfl)) rfl rfl rfl ?_
  refine me1 (pc' := 23) dm_X12_keep_22 rfl rfl rfl rfl ?_
  refine me1 (pc' := 24) dm_X12_keep_23 rfl rfl rfl rfl ?_
  refine me3 (pc' := 27) dm_X12_keep_24 (g_get (v := .int (0 : Int32)) (lu (n := 102) (j := 0) hn rfl) rfl rfl (Nat.le_of_ble_eq_true rfl)) rfl rfl rfl ?_
  refine me3 (pc' := 28) dm_X12_keep_27 (u_iast (n := 102) (j := 14) hn rfl rfl (by decide) rfl (Nat.le_of_ble_eq_true rfl)) rfl rfl rfl ?_
  refine me1 (pc' := 29) dm_X12_keep_28 rfl rfl rfl rfl ?_
  refine me3 (pc' := 32) dm_X12_keep_29 (g_get (v := .ref 117) (lu (n := 102) (j := 0) hn rfl) rfl rfl (Nat.le_of_ble_eq_true rfl)) rfl rfl rfl ?_
  refine me1 (pc' := 33) dm_X12_keep_32 rfl rfl rfl rfl ?_
  refine me1 (pc' := 34) dm_X12_keep_33 rfl rfl rfl rfl ?_
  refine me3 (pc' := 37) dm_X12_keep_34 (g_get (v := .int (0 : Int32)) (lu (n := 102) (j := 0) hn rfl) rfl rfl (Nat.le_of_ble_eq_true rfl)) rfl rfl rfl ?_
  refine me3 (pc' := 38) dm_X12_keep_37 (u_iast (n := 102) (j := 15) hn rfl rfl (by decide) rfl (Nat.le_of_ble_eq_true rfl)) rfl rfl rfl ?_
  refine me0 (pc' := 39) (S' := .int (0 : Int32) :: _) dm_X12_keep_38 rfl rfl rfl rfl ?_
  refine me1 (pc' := 40) (L' := [(2, .int (0 : Int32)), (0, .ref 102), (1, .int (1 : Int32))]) dm_X12_keep_39 rfl rfl rfl rfl ?_
  refine me1 (pc' := 41) dm_X12_keep_40 rfl rfl rfl rfl ?_
  refine me0 (pc' := 43) (S' := .int (40 : Int32) :: _) dm_X12_keep_41 rfl rfl rfl rfl ?_
  refine me_2f (pc' := 46) dm_X12_keep_43 rfl (by decide) rfl ?_
  refine me1 (pc' := 47) dm_X12_keep_46 rfl rfl rfl rfl ?_
  refine me3 (pc' := 50) dm_X12_keep_47 (g_get (v := .ref 114) (lu (n := 102) (j := 0) hn rfl) rfl rfl (Nat.le_of_ble_eq_true rfl)) rfl rfl rfl ?_
  refine me0 (pc' := 52) (S' := .int (80 : Int32) :: _) dm_X12_keep_50 rfl rfl rfl rfl ?_
  refine me1 (pc' := 53) dm_X12_keep_52 rfl rfl rfl rfl ?_
  refine me0 (pc' := 54) (S' := .int (80 : Int32) :: _) dm_X12_keep_53 rfl rfl rfl rfl ?_
  refine me1 (pc' := 55) dm_X12_keep_54 rfl rfl rfl rfl ?_
  refine me0 (pc' := 56) (S' := .int (80 : Int32) :: _) dm_X12_keep_55 rfl rfl rfl rfl ?_
  refine me1 (pc' := 57) dm_X12_keep_56 rfl rfl rfl rfl ?_
  refine me3 (pc' := 60) dm_X12_keep_57 (g_get (v := .ref 110) (lu (n := 102) (j := 0) hn rfl) rfl rfl (Nat.le_of_ble_eq_true rfl)) rfl rfl rfl ?_
  refine me1 (pc' := 61) dm_X12_keep_60 rfl rfl rfl rfl ?_
  refine me3 (pc' := 62) dm_X12_keep_61 (g_lald (v := (0 : Int64)) (lu (n := 102) (j := 8) hn rfl) rfl (by decide) rfl (Nat.le_of_ble_eq_true rfl)) rfl rfl rfl ?_
  refine me3 (pc' := 63) dm_X12_keep_62 (u_last (n := 102) (j := 12) hn rfl rfl (by decide) rfl (Nat.le_of_ble_eq_true rfl)) rfl rfl rfl ?_
  refine me1 (pc' := 64) dm_X12_keep_63 rfl rfl rfl rfl ?_
  refine me3 (pc' := 67) dm_X12_keep_64 (g_get (v := .ref 115) (lu (n := 102) (j := 0) hn rfl) rfl rfl (Nat.le_of_ble_eq_true rfl)) rfl rfl rfl ?_
  refine me0 (pc' := 69) (S' := .int (80 : Int32) :: _) dm_X12_keep_67 rfl rfl rfl rfl ?_
  refine me1 (pc' := 70) dm_X12_keep_69 rfl rfl rfl rfl ?_
  refine me0 (pc' := 71) (S' := .int (80 : Int32) :: _) dm_X12_keep_70 rfl rfl rfl rfl ?_
  refine me1 (pc' := 72) dm_X12_keep_71 rfl rfl rfl rfl ?_
  refine me0 (pc' := 73) (S' := .int (80 : Int32) :: _) dm_X12_keep_72 rfl rfl rfl rfl ?_
  refine me1 (pc' := 74) dm_X12_keep_73 rfl rfl rfl rfl ?_
  refine me3 (pc' := 77) dm_X12_keep_74 (g_get (v := .ref 112) (lu (n := 102) (j := 0) hn rfl) rfl rfl (Nat.le_of_ble_eq_true rfl)) rfl rfl rfl ?_
  refine me1 (pc' := 78) dm_X12_keep_77 rfl rfl rfl rfl ?_
  refine me3 (pc' := 79) dm_X12_keep_78 (g_iald (v := (0 : Int32)) (lu (n := 102) (j := 10) hn rfl) rfl (by decide) rfl (Nat.le_of_ble_eq_true rfl)) rfl rfl rfl ?_
  refine me3 (pc' := 80) dm_X12_keep_79 (u_iast (n := 102) (j := 13) hn rfl rfl (by decide) rfl (Nat.le_of_ble_eq_true rfl)) rfl rfl rfl ?_
  refine me1 (pc' := 81) dm_X12_keep_80 rfl rfl rfl rfl ?_
  refine me3 (pc' := 84) dm_X12_keep_81 (g_get (v := .ref 114) (lu (n := 102) (j := 0) hn rfl) rfl rfl (Nat.le_of_ble_eq_true rfl)) rfl rfl rfl ?_
  refine me0 (pc' := 86) (S' := .int (80 : Int32) :: _) dm_X12_keep_84 rfl rfl rfl rfl ?_
  refine me1 (pc' := 87) dm_X12_keep_86 rfl rfl rfl rfl ?_
  refine me0 (pc' := 88) (S' := .int (80 : Int32) :: _) dm_X12_keep_87 rfl rfl rfl rfl ?_
  refine me0 (pc' := 90) (S' := .int (40 : Int32) :: _) dm_X12_keep_88 rfl rfl rfl rfl ?_
  refine me0 (pc' := 91) (S' := .int (120 : Int32) :: _) dm_X12_keep_90 rfl rfl rfl rfl ?_
  refine me1 (pc' := 92) dm_X12_keep_91 rfl rfl rfl rfl ?_
  refine me0 (pc' := 93) (S' := .int (120 : Int32) :: _) dm_X12_keep_92 rfl rfl rfl rfl ?_
  refine me1 (pc' := 94) dm_X12_keep_93 rfl rfl rfl rfl ?_
  refine me3 (pc' := 97) dm_X12_keep_94 (g_get (v := .ref 111) (lu (n := 102) (j := 0) hn rfl) rfl rfl (Nat.le_of_ble_eq_true rfl)) rfl rfl rfl ?_
  refine me1 (pc' := 98) dm_X12_keep_97 rfl rfl rfl rfl ?_
  refine me3 (pc' := 99) dm_X12_keep_98 (g_lald (v := (0 : Int64)) (lu (n := 102) (j := 9) hn rfl) rfl (by decide) rfl (Nat.le_of_ble_eq_true rfl)) rfl rfl rfl ?_
  refine me3 (pc' := 100) dm_X12_keep_99 (u_last (n := 102) (j := 12) hn rfl rfl (by decide) rfl (Nat.le_of_ble_eq_true rfl)) rfl rfl rfl ?_
  refine me1 (pc' := 101) dm_X12_keep_100 rfl rfl rfl rfl ?_
  refine me3 (pc' := 104) dm_X12_keep_101 (g_get (v := .ref 115) (lu (n := 102) (j := 0) hn rfl) rfl rfl (Nat.le_of_ble_eq_true rfl)) rfl rfl rfl ?_
  refine me0 (pc' := 106) (S' := .int (80 : Int32) :: _) dm_X12_keep_104 rfl rfl rfl rfl ?_
  refine me1 (pc' := 107) dm_X12_keep_106 rfl rfl rfl rfl ?_
  refine me0 (pc' := 108) (S' := .int (80 : Int32) :: _) dm_X12_keep_107 rfl rfl rfl rfl ?_
  refine me0 (pc' := 110) (S' := .int (40 : Int32) :: _) dm_X12_keep_108 rfl rfl rfl rfl ?_
  refine me0 (pc' := 111) (S' := .int (120 : Int32) :: _) dm_X12_keep_110 rfl rfl rfl rfl ?_
  refine me1 (pc' := 112) dm_X12_keep_111 rfl rfl rfl rfl ?_
  refine me0 (pc' := 113) (S' := .int (120 : Int32) :: _) dm_X12_keep_112 rfl rfl rfl rfl ?_
  refine me1 (pc' := 114) dm_X12_keep_113 rfl rfl rfl rfl ?_
  refine me3 (pc' := 117) dm_X12_keep_114 (g_get (v := .ref 113) (lu (n := 102) (j := 0) hn rfl) rfl rfl (Nat.le_of_ble_eq_true rfl)) rfl rfl rfl ?_
  refine me1 (pc' := 118) dm_X12_keep_117 rfl rfl rfl rfl ?_
  refine me3 (pc' := 119) dm_X12_keep_118 (g_iald (v := (0 : Int32)) (lu (n := 102) (j := 11) hn rfl) rfl (by decide) rfl (Nat.le_of_ble_eq_true rfl)) rfl rfl rfl ?_
  refine me3 (pc' := 120) dm_X12_keep_119 (u_iast (n := 102) (j := 13) hn rfl rfl (by decide) rfl (Nat.le_of_ble_eq_true rfl)) rfl rfl rfl ?_
  refine me1 (pc' := 123) (L' := [(2, .int (1 : Int32)), (0, .ref 102), (1, .int (1 : Int32))]) dm_X12_keep_120 rfl rfl rfl rfl ?_
  refine me2 (pc' := 40) dm_X12_keep_123 rfl rfl rfl ?_
  refine me1 (pc' := 41) dm_X12_keep_40 rfl rfl rfl rfl ?_
  refine me0 (pc' := 43) (S' := .int (40 : Int32) :: _) dm_X12_keep_41 rfl rfl rfl rfl ?_
  refine me_2f (pc' := 46) dm_X12_keep_43 rfl (by decide) rfl ?_
  refine me1 (pc' := 47) dm_X12_keep_46 rfl rfl rfl rfl ?_
  refine me3 (pc' := 50) dm_X12_keep_47 (g_get (v := .ref 114) (lu (n := 102) (j := 0) hn rfl) rfl rfl (Nat.le_of_ble_eq_true rfl)) rfl rfl rfl ?_
  refine me0 (pc' := 52) (S' := .int (80 : Int32) :: _) dm_X12_keep_50 rfl rfl rfl rfl ?_
  refine me1 (pc' := 53) dm_X12_keep_52 rfl rfl rfl rfl ?_
  refine me0 (pc' := 54) (S' := .int (80 : Int32) :: _) dm_X12_keep_53 rfl rfl rfl rfl ?_
  refine me1 (pc' := 55) dm_X12_keep_54 rfl rfl rfl rfl ?_
  refine me0 (pc' := 56) (S' := .int (81 : Int32) :: _) dm_X12_keep_55 rfl rfl rfl rfl ?_
  refine me1 (pc' := 57) dm_X12_keep_56 rfl rfl rfl rfl ?_
  refine me3 (pc' := 60) dm_X12_keep_57 (g_get (v := .ref 110) (lu (n := 102) (j := 0) hn rfl) rfl rfl (Nat.le_of_ble_eq_true rfl)) rfl rfl rfl ?_
  refine me1 (pc' := 61) dm_X12_keep_60 rfl rfl rfl rfl ?_
  refine me3 (pc' := 62) dm_X12_keep_61 (g_lald (v := (0 : Int64)) (lu (n := 102) (j := 8) hn rfl) rfl (by decide) rfl (Nat.le_of_ble_eq_true rfl)) rfl rfl rfl ?_
  refine me3 (pc' := 63) dm_X12_keep_62 (u_last (n := 102) (j := 12) hn rfl rfl (by decide) rfl (Nat.le_of_ble_eq_true rfl)) rfl rfl rfl ?_
  refine me1 (pc' := 64) dm_X12_keep_63 rfl rfl rfl rfl ?_
  refine me3 (pc' := 67) dm_X12_keep_64 (g_get (v := .ref 115) (lu (n := 102) (j := 0) hn rfl) rfl rfl (Nat.le_of_ble_eq_true rfl)) rfl rfl rfl ?_
  refine me0 (pc' := 69) (S' := .int (80 : Int32) :: _) dm_X12_keep_67 rfl rfl rfl rfl ?_
  refine me1 (pc' := 70) dm_X12_keep_69 rfl rfl rfl rfl ?_
  refine me0 (pc' := 71) (S' := .int (80 : Int32) :: _) dm_X12_keep_70 rfl rfl rfl rfl ?_
  refine me1 (pc' := 72) dm_X12_keep_71 rfl rfl rfl rfl ?_
  refine me0 (pc' := 73) (S' := .int (81 : Int32) :: _) dm_X12_keep_72 rfl rfl rfl rfl ?_
  refine me1 (pc' := 74) dm_X12_keep_73 rfl rfl rfl rfl ?_
  refine me3 (pc' := 77) dm_X12_keep_74 (g_get (v := .ref 112) (lu (n := 102) (j := 0) hn rfl) rfl rfl (Nat.le_of_ble_eq_true rfl)) rfl rfl rfl ?_
  refine me1 (pc' := 78) dm_X12_keep_77 rfl rfl rfl rfl ?_
  refine me3 (pc' := 79) dm_X12_keep_78 (g_iald (v := (0 : Int32)) (lu (n := 102) (j := 10) hn rfl) rfl (by decide) rfl (Nat.le_of_ble_eq_true rfl)) rfl rfl rfl ?_
  refine me3 (pc' := 80) dm_X12_keep_79 (u_iast (n := 102) (j := 13) hn rfl rfl (by decide) rfl (Nat.le_of_ble_eq_true rfl)) rfl rfl rfl ?_
  refine me1 (pc' := 81) dm_X12_keep_80 rfl rfl rfl rfl ?_
  refine me3 (pc' := 84) dm_X12_keep_81 (g_get (v := .ref 114) (lu (n := 102) (j := 0) hn rfl) rfl rfl (Nat.le_of_ble_eq_true rfl)) rfl rfl rfl ?_
  refine me0 (pc' := 86) (S' := .int (80 : Int32) :: _) dm_X12_keep_84 rfl rfl rfl rfl ?_
  refine me1 (pc' := 87) dm_X12_keep_86 rfl rfl rfl rfl ?_
  refine me0 (pc' := 88) (S' := .int (80 : Int32) :: _) dm_X12_keep_87 rfl rfl rfl rfl ?_
  refine me0 (pc' := 90) (S' := .int (40 : Int32) :: _) dm_X12_keep_88 rfl rfl rfl rfl ?_
  refine me0 (pc' := 91) (S' := .int (120 : Int32) :: _) dm_X12_keep_90 rfl rfl rfl rfl ?_
  refine me1 (pc' := 92) dm_X12_keep_91 rfl rfl rfl rfl ?_
  refine me0 (pc' := 93) (S' := .int (121 : Int32) :: _) dm_X12_keep_92 rfl rfl rfl rfl ?_
  refine me1 (pc' := 94) dm_X12_keep_93 rfl rfl rfl rfl ?_
  refine me3 (pc' := 97) dm_X12_keep_94 (g_get (v := .ref 111) (lu (n := 102) (j := 0) hn rfl) rfl rfl (Nat.le_of_ble_eq_true rfl)) rfl rfl rfl ?_
  refine me1 (pc' := 98) dm_X12_keep_97 rfl rfl rfl rfl ?_
  refine me3 (pc' := 99) dm_X12_keep_98 (g_lald (v := (0 : Int64)) (lu (n := 102) (j := 9) hn rfl) rfl (by decide) rfl (Nat.le_of_ble_eq_true rfl)) rfl rfl rfl ?_
  refine me3 (pc' := 100) dm_X12_keep_99 (u_last (n := 102) (j := 12) hn rfl rfl (by decide) rfl (Nat.le_of_ble_eq_true rfl)) rfl rfl rfl ?_
  refine me1 (pc' := 101) dm_X12_keep_100 rfl rfl rfl rfl ?_
  refine me3 (pc' := 104) dm_X12_keep_101 (g_get (v := .ref 115) (lu (n := 102) (j := 0) hn rfl) rfl rfl (Nat.le_of_ble_eq_true rfl)) rfl rfl rfl ?_
  refine me0 (pc' := 106) (S' := .int (80 : Int32) :: _) dm_X12_keep_104 rfl rfl rfl rfl ?_
  refine me1 (pc' := 107) dm_X12_keep_106 rfl rfl rfl rfl ?_
  refine me0 (pc' := 108) (S' := .int (80 : Int32) :: _) dm_X12_keep_107 rfl rfl rfl rfl ?_
  refine me0 (pc' := 110) (S' := .int (40 : Int32) :: _) dm_X12_keep_108 rfl rfl rfl rfl ?_
  refine me0 (pc' := 111) (S' := .int (120 : Int32) :: _) dm_X12_keep_110 rfl rfl rfl rfl ?_
  refine me1 (pc' := 112) dm_X12_keep_111 rfl rfl rfl rfl ?_
  refine me0 (pc' := 113) (S' := .int (121 : Int32) :: _) dm_X12_keep_112 rfl rfl rfl rfl ?_
  refine me1 (pc' := 114) dm_X12_keep_113 rfl rfl rfl rfl ?_
  refine me3 (pc' := 117) dm_X12_keep_114 (g_get (v := .ref 113) (lu (n := 102) (j := 0) hn rfl) rfl rfl (Nat.le_of_ble_eq_true rfl)) rfl rfl rfl ?_
  refine me1 (pc' := 118) dm_X12_keep_117 rfl rfl rfl rfl ?_
  refine me3 (pc' := 119) dm_X12_keep_118 (g_iald (v := (0 : Int32)) (lu (n := 102) (j := 11) hn rfl) rfl (by decide) rfl (Nat.le_of_ble_eq_true rfl)) rfl rfl rfl ?_
  refine me3 (pc' := 120) dm_X12_keep_119 (u_iast (n := 102) (j := 13) hn rfl rfl (by decide) rfl (Nat.le_of_ble_eq_true rfl)) rfl rfl rfl ?_
  refine me1 (pc' := 123) (L' := [(2, .int (2 : Int32)), (0, .ref 102), (1, .int (1 : Int32))]) dm_X12_keep_120 rfl rfl rfl rfl ?_
  refine me2 (pc' := 40) dm_X12_keep_123 rfl rfl rfl ?_
  refine me1 (pc' := 41) dm_X12_keep_40 rfl rfl rfl rfl ?_
  refine me0 (pc' := 43) (S' := .int (40 : Int32) :: _) dm_X12_keep_41 rfl rfl rfl rfl ?_
  refine me_2f (pc' := 46) dm_X12_keep_43 rfl (by decide) rfl ?_
  refine me1 (pc' := 47) dm_X12_keep_46 rfl rfl rfl rfl ?_
  refine me3 (pc' := 50) dm_X12_keep_47 (g_get (v := .ref 114) (lu (n := 102) (j := 0) hn rfl) rfl rfl (Nat.le_of_ble_eq_true rfl)) rfl rfl rfl ?_
  refine me0 (pc' := 52) (S' := .int (80 : Int32) :: _) dm_X12_keep_50 rfl rfl rfl rfl ?_
  refine me1 (pc' := 53) dm_X12_keep_52 rfl rfl rfl rfl ?_
  refine me0 (pc' := 54) (S' := .int (80 : Int32) :: _) dm_X12_keep_53 rfl rfl rfl rfl ?_
  refine me1 (pc' := 55) dm_X12_keep_54 rfl rfl rfl rfl ?_
  refine me0 (pc' := 56) (S' := .int (82 : Int32) :: _) dm_X12_keep_55 rfl rfl rfl rfl ?_
  refine me1 (pc' := 57) dm_X12_keep_56 rfl rfl rfl rfl ?_
  refine me3 (pc' := 60) dm_X12_keep_57 (g_get (v := .ref 110) (lu (n := 102) (j := 0) hn rfl) rfl rfl (Nat.le_of_ble_eq_true rfl)) rfl rfl rfl ?_
  refine me1 (pc' := 61) dm_X12_keep_60 rfl rfl rfl rfl ?_
  refine me3 (pc' := 62) dm_X12_keep_61 (g_lald (v := (0 : Int64)) (lu (n := 102) (j := 8) hn rfl) rfl (by decide) rfl (Nat.le_of_ble_eq_true rfl)) rfl rfl rfl ?_
  refine me3 (pc' := 63) dm_X12_keep_62 (u_last (n := 102) (j := 12) hn rfl rfl (by decide) rfl (Nat.le_of_ble_eq_true rfl)) rfl rfl rfl ?_
  refine me1 (pc' := 64) dm_X12_keep_63 rfl rfl rfl rfl ?_
  refine me3 (pc' := 67) dm_X12_keep_64 (g_get (v := .ref 115) (lu (n := 102) (j := 0) hn rfl) rfl rfl (Nat.le_of_ble_eq_true rfl)) rfl rfl rfl ?_
  refine me0 (pc' := 69) (S' := .int (80 : Int32) :: _) dm_X12_keep_67 rfl rfl rfl rfl ?_
  refine me1 (pc' := 70) dm_X12_keep_69 rfl rfl rfl rfl ?_
  refine me0 (pc' := 71) (S' := .int (80 : Int32) :: _) dm_X12_keep_70 rfl rfl rfl rfl ?_
  refine me1 (pc' := 72) dm_X12_keep_71 rfl rfl rfl rfl ?_
  refine me0 (pc' := 73) (S' := .int (82 : Int32) :: _) dm_X12_keep_72 rfl rfl rfl rfl ?_
  refine me1 (pc' := 74) dm_X12_keep_73 rfl rfl rfl rfl ?_
  refine me3 (pc' := 77) dm_X12_keep_74 (g_get (v := .ref 112) (lu (n := 102) (j := 0) hn rfl) rfl rfl (Nat.le_of_ble_eq_true rfl)) rfl rfl rfl ?_
  refine me1 (pc' := 78) dm_X12_keep_77 rfl rfl rfl rfl ?_
  refine me3 (pc' := 79) dm_X12_keep_78 (g_iald (v := (0 : Int32)) (lu (n := 102) (j := 10) hn rfl) rfl (by decide) rfl (Nat.le_of_ble_eq_true rfl)) rfl rfl rfl ?_
  refine me3 (pc' := 80) dm_X12_keep_79 (u_iast (n := 102) (j := 13) hn rfl rfl (by decide) rfl (Nat.le_of_ble_eq_true rfl)) rfl rfl rfl ?_
  refine me1 (pc' := 81) dm_X12_keep_80 rfl rfl rfl rfl ?_
  refine me3 (pc' := 84) dm_X12_keep_81 (g_get (v := .ref 114) (lu (n := 102) (j := 0) hn rfl) rfl rfl (Nat.le_of_ble_eq_true rfl)) rfl rfl rfl ?_
  refine me0 (pc' := 86) (S' := .int (80 : Int32) :: _) dm_X12_keep_84 rfl rfl rfl rfl ?_
  refine me1 (pc' := 87) dm_X12_keep_86 rfl rfl rfl rfl ?_
  refine me0 (pc' := 88) (S' := .int (80 : Int32) :: _) dm_X12_keep_87 rfl rfl rfl rfl ?_
  refine me0 (pc' := 90) (S' := .int (40 : Int32) :: _) dm_X12_keep_88 rfl rfl rfl rfl ?_
  refine me0 (pc' := 91) (S' := .int (120 : Int32) :: _) dm_X12_keep_90 rfl rfl rfl rfl ?_
  refine me1 (pc' := 92) dm_X12_keep_91 rfl rfl rfl rfl ?_
  refine me0 (pc' := 93) (S' := .int (122 : Int32) :: _) dm_X12_keep_92 rfl rfl rfl rfl ?_
  refine me1 (pc' := 94) dm_X12_keep_93 rfl rfl rfl rfl ?_
  refine me3 (pc' := 97) dm_X12_keep_94 (g_get (v := .ref 111) (lu (n := 102) (j := 0) hn rfl) rfl rfl (Nat.le_of_ble_eq_true rfl)) rfl rfl rfl ?_
  refine me1 (pc' := 98) dm_X12_keep_97 rfl rfl rfl rfl ?_
  refine me3 (pc' := 99) dm_X12_keep_98 (g_lald (v := (0 : Int64)) (lu (n := 102) (j := 9) hn rfl) rfl (by decide) rfl (Nat.le_of_ble_eq_true rfl)) rfl rfl rfl ?_
  refine me3 (pc' := 100) dm_X12_keep_99 (u_last (n := 102) (j := 12) hn rfl rfl (by decide) rfl (Nat.le_of_ble_eq_true rfl)) rfl rfl rfl ?_
  refine me1 (pc' := 101) dm_X12_keep_100 rfl rfl rfl rfl ?_
  refine me3 (pc' := 104) dm_X12_keep_101 (g_get (v := .ref 115) (lu (n := 102) (j := 0) hn rfl) rfl rfl (Nat.le_of_ble_eq_true rfl)) rfl rfl rfl ?_
  refine me0 (pc' := 106) (S' := .int (80 : Int32) :: _) dm_X12_keep_104 rfl rfl rfl rfl ?_
  refine me1 (pc' := 107) dm_X12_keep_106 rfl rfl rfl rfl ?_
  refine me0 (pc' := 108) (S' := .int (80 : Int32) :: _) dm_X12_keep_107 rfl rfl rfl rfl ?_
  refine me0 (pc' := 110) (S' := .int (40 : Int32) :: _) dm_X12_keep_108 rfl rfl rfl rfl ?_
  refine me0 (pc' := 111) (S' := .int (120 : Int32) :: _) dm_X12_keep_110 rfl rfl rfl rfl ?_
  refine me1 (pc' := 112) dm_X12_keep_111 rfl rfl rfl rfl ?_
  refine me0 (pc' := 113) (S' := .int (122 : Int32) :: _) dm_X12_keep_112 rfl rfl rfl rfl ?_
  refine me1 (pc' := 114) dm_X12_keep_113 rfl rfl rfl rfl ?_
  refine me3 (pc' := 117) dm_X12_keep_114 (g_get (v := .ref 113) (lu (n := 102) (j := 0) hn rfl) rfl rfl (Nat.le_of_ble_eq_true rfl)) rfl rfl rfl ?_
  refine me1 (pc' := 118) dm_X12_keep_117 rfl rfl rfl rfl ?_
  refine me3 (pc' := 119) dm_X12_keep_118 (g_iald (v := (0 : Int32)) (lu (n := 102) (j := 11) hn rfl) rfl (by decide) rfl (Nat.le_of_ble_eq_true rfl)) rfl rfl rfl ?_
  refine me3 (pc' := 120) dm_X12_keep_119 (u_iast (n := 102) (j := 13) hn rfl rfl (by decide) rfl (Nat.le_of_ble_eq_true rfl)) rfl rfl rfl ?_
  refine me1 (pc' := 123) (L' := [(2, .int (3 : Int32)), (0, .ref 102), (1, .int (1 : Int32))]) dm_X12_keep_120 rfl rfl rfl rfl ?_
  refine me2 (pc' := 40) dm_X12_keep_123 rfl rfl rfl ?_
  refine me1 (pc' := 41) dm_X12_keep_40 rfl rfl rfl rfl ?_
  refine me0 (pc' := 43) (S' := .int (40 : Int32) :: _) dm_X12_keep_41 rfl rfl rfl rfl ?_
  refine me_2f (pc' := 46) dm_X12_keep_43 rfl (by decide) rfl ?_
  refine me1 (pc' := 47) dm_X12_keep_46 rfl rfl rfl rfl ?_
  refine me3 (pc' := 50) dm_X12_keep_47 (g_get (v := .ref 114) (lu (n := 102) (j := 0) hn rfl) rfl rfl (Nat.le_of_ble_eq_true rfl)) rfl rfl rfl ?_
  refine me0 (pc' := 52) (S' := .int (80 : Int32) :: _) dm_X12_keep_50 rfl rfl rfl rfl ?_
  refine me1 (pc' := 53) dm_X12_keep_52 rfl rfl rfl rfl ?_
  refine me0 (pc' := 54) (S' := .int (80 : Int32) :: _) dm_X12_keep_53 rfl rfl rfl rfl ?_
  refine me1 (pc' := 55) dm_X12_keep_54 rfl rfl rfl rfl ?_
  refine me0 (pc' := 56) (S' := .int (83 : Int32) :: _) dm_X12_keep_55 rfl rfl rfl rfl ?_
  refine me1 (pc' := 57) dm_X12_keep_56 rfl rfl rfl rfl ?_
  refine me3 (pc' := 60) dm_X12_keep_57 (g_get (v := .ref 110) (lu (n := 102) (j := 0) hn rfl) rfl rfl (Nat.le_of_ble_eq_true rfl)) rfl rfl rfl ?_
  refine me1 (pc' := 61) dm_X12_keep_60 rfl rfl rfl rfl ?_
  refine me3 (pc' := 62) dm_X12_keep_61 (g_lald (v := (0 : Int64)) (lu (n := 102) (j := 8) hn rfl) rfl (by decide) rfl (Nat.le_of_ble_eq_true rfl)) rfl rfl rfl ?_
  refine me3 (pc' := 63) dm_X12_keep_62 (u_last (n := 102) (j := 12) hn rfl rfl (by decide) rfl (Nat.le_of_ble_eq_true rfl)) rfl rfl rfl ?_
  refine me1 (pc' := 64) dm_X12_keep_63 rfl rfl rfl rfl ?_
  refine me3 (pc' := 67) dm_X12_keep_64 (g_get (v := .ref 115) (lu (n := 102) (j := 0) hn rfl) rfl rfl (Nat.le_of_ble_eq_true rfl)) rfl rfl rfl ?_
  refine me0 (pc' := 69) (S' := .int (80 : Int32) :: _) dm_X12_keep_67 rfl rfl rfl rfl ?_
  refine me1 (pc' := 70) dm_X12_keep_69 rfl rfl rfl rfl ?_
  refine me0 (pc' := 71) (S' := .int (80 : Int32) :: _) dm_X12_keep_70 rfl rfl rfl rfl ?_
  refine me1 (pc' := 72) dm_X12_keep_71 rfl rfl rfl rfl ?_
  refine me0 (pc' := 73) (S' := .int (83 : Int32) :: _) dm_X12_keep_72 rfl rfl rfl rfl ?_
  refine me1 (pc' := 74) dm_X12_keep_73 rfl rfl rfl rfl ?_
  refine me3 (pc' := 77) dm_X12_keep_74 (g_get (v := .ref 112) (lu (n := 102) (j := 0) hn rfl) rfl rfl (Nat.le_of_ble_eq_true rfl)) rfl rfl rfl ?_
  refine me1 (pc' := 78) dm_X12_keep_77 rfl rfl rfl rfl ?_
  refine me3 (pc' := 79) dm_X12_keep_78 (g_iald (v := (0 : Int32)) (lu (n := 102) (j := 10) hn rfl) rfl (by decide) rfl (Nat.le_of_ble_eq_true rfl)) rfl rfl rfl ?_
  refine me3 (pc' := 80) dm_X12_keep_79 (u_iast (n := 102) (j := 13) hn rfl rfl (by decide) rfl (Nat.le_of_ble_eq_true rfl)) rfl rfl rfl ?_
  refine me1 (pc' := 81) dm_X12_keep_80 rfl rfl rfl rfl ?_
  refine me3 (pc' := 84) dm_X12_keep_81 (g_get (v := .ref 114) (lu (n := 102) (j := 0) hn rfl) rfl rfl (Nat.le_of_ble_eq_true rfl)) rfl rfl rfl ?_
  refine me0 (pc' := 86) (S' := .int (80 : Int32) :: _) dm_X12_keep_84 rfl rfl rfl rfl ?_
  refine me1 (pc' := 87) dm_X12_keep_86 rfl rfl rfl rfl ?_
  refine me0 (pc' := 88) (S' := .int (80 : Int32) :: _) dm_X12_keep_87 rfl rfl rfl rfl ?_
  refine me0 (pc' := 90) (S' := .int (40 : Int32) :: _) dm_X12_keep_88 rfl rfl rfl rfl ?_
  refine me0 (pc' := 91) (S' := .int (120 : Int32) :: _) dm_X12_keep_90 rfl rfl rfl rfl ?_
  refine me1 (pc' := 92) dm_X12_keep_91 rfl rfl rfl rfl ?_
  refine me0 (pc' := 93) (S' := .int (123 : Int32) :: _) dm_X12_keep_92 rfl rfl rfl rfl ?_
  refine me1 (pc' := 94) dm_X12_keep_93 rfl rfl rfl rfl ?_
  refine me3 (pc' := 97) dm_X12_keep_94 (g_get (v := .ref 111) (lu (n := 102) (j := 0) hn rfl) rfl rfl (Nat.le_of_ble_eq_true rfl)) rfl rfl rfl ?_
  refine me1 (pc' := 98) dm_X12_keep_97 rfl rfl rfl rfl ?_
  refine me3 (pc' := 99) dm_X12_keep_98 (g_lald (v := (0 : Int64)) (lu (n := 102) (j := 9) hn rfl) rfl (by decide) rfl (Nat.le_of_ble_eq_true rfl)) rfl rfl rfl ?_
  refine me3 (pc' := 100) dm_X12_keep_99 (u_last (n := 102) (j := 12) hn rfl rfl (by decide) rfl (Nat.le_of_ble_eq_true rfl)) rfl rfl rfl ?_
  refine me1 (pc' := 101) dm_X12_keep_100 rfl rfl rfl rfl ?_
  refine me3 (pc' := 104) dm_X12_keep_101 (g_get (v := .ref 115) (lu (n := 102) (j := 0) hn rfl) rfl rfl (Nat.le_of_ble_eq_true rfl)) rfl rfl rfl ?_
  refine me0 (pc' := 106) (S' := .int (80 : Int32) :: _) dm_X12_keep_104 rfl rfl rfl rfl ?_
  refine me1 (pc' := 107) dm_X12_keep_106 rfl rfl rfl rfl ?_
  refine me0 (pc' := 108) (S' := .int (80 : Int32) :: _) dm_X12_keep_107 rfl rfl rfl rfl ?_
  refine me0 (pc' := 110) (S' := .int (40 : Int32) :: _) dm_X12_keep_108 rfl rfl rfl rfl ?_
  refine me0 (pc' := 111) (S' := .int (120 : Int32) :: _) dm_X12_keep_110 rfl rfl rfl rfl ?_
  refine me1 (pc' := 112) dm_X12_keep_111 rfl rfl rfl rfl ?_
  refine me0 (pc' := 113) (S' := .int (123 : Int32) :: _) dm_X12_keep_112 rfl rfl rfl rfl ?_
  refine me1 (pc' := 114) dm_X12_keep_113 rfl rfl rfl rfl ?_
  refine me3 (pc' := 117) dm_X12_keep_114 (g_get (v := .ref 113) (lu (n := 102) (j := 0) hn rfl) rfl rfl (Nat.le_of_ble_eq_true rfl)) rfl rfl rfl ?_
  refine me1 (pc' := 118) dm_X12_keep_117 rfl rfl rfl rfl ?_
  refine me3 (pc' := 119) dm_X12_keep_118 (g_iald (v := (0 : Int32)) (lu (n := 102) (j := 11) hn rfl) rfl (by decide) rfl (Nat.le_of_ble_eq_true rfl)) rfl rfl rfl ?_
  refine me3 (pc' := 120) dm_X12_keep_119 (u_iast (n := 102) (j := 13) hn rfl rfl (by decide) rfl (Nat.le_of_ble_eq_true rfl)) rfl rfl rfl ?_
  refine me1 (pc' := 123) (L' := [(2, .int (4 : Int32)), (0, .ref 102), (1, .int (1 : Int32))]) dm_X12_keep_120 rfl rfl rfl rfl ?_
  refine me2 (pc' := 40) dm_X12_keep_123 rfl rfl rfl ?_
  refine me1 (pc' := 41) dm_X12_keep_40 rfl rfl rfl rfl ?_
  refine me0 (pc' := 43) (S' := .int (40 : Int32) :: _) dm_X12_keep_41 rfl rfl rfl rfl ?_
  refine me_2f (pc' := 46) dm_X12_keep_43 rfl (by decide) rfl ?_
  refine me1 (pc' := 47) dm_X12_keep_46 rfl rfl rfl rfl ?_
  refine me3 (pc' := 50) dm_X12_keep_47 (g_get (v := .ref 114) (lu (n := 102) (j := 0) hn rfl) rfl rfl (Nat.le_of_ble_eq_true rfl)) rfl rfl rfl ?_
  refine me0 (pc' := 52) (S' := .int (80 : Int32) :: _) dm_X12_keep_50 rfl rfl rfl rfl ?_
  refine me1 (pc' := 53) dm_X12_keep_52 rfl rfl rfl rfl ?_
  refine me0 (pc' := 54) (S' := .int (80 : Int32) :: _) dm_X12_keep_53 rfl rfl rfl rfl ?_
  refine me1 (pc' := 55) dm_X12_keep_54 rfl rfl rfl rfl ?_
  refine me0 (pc' := 56) (S' := .int (84 : Int32) :: _) dm_X12_keep_55 rfl rfl rfl rfl ?_
  refine me1 (pc' := 57) dm_X12_keep_56 rfl rfl rfl rfl ?_
  refine me3 (pc' := 60) dm_X12_keep_57 (g_get (v := .ref 110) (lu (n := 102) (j := 0) hn rfl) rfl rfl (Nat.le_of_ble_eq_true rfl)) rfl rfl rfl ?_
  refine me1 (pc' := 61) dm_X12_keep_60 rfl rfl rfl rfl ?_
  refine me3 (pc' := 62) dm_X12_keep_61 (g_lald (v := (0 : Int64)) (lu (n := 102) (j := 8) hn rfl) rfl (by decide) rfl (Nat.le_of_ble_eq_true rfl)) rfl rfl rfl ?_
  refine me3 (pc' := 63) dm_X12_keep_62 (u_last (n := 102) (j := 12) hn rfl rfl (by decide) rfl (Nat.le_of_ble_eq_true rfl)) rfl rfl rfl ?_
  refine me1 (pc' := 64) dm_X12_keep_63 rfl rfl rfl rfl ?_
  refine me3 (pc' := 67) dm_X12_keep_64 (g_get (v := .ref 115) (lu (n := 102) (j := 0) hn rfl) rfl rfl (Nat.le_of_ble_eq_true rfl)) rfl rfl rfl ?_
  refine me0 (pc' := 69) (S' := .int (80 : Int32) :: _) dm_X12_keep_67 rfl rfl rfl rfl ?_
  refine me1 (pc' := 70) dm_X12_keep_69 rfl rfl rfl rfl ?_
  refine me0 (pc' := 71) (S' := .int (80 : Int32) :: _) dm_X12_keep_70 rfl rfl rfl rfl ?_
  refine me1 (pc' := 72) dm_X12_keep_71 rfl rfl rfl rfl ?_
  refine me0 (pc' := 73) (S' := .int (84 : Int32) :: _) dm_X12_keep_72 rfl rfl rfl rfl ?_
  refine me1 (pc' := 74) dm_X12_keep_73 rfl rfl rfl rfl ?_
  refine me3 (pc' := 77) dm_X12_keep_74 (g_get (v := .ref 112) (lu (n := 102) (j := 0) hn rfl) rfl rfl (Nat.le_of_ble_eq_true rfl)) rfl rfl rfl ?_
  refine me1 (pc' := 78) dm_X12_keep_77 rfl rfl rfl rfl ?_
  refine me3 (pc' := 79) dm_X12_keep_78 (g_iald (v := (0 : Int32)) (lu (n := 102) (j := 10) hn rfl) rfl (by decide) rfl (Nat.le_of_ble_eq_true rfl)) rfl rfl rfl ?_
  refine me3 (pc' := 80) dm_X12_keep_79 (u_iast (n := 102) (j := 13) hn rfl rfl (by decide) rfl (Nat.le_of_ble_eq_true rfl)) rfl rfl rfl ?_
  refine me1 (pc' := 81) dm_X12_keep_80 rfl rfl rfl rfl ?_
  refine me3 (pc' := 84) dm_X12_keep_81 (g_get (v := .ref 114) (lu (n := 102) (j := 0) hn rfl) rfl rfl (Nat.le_of_ble_eq_true rfl)) rfl rfl rfl ?_
  refine me0 (pc' := 86) (S' := .int (80 : Int32) :: _) dm_X12_keep_84 rfl rfl rfl rfl ?_
  refine me1 (pc' := 87) dm_X12_keep_86 rfl rfl rfl rfl ?_
  refine me0 (pc' := 88) (S' := .int (80 : Int32) :: _) dm_X12_keep_87 rfl rfl rfl rfl ?_
  refine me0 (pc' := 90) (S' := .int (40 : Int32) :: _) dm_X12_keep_88 rfl rfl rfl rfl ?_
  refine me0 (pc' := 91) (S' := .int (120 : Int32) :: _) dm_X12_keep_90 rfl rfl rfl rfl ?_
  refine me1 (pc' := 92) dm_X12_keep_91 rfl rfl rfl rfl ?_
  refine me0 (pc' := 93) (S' := .int (124 : Int32) :: _) dm_X12_keep_92 rfl rfl rfl rfl ?_
  refine me1 (pc' := 94) dm_X12_keep_93 rfl rfl rfl rfl ?_
  refine me3 (pc' := 97) dm_X12_keep_94 (g_get (v := .ref 111) (lu (n := 102) (j := 0) hn rfl) rfl rfl (Nat.le_of_ble_eq_true rfl)) rfl rfl rfl ?_
  refine me1 (pc' := 98) dm_X12_keep_97 rfl rfl rfl rfl ?_
  refine me3 (pc' := 99) dm_X12_keep_98 (g_lald (v := (0 : Int64)) (lu (n := 102) (j := 9) hn rfl) rfl (by decide) rfl (Nat.le_of_ble_eq_true rfl)) rfl rfl rfl ?_
  refine me3 (pc' := 100) dm_X12_keep_99 (u_last (n := 102) (j := 12) hn rfl rfl (by decide) rfl (Nat.le_of_ble_eq_true rfl)) rfl rfl rfl ?_
  refine me1 (pc' := 101) dm_X12_keep_100 rfl rfl rfl rfl ?_
  refine me3 (pc' := 104) dm_X12_keep_101 (g_get (v := .ref 115) (lu (n := 102) (j := 0) hn rfl) rfl rfl (Nat.le_of_ble_eq_true rfl)) rfl rfl rfl ?_
  refine me0 (pc' := 106) (S' := .int (80 : Int32) :: _) dm_X12_keep_104 rfl rfl rfl rfl ?_
  refine me1 (pc' := 107) dm_X12_keep_106 rfl rfl rfl rfl ?_
  refine me0 (pc' := 108) (S' := .int (80 : Int32) :: _) dm_X12_keep_107 rfl rfl rfl rfl ?_
  refine me0 (pc' := 110) (S' := .int (40 : Int32) :: _) dm_X12_keep_108 rfl rfl rfl rfl ?_
  refine me0 (pc' := 111) (S' := .int (120 : Int32) :: _) dm_X12_keep_110 rfl rfl rfl rfl ?_
  refine me1 (pc' := 112) dm_X12_keep_111 rfl rfl rfl rfl ?_
  refine me0 (pc' := 113) (S' := .int (124 : Int32) :: _) dm_X12_keep_112 rfl rfl rfl rfl ?_
  refine me1 (pc' := 114) dm_X12_keep_113 rfl rfl rfl rfl ?_
  refine me3 (pc' := 117) dm_X12_keep_114 (g_get (v := .ref 113) (lu (n := 102) (j := 0) hn rfl) rfl rfl (Nat.le_of_ble_eq_true rfl)) rfl rfl rfl ?_
  refine me1 (pc' := 118) dm_X12_keep_117 rfl rfl rfl rfl ?_
  refine me3 (pc' := 119) dm_X12_keep_118 (g_iald (v := (0 : Int32)) (lu (n := 102) (j := 11) hn rfl) rfl (by decide) rfl (Nat.le_of_ble_eq_true rfl)) rfl rfl rfl ?_
  refine me3 (pc' := 120) dm_X12_keep_119 (u_iast (n := 102) (j := 13) hn rfl rfl (by decide) rfl (Nat.le_of_ble_eq_true rfl)) rfl rfl rfl ?_
  refine me1 (pc' := 123) (L' := [(2, .int (5 : Int32)), (0, .ref 102), (1, .int (1 : Int32))]) dm_X12_keep_120 rfl rfl rfl rfl ?_
  refine me2 (pc' := 40) dm_X12_keep_123 rfl rfl rfl ?_
  refine me1 (pc' := 41) dm_X12_keep_40 rfl rfl rfl rfl ?_
  refine me0 (pc' := 43) (S' := .int (40 : Int32) :: _) dm_X12_keep_41 rfl rfl rfl rfl ?_
  refine me_2f (pc' := 46) dm_X12_keep_43 rfl (by decide) rfl ?_
  refine me1 (pc' := 47) dm_X12_keep_46 rfl rfl rfl rfl ?_
  refine me3 (pc' := 50) dm_X12_keep_47 (g_get (v := .ref 114) (lu (n := 102) (j := 0) hn rfl) rfl rfl (Nat.le_of_ble_eq_true rfl)) rfl rfl rfl ?_
  refine me0 (pc' := 52) (S' := .int (80 : Int32) :: _) dm_X12_keep_50 rfl rfl rfl rfl ?_
  refine me1 (pc' := 53) dm_X12_keep_52 rfl rfl rfl rfl ?_
  refine me0 (pc' := 54) (S' := .int (80 : Int32) :: _) dm_X12_keep_53 rfl rfl rfl rfl ?_
  refine me1 (pc' := 55) dm_X12_keep_54 rfl rfl rfl rfl ?_
  refine me0 (pc' := 56) (S' := .int (85 : Int32) :: _) dm_X12_keep_55 rfl rfl rfl rfl ?_
  refine me1 (pc' := 57) dm_X12_keep_56 rfl rfl rfl rfl ?_
  refine me3 (pc' := 60) dm_X12_keep_57 (g_get (v := .ref 110) (lu (n := 102) (j := 0) hn rfl) rfl rfl (Nat.le_of_ble_eq_true rfl)) rfl rfl rfl ?_
  refine me1 (pc' := 61) dm_X12_keep_60 rfl rfl rfl rfl ?_
  refine me3 (pc' := 62) dm_X12_keep_61 (g_lald (v := (0 : Int64)) (lu (n := 102) (j := 8) hn rfl) rfl (by decide) rfl (Nat.le_of_ble_eq_true rfl)) rfl rfl rfl ?_
  refine me3 (pc' := 63) dm_X12_keep_62 (u_last (n := 102) (j := 12) hn rfl rfl (by decide) rfl (Nat.le_of_ble_eq_true rfl)) rfl rfl rfl ?_
  refine me1 (pc' := 64) dm_X12_keep_63 rfl rfl rfl rfl ?_
  refine me3 (pc' := 67) dm_X12_keep_64 (g_get (v := .ref 115) (lu (n := 102) (j := 0) hn rfl) rfl rfl (Nat.le_of_ble_eq_true rfl)) rfl rfl rfl ?_
  refine me0 (pc' := 69) (S' := .int (80 : Int32) :: _) dm_X12_keep_67 rfl rfl rfl rfl ?_
  refine me1 (pc' := 70) dm_X12_keep_69 rfl rfl rfl rfl ?_
  refine me0 (pc' := 71) (S' := .int (80 : Int32) :: _) dm_X12_keep_70 rfl rfl rfl rfl ?_
  refine me1 (pc' := 72) dm_X12_keep_71 rfl rfl rfl rfl ?_
  refine me0 (pc' := 73) (S' := .int (85 : Int32) :: _) dm_X12_keep_72 rfl rfl rfl rfl ?_
  refine me1 (pc' := 74) dm_X12_keep_73 rfl rfl rfl rfl ?_
  refine me3 (pc' := 77) dm_X12_keep_74 (g_get (v := .ref 112) (lu (n := 102) (j := 0) hn rfl) rfl rfl (Nat.le_of_ble_eq_true rfl)) rfl rfl rfl ?_
  refine me1 (pc' := 78) dm_X12_keep_77 rfl rfl rfl rfl ?_
  refine me3 (pc' := 79) dm_X12_keep_78 (g_iald (v := (0 : Int32)) (lu (n := 102) (j := 10) hn rfl) rfl (by decide) rfl (Nat.le_of_ble_eq_true rfl)) rfl rfl rfl ?_
  refine me3 (pc' := 80) dm_X12_keep_79 (u_iast (n := 102) (j := 13) hn rfl rfl (by decide) rfl (Nat.le_of_ble_eq_true rfl)) rfl rfl rfl ?_
  refine me1 (pc' := 81) dm_X12_keep_80 rfl rfl rfl rfl ?_
  refine me3 (pc' := 84) dm_X12_keep_81 (g_get (v := .ref 114) (lu (n := 102) (j := 0) hn rfl) rfl rfl (Nat.le_of_ble_eq_true rfl)) rfl rfl rfl ?_
  refine me0 (pc' := 86) (S' := .int (80 : Int32) :: _) dm_X12_keep_84 rfl rfl rfl rfl ?_
  refine me1 (pc' := 87) dm_X12_keep_86 rfl rfl rfl rfl ?_
  refine me0 (pc' := 88) (S' := .int (80 : Int32) :: _) dm_X12_keep_87 rfl rfl rfl rfl ?_
  refine me0 (pc' := 90) (S' := .int (40 : Int32) :: _) dm_X12_keep_88 rfl rfl rfl rfl ?_
  refine me0 (pc' := 91) (S' := .int (120 : Int32) :: _) dm_X12_keep_90 rfl rfl rfl rfl ?_
  refine me1 (pc' := 92) dm_X12_keep_91 rfl rfl rfl rfl ?_
  refine me0 (pc' := 93) (S' := .int (125 : Int32) :: _) dm_X12_keep_92 rfl rfl rfl rfl ?_
  refine me1 (pc' := 94) dm_X12_keep_93 rfl rfl rfl rfl ?_
  refine me3 (pc' := 97) dm_X12_keep_94 (g_get (v := .ref 111) (lu (n := 102) (j := 0) hn rfl) rfl rfl (Nat.le_of_ble_eq_true rfl)) rfl rfl rfl ?_
  refine me1 (pc' := 98) dm_X12_keep_97 rfl rfl rfl rfl ?_
  refine me3 (pc' := 99) dm_X12_keep_98 (g_lald (v := (0 : Int64)) (lu (n := 102) (j := 9) hn rfl) rfl (by decide) rfl (Nat.le_of_ble_eq_true rfl)) rfl rfl rfl ?_
  refine me3 (pc' := 100) dm_X12_keep_99 (u_last (n := 102) (j := 12) hn rfl rfl (by decide) rfl (Nat.le_of_ble_eq_true rfl)) rfl rfl rfl ?_
  refine me1 (pc' := 101) dm_X12_keep_100 rfl rfl rfl rfl ?_
  refine me3 (pc' := 104) dm_X12_keep_101 (g_get (v := .ref 115) (lu (n := 102) (j := 0) hn rfl) rfl rfl (Nat.le_of_ble_eq_true rfl)) rfl rfl rfl ?_
  refine me0 (pc' := 106) (S' := .int (80 : Int32) :: _) dm_X12_keep_104 rfl rfl rfl rfl ?_
  refine me1 (pc' := 107) dm_X12_keep_106 rfl rfl rfl rfl ?_
  refine me0 (pc' := 108) (S' := .int (80 : Int32) :: _) dm_X12_keep_107 rfl rfl rfl rfl ?_
  refine me0 (pc' := 110) (S' := .int (40 : Int32) :: _) dm_X12_keep_108 rfl rfl rfl rfl ?_
  refine me0 (pc' := 111) (S' := .int (120 : Int32) :: _) dm_X12_keep_110 rfl rfl rfl rfl ?_
  refine me1 (pc' := 112) dm_X12_keep_111 rfl rfl rfl rfl ?_
  refine me0 (pc' := 113) (S' := .int (125 : Int32) :: _) dm_X12_keep_112 rfl rfl rfl rfl ?_
  refine me1 (pc' := 114) dm_X12_keep_113 rfl rfl rfl rfl ?_
  refine me3 (pc' := 117) dm_X12_keep_114 (g_get (v := .ref 113) (lu (n := 102) (j := 0) hn rfl) rfl rfl (Nat.le_of_ble_eq_true rfl)) rfl rfl rfl ?_
  refine me1 (pc' := 118) dm_X12_keep_117 rfl rfl rfl rfl ?_
  refine me3 (pc' := 119) dm_X12_keep_118 (g_iald (v := (0 : Int32)) (lu (n := 102) (j := 11) hn rfl) rfl (by decide) rfl (Nat.le_of_ble_eq_true rfl)) rfl rfl rfl ?_
  refine me3 (pc' := 120) dm_X12_keep_119 (u_iast (n := 102) (j := 13) hn rfl rfl (by decide) rfl (Nat.le_of_ble_eq_true rfl)) rfl rfl rfl ?_
  refine me1 (pc' := 123) (L' := [(2, .int (6 : Int32)), (0, .ref 102), (1, .int (1 : Int32))]) dm_X12_keep_120 rfl rfl rfl rfl ?_
  refine me2 (pc' := 40) dm_X12_keep_123 rfl rfl rfl ?_
  refine me1 (pc' := 41) dm_X12_keep_40 rfl rfl rfl rfl ?_
  refine me0 (pc' := 43) (S' := .int (40 : Int32) :: _) dm_X12_keep_41 rfl rfl rfl rfl ?_
  refine me_2f (pc' := 46) dm_X12_keep_43 rfl (by decide) rfl ?_
  refine me1 (pc' := 47) dm_X12_keep_46 rfl rfl rfl rfl ?_
  refine me3 (pc' := 50) dm_X12_keep_47 (g_get (v := .ref 114) (lu (n := 102) (j := 0) hn rfl) rfl rfl (Nat.le_of_ble_eq_true rfl)) rfl rfl rfl ?_
  refine me0 (pc' := 52) (S' := .int (80 : Int32) :: _) dm_X12_keep_50 rfl rfl rfl rfl ?_
  refine me1 (pc' := 53) dm_X12_keep_52 rfl rfl rfl rfl ?_
  refine me0 (pc' := 54) (S' := .int (80 : Int32) :: _) dm_X12_keep_53 rfl rfl rfl rfl ?_
  refine me1 (pc' := 55) dm_X12_keep_54 rfl rfl rfl rfl ?_
  refine me0 (pc' := 56) (S' := .int (86 : Int32) :: _) dm_X12_keep_55 rfl rfl rfl rfl ?_
  refine me1 (pc' := 57) dm_X12_keep_56 rfl rfl rfl rfl ?_
  refine me3 (pc' := 60) dm_X12_keep_57 (g_get (v := .ref 110) (lu (n := 102) (j := 0) hn rfl) rfl rfl (Nat.le_of_ble_eq_true rfl)) rfl rfl rfl ?_
  refine me1 (pc' := 61) dm_X12_keep_60 rfl rfl rfl rfl ?_
  refine me3 (pc' := 62) dm_X12_keep_61 (g_lald (v := (0 : Int64)) (lu (n := 102) (j := 8) hn rfl) rfl (by decide) rfl (Nat.le_of_ble_eq_true rfl)) rfl rfl rfl ?_
  refine me3 (pc' := 63) dm_X12_keep_62 (u_last (n := 102) (j := 12) hn rfl rfl (by decide) rfl (Nat.le_of_ble_eq_true rfl)) rfl rfl rfl ?_
  refine me1 (pc' := 64) dm_X12_keep_63 rfl rfl rfl rfl ?_
  refine me3 (pc' := 67) dm_X12_keep_64 (g_get (v := .ref 115) (lu (n := 102) (j := 0) hn rfl) rfl rfl (Nat.le_of_ble_eq_true rfl)) rfl rfl rfl ?_
  refine me0 (pc' := 69) (S' := .int (80 : Int32) :: _) dm_X12_keep_67 rfl rfl rfl rfl ?_
  refine me1 (pc' := 70) dm_X12_keep_69 rfl rfl rfl rfl ?_
  refine me0 (pc' := 71) (S' := .int (80 : Int32) :: _) dm_X12_keep_70 rfl rfl rfl rfl ?_
  refine me1 (pc' := 72) dm_X12_keep_71 rfl rfl rfl rfl ?_
  refine me0 (pc' := 73) (S' := .int (86 : Int32) :: _) dm_X12_keep_72 rfl rfl rfl rfl ?_
  refine me1 (pc' := 74) dm_X12_keep_73 rfl rfl rfl rfl ?_
  refine me3 (pc' := 77) dm_X12_keep_74 (g_get (v := .ref 112) (lu (n := 102) (j := 0) hn rfl) rfl rfl (Nat.le_of_ble_eq_true rfl)) rfl rfl rfl ?_
  refine me1 (pc' := 78) dm_X12_keep_77 rfl rfl rfl rfl ?_
  refine me3 (pc' := 79) dm_X12_keep_78 (g_iald (v := (0 : Int32)) (lu (n := 102) (j := 10) hn rfl) rfl (by decide) rfl (Nat.le_of_ble_eq_true rfl)) rfl rfl rfl ?_
  refine me3 (pc' := 80) dm_X12_keep_79 (u_iast (n := 102) (j := 13) hn rfl rfl (by decide) rfl (Nat.le_of_ble_eq_true rfl)) rfl rfl rfl ?_
  refine me1 (pc' := 81) dm_X12_keep_80 rfl rfl rfl rfl ?_
  refine me3 (pc' := 84) dm_X12_keep_81 (g_get (v := .ref 114) (lu (n := 102) (j := 0) hn rfl) rfl rfl (Nat.le_of_ble_eq_true rfl)) rfl rfl rfl ?_
  refine me0 (pc' := 86) (S' := .int (80 : Int32) :: _) dm_X12_keep_84 rfl rfl rfl rfl ?_
  refine me1 (pc' := 87) dm_X12_keep_86 rfl rfl rfl rfl ?_
  refine me0 (pc' := 88) (S' := .int (80 : Int32) :: _) dm_X12_keep_87 rfl rfl rfl rfl ?_
  refine me0 (pc' := 90) (S' := .int (40 : Int32) :: _) dm_X12_keep_88 rfl rfl rfl rfl ?_
  refine me0 (pc' := 91) (S' := .int (120 : Int32) :: _) dm_X12_keep_90 rfl rfl rfl rfl ?_
  refine me1 (pc' := 92) dm_X12_keep_91 rfl rfl rfl rfl ?_
  refine me0 (pc' := 93) (S' := .int (126 : Int32) :: _) dm_X12_keep_92 rfl rfl rfl rfl ?_
  refine me1 (pc' := 94) dm_X12_keep_93 rfl rfl rfl rfl ?_
  refine me3 (pc' := 97) dm_X12_keep_94 (g_get (v := .ref 111) (lu (n := 102) (j := 0) hn rfl) rfl rfl (Nat.le_of_ble_eq_true rfl)) rfl rfl rfl ?_
  refine me1 (pc' := 98) dm_X12_keep_97 rfl rfl rfl rfl ?_
  refine me3 (pc' := 99) dm_X12_keep_98 (g_lald (v := (0 : Int64)) (lu (n := 102) (j := 9) hn rfl) rfl (by decide) rfl (Nat.le_of_ble_eq_true rfl)) rfl rfl rfl ?_
  refine me3 (pc' := 100) dm_X12_keep_99 (u_last (n := 102) (j := 12) hn rfl rfl (by decide) rfl (Nat.le_of_ble_eq_true rfl)) rfl rfl rfl ?_
  refine me1 (pc' := 101) dm_X12_keep_100 rfl rfl rfl rfl ?_
  refine me3 (pc' := 104) dm_X12_keep_101 (g_get (v := .ref 115) (lu (n := 102) (j := 0) hn rfl) rfl rfl (Nat.le_of_ble_eq_true rfl)) rfl rfl rfl ?_
  refine me0 (pc' := 106) (S' := .int (80 : Int32) :: _) dm_X12_keep_104 rfl rfl rfl rfl ?_
  refine me1 (pc' := 107) dm_X12_keep_106 rfl rfl rfl rfl ?_
  refine me0 (pc' := 108) (S' := .int (80 : Int32) :: _) dm_X12_keep_107 rfl rfl rfl rfl ?_
  refine me0 (pc' := 110) (S' := .int (40 : Int32) :: _) dm_X12_keep_108 rfl rfl rfl rfl ?_
  refine me0 (pc' := 111) (S' := .int (120 : Int32) :: _) dm_X12_keep_110 rfl rfl rfl rfl ?_
  refine me1 (pc' := 112) dm_X12_keep_111 rfl rfl rfl rfl ?_
  refine me0 (pc' := 113) (S' := .int (126 : Int32) :: _) dm_X12_keep_112 rfl rfl rfl rfl ?_
  refine me1 (pc' := 114) dm_X12_keep_113 rfl rfl rfl rfl ?_
  refine me3 (pc' := 117) dm_X12_keep_114 (g_get (v := .ref 113) (lu (n := 102) (j := 0) hn rfl) rfl rfl (Nat.le_of_ble_eq_true rfl)) rfl rfl rfl ?_
  refine me1 (pc' := 118) dm_X12_keep_117 rfl rfl rfl rfl ?_
  refine me3 (pc' := 119) dm_X12_keep_118 (g_iald (v := (0 : Int32)) (lu (n := 102) (j := 11) hn rfl) rfl (by decide) rfl (Nat.le_of_ble_eq_true rfl)) rfl rfl rfl ?_
  refine me3 (pc' := 120) dm_X12_keep_119 (u_iast (n := 102) (j := 13) hn rfl rfl (by decide) rfl (Nat.le_of_ble_eq_true rfl)) rfl rfl rfl ?_
  refine me1 (pc' := 123) (L' := [(2, .int (7 : Int32)), (0, .ref 102), (1, .int (1 : Int32))]) dm_X12_keep_120 rfl rfl rfl rfl ?_
  refine me2 (pc' := 40) dm_X12_keep_123 rfl rfl rfl ?_
  refine me1 (pc' := 41) dm_X12_keep_40 rfl rfl rfl rfl ?_
  refine me0 (pc' := 43) (S' := .int (40 : Int32) :: _) dm_X12_keep_41 rfl rfl rfl rfl ?_
  refine me_2f (pc' := 46) dm_X12_keep_43 rfl (by decide) rfl ?_
  refine me1 (pc' := 47) dm_X12_keep_46 rfl rfl rfl rfl ?_
  refine me3 (pc' := 50) dm_X12_keep_47 (g_get (v := .ref 114) (lu (n := 102) (j := 0) hn rfl) rfl rfl (Nat.le_of_ble_eq_true rfl)) rfl rfl rfl ?_
  refine me0 (pc' := 52) (S' := .int (80 : Int32) :: _) dm_X12_keep_50 rfl rfl rfl rfl ?_
  refine me1 (pc' := 53) dm_X12_keep_52 rfl rfl rfl rfl ?_
  refine me0 (pc' := 54) (S' := .int (80 : Int32) :: _) dm_X12_keep_53 rfl rfl rfl rfl ?_
  refine me1 (pc' := 55) dm_X12_keep_54 rfl rfl rfl rfl ?_
  refine me0 (pc' := 56) (S' := .int (87 : Int32) :: _) dm_X12_keep_55 rfl rfl rfl rfl ?_
  refine me1 (pc' := 57) dm_X12_keep_56 rfl rfl rfl rfl ?_
  refine me3 (pc' := 60) dm_X12_keep_57 (g_get (v := .ref 110) (lu (n := 102) (j := 0) hn rfl) rfl rfl (Nat.le_of_ble_eq_true rfl)) rfl rfl rfl ?_
  refine me1 (pc' := 61) dm_X12_keep_60 rfl rfl rfl rfl ?_
  refine me3 (pc' := 62) dm_X12_keep_61 (g_lald (v := (0 : Int64)) (lu (n := 102) (j := 8) hn rfl) rfl (by decide) rfl (Nat.le_of_ble_eq_true rfl)) rfl rfl rfl ?_
  refine me3 (pc' := 63) dm_X12_keep_62 (u_last (n := 102) (j := 12) hn rfl rfl (by decide) rfl (Nat.le_of_ble_eq_true rfl)) rfl rfl rfl ?_
  refine me1 (pc' := 64) dm_X12_keep_63 rfl rfl rfl rfl ?_
  refine me3 (pc' := 67) dm_X12_keep_64 (g_get (v := .ref 115) (lu (n := 102) (j := 0) hn rfl) rfl rfl (Nat.le_of_ble_eq_true rfl)) rfl rfl rfl ?_
  refine me0 (pc' := 69) (S' := .int (80 : Int32) :: _) dm_X12_keep_67 rfl rfl rfl rfl ?_
  refine me1 (pc' := 70) dm_X12_keep_69 rfl rfl rfl rfl ?_
  refine me0 (pc' := 71) (S' := .int (80 : Int32) :: _) dm_X12_keep_70 rfl rfl rfl rfl ?_
  refine me1 (pc' := 72) dm_X12_keep_71 rfl rfl rfl rfl ?_
  refine me0 (pc' := 73) (S' := .int (87 : Int32) :: _) dm_X12_keep_72 rfl rfl rfl rfl ?_
  refine me1 (pc' := 74) dm_X12_keep_73 rfl rfl rfl rfl ?_
  refine me3 (pc' := 77) dm_X12_keep_74 (g_get (v := .ref 112) (lu (n := 102) (j := 0) hn rfl) rfl rfl (Nat.le_of_ble_eq_true rfl)) rfl rfl rfl ?_
  refine me1 (pc' := 78) dm_X12_keep_77 rfl rfl rfl rfl ?_
  refine me3 (pc' := 79) dm_X12_keep_78 (g_iald (v := (0 : Int32)) (lu (n := 102) (j := 10) hn rfl) rfl (by decide) rfl (Nat.le_of_ble_eq_true rfl)) rfl rfl rfl ?_
  refine me3 (pc' := 80) dm_X12_keep_79 (u_iast (n := 102) (j := 13) hn rfl rfl (by decide) rfl (Nat.le_of_ble_eq_true rfl)) rfl rfl rfl ?_
  refine me1 (pc' := 81) dm_X12_keep_80 rfl rfl rfl rfl ?_
  refine me3 (pc' := 84) dm_X12_keep_81 (g_get (v := .ref 114) (lu (n := 102) (j := 0) hn rfl) rfl rfl (Nat.le_of_ble_eq_true rfl)) rfl rfl rfl ?_
  refine me0 (pc' := 86) (S' := .int (80 : Int32) :: _) dm_X12_keep_84 rfl rfl rfl rfl ?_
  refine me1 (pc' := 87) dm_X12_keep_86 rfl rfl rfl rfl ?_
  refine me0 (pc' := 88) (S' := .int (80 : Int32) :: _) dm_X12_keep_87 rfl rfl rfl rfl ?_
  refine me0 (pc' := 90) (S' := .int (40 : Int32) :: _) dm_X12_keep_88 rfl rfl rfl rfl ?_
  refine me0 (pc' := 91) (S' := .int (120 : Int32) :: _) dm_X12_keep_90 rfl rfl rfl rfl ?_
  refine me1 (pc' := 92) dm_X12_keep_91 rfl rfl rfl rfl ?_
  refine me0 (pc' := 93) (S' := .int (127 : Int32) :: _) dm_X12_keep_92 rfl rfl rfl rfl ?_
  refine me1 (pc' := 94) dm_X12_keep_93 rfl rfl rfl rfl ?_
  refine me3 (pc' := 97) dm_X12_keep_94 (g_get (v := .ref 111) (lu (n := 102) (j := 0) hn rfl) rfl rfl (Nat.le_of_ble_eq_true rfl)) rfl rfl rfl ?_
  refine me1 (pc' := 98) dm_X12_keep_97 rfl rfl rfl rfl ?_
  refine me3 (pc' := 99) dm_X12_keep_98 (g_lald (v := (0 : Int64)) (lu (n := 102) (j := 9) hn rfl) rfl (by decide) rfl (Nat.le_of_ble_eq_true rfl)) rfl rfl rfl ?_
  refine me3 (pc' := 100) dm_X12_keep_99 (u_last (n := 102) (j := 12) hn rfl rfl (by decide) rfl (Nat.le_of_ble_eq_true rfl)) rfl rfl rfl ?_
  refine me1 (pc' := 101) dm_X12_keep_100 rfl rfl rfl rfl ?_
  refine me3 (pc' := 104) dm_X12_keep_101 (g_get (v := .ref 115) (lu (n := 102) (j := 0) hn rfl) rfl rfl (Nat.le_of_ble_eq_true rfl)) rfl rfl rfl ?_
  refine me0 (pc' := 106) (S' := .int (80 : Int32) :: _) dm_X12_keep_104 rfl rfl rfl rfl ?_
  refine me1 (pc' := 107) dm_X12_keep_106 rfl rfl rfl rfl ?_
  refine me0 (pc' := 108) (S' := .int (80 : Int32) :: _) dm_X12_keep_107 rfl rfl rfl rfl ?_
  refine me0 (pc' := 110) (S' := .int (40 : Int32) :: _) dm_X12_keep_108 rfl rfl rfl rfl ?_
  refine me0 (pc' := 111) (S' := .int (120 : Int32) :: _) dm_X12_keep_110 rfl rfl rfl rfl ?_
  refine me1 (pc' := 112) dm_X12_keep_111 rfl rfl rfl rfl ?_
  refine me0 (pc' := 113) (S' := .int (127 : Int32) :: _) dm_X12_keep_112 rfl rfl rfl rfl ?_
  refine me1 (pc' := 114) dm_X12_keep_113 rfl rfl rfl rfl ?_
  refine me3 (pc' := 117) dm_X12_keep_114 (g_get (v := .ref 113) (lu (n := 102) (j := 0) hn rfl) rfl rfl (Nat.le_of_ble_eq_true rfl)) rfl rfl rfl ?_
  refine me1 (pc' := 118) dm_X12_keep_117 rfl rfl rfl rfl ?_
  refine me3 (pc' := 119) dm_X12_keep_118 (g_iald (v := (0 : Int32)) (lu (n := 102) (j := 11) hn rfl) rfl (by decide) rfl (Nat.le_of_ble_eq_true rfl)) rfl rfl rfl ?_
  refine me3 (pc' := 120) dm_X12_keep_119 (u_iast (n := 102) (j := 13) hn rfl rfl (by decide) rfl (Nat.le_of_ble_eq_true rfl)) rfl rfl rfl ?_
  refine me1 (pc' := 123) (L' := [(2, .int (8 : Int32)), (0, .ref 102), (1, .int (1 : Int32))]) dm_X12_keep_120 rfl rfl rfl rfl ?_
  refine me2 (pc' := 40) dm_X12_keep_123 rfl rfl rfl ?_
  refine me1 (pc' := 41) dm_X12_keep_40 rfl rfl rfl rfl ?_
  refine me0 (pc' := 43) (S' := .int (40 : Int32) :: _) dm_X12_keep_41 rfl rfl rfl rfl ?_
  refine me_2f (pc' := 46) dm_X12_keep_43 rfl (by decide) rfl ?_
  refine me1 (pc' := 47) dm_X12_keep_46 rfl rfl rfl rfl ?_
  refine me3 (pc' := 50) dm_X12_keep_47 (g_get (v := .ref 114) (lu (n := 102) (j := 0) hn rfl) rfl rfl (Nat.le_of_ble_eq_true rfl)) rfl rfl rfl ?_
  refine me0 (pc' := 52) (S' := .int (80 : Int32) :: _) dm_X12_keep_50 rfl rfl rfl rfl ?_
  refine me1 (pc' := 53) dm_X12_keep_52 rfl rfl rfl rfl ?_
  refine me0 (pc' := 54) (S' := .int (80 : Int32) :: _) dm_X12_keep_53 rfl rfl rfl rfl ?_
  refine me1 (pc' := 55) dm_X12_keep_54 rfl rfl rfl rfl ?_
  refine me0 (pc' := 56) (S' := .int (88 : Int32) :: _) dm_X12_keep_55 rfl rfl rfl rfl ?_
  refine me1 (pc' := 57) dm_X12_keep_56 rfl rfl rfl rfl ?_
  refine me3 (pc' := 60) dm_X12_keep_57 (g_get (v := .ref 110) (lu (n := 102) (j := 0) hn rfl) rfl rfl (Nat.le_of_ble_eq_true rfl)) rfl rfl rfl ?_
  refine me1 (pc' := 61) dm_X12_keep_60 rfl rfl rfl rfl ?_
  refine me3 (pc' := 62) dm_X12_keep_61 (g_lald (v := (0 : Int64)) (lu (n := 102) (j := 8) hn rfl) rfl (by decide) rfl (Nat.le_of_ble_eq_true rfl)) rfl rfl rfl ?_
  refine me3 (pc' := 63) dm_X12_keep_62 (u_last (n := 102) (j := 12) hn rfl rfl (by decide) rfl (Nat.le_of_ble_eq_true rfl)) rfl rfl rfl ?_
  refine me1 (pc' := 64) dm_X12_keep_63 rfl rfl rfl rfl ?_
  refine me3 (pc' := 67) dm_X12_keep_64 (g_get (v := .ref 115) (lu (n := 102) (j := 0) hn rfl) rfl rfl (Nat.le_of_ble_eq_true rfl)) rfl rfl rfl ?_
  refine me0 (pc' := 69) (S' := .int (80 : Int32) :: _) dm_X12_keep_67 rfl rfl rfl rfl ?_
  refine me1 (pc' := 70) dm_X12_keep_69 rfl rfl rfl rfl ?_
  refine me0 (pc' := 71) (S' := .int (80 : Int32) :: _) dm_X12_keep_70 rfl rfl rfl rfl ?_
  refine me1 (pc' := 72) dm_X12_keep_71 rfl rfl rfl rfl ?_
  refine me0 (pc' := 73) (S' := .int (88 : Int32) :: _) dm_X12_keep_72 rfl rfl rfl rfl ?_
  refine me1 (pc' := 74) dm_X12_keep_73 rfl rfl rfl rfl ?_
  refine me3 (pc' := 77) dm_X12_keep_74 (g_get (v := .ref 112) (lu (n := 102) (j := 0) hn rfl) rfl rfl (Nat.le_of_ble_eq_true rfl)) rfl rfl rfl ?_
  refine me1 (pc' := 78) dm_X12_keep_77 rfl rfl rfl rfl ?_
  refine me3 (pc' := 79) dm_X12_keep_78 (g_iald (v := (0 : Int32)) (lu (n := 102) (j := 10) hn rfl) rfl (by decide) rfl (Nat.le_of_ble_eq_true rfl)) rfl rfl rfl ?_
  refine me3 (pc' := 80) dm_X12_keep_79 (u_iast (n := 102) (j := 13) hn rfl rfl (by decide) rfl (Nat.le_of_ble_eq_true rfl)) rfl rfl rfl ?_
  refine me1 (pc' := 81) dm_X12_keep_80 rfl rfl rfl rfl ?_
  refine me3 (pc' := 84) dm_X12_keep_81 (g_get (v := .ref 114) (lu (n := 102) (j := 0) hn rfl) rfl rfl (Nat.le_of_ble_eq_true rfl)) rfl rfl rfl ?_
  refine me0 (pc' := 86) (S' := .int (80 : Int32) :: _) dm_X12_keep_84 rfl rfl rfl rfl ?_
  refine me1 (pc' := 87) dm_X12_keep_86 rfl rfl rfl rfl ?_
  refine me0 (pc' := 88) (S' := .int (80 : Int32) :: _) dm_X12_keep_87 rfl rfl rfl rfl ?_
  refine me0 (pc' := 90) (S' := .int (40 : Int32) :: _) dm_X12_keep_88 rfl rfl rfl rfl ?_
  refine me0 (pc' := 91) (S' := .int (120 : Int32) :: _) dm_X12_keep_90 rfl rfl rfl rfl ?_
  refine me1 (pc' := 92) dm_X12_keep_91 rfl rfl rfl rfl ?_
  refine me0 (pc' := 93) (S' := .int (128 : Int32) :: _) dm_X12_keep_92 rfl rfl rfl rfl ?_
  refine me1 (pc' := 94) dm_X12_keep_93 rfl rfl rfl rfl ?_
  refine me3 (pc' := 97) dm_X12_keep_94 (g_get (v := .ref 111) (lu (n := 102) (j := 0) hn rfl) rfl rfl (Nat.le_of_ble_eq_true rfl)) rfl rfl rfl ?_
  refine me1 (pc' := 98) dm_X12_keep_97 rfl rfl rfl rfl ?_
  refine me3 (pc' := 99) dm_X12_keep_98 (g_lald (v := (0 : Int64)) (lu (n := 102) (j := 9) hn rfl) rfl (by decide) rfl (Nat.le_of_ble_eq_true rfl)) rfl rfl rfl ?_
  refine me3 (pc' := 100) dm_X12_keep_99 (u_last (n := 102) (j := 12) hn rfl rfl (by decide) rfl (Nat.le_of_ble_eq_true rfl)) rfl rfl rfl ?_
  refine me1 (pc' := 101) dm_X12_keep_100 rfl rfl rfl rfl ?_
  refine me3 (pc' := 104) dm_X12_keep_101 (g_get (v := .ref 115) (lu (n := 102) (j := 0) hn rfl) rfl rfl (Nat.le_of_ble_eq_true rfl)) rfl rfl rfl ?_
  refine me0 (pc' := 106) (S' := .int (80 : Int32) :: _) dm_X12_keep_104 rfl rfl rfl rfl ?_
  refine me1 (pc' := 107) dm_X12_keep_106 rfl rfl rfl rfl ?_
  refine me0 (pc' := 108) (S' := .int (80 : Int32) :: _) dm_X12_keep_107 rfl rfl rfl rfl ?_
  refine me0 (pc' := 110) (S' := .int (40 : Int32) :: _) dm_X12_keep_108 rfl rfl rfl rfl ?_
  refine me0 (pc' := 111) (S' := .int (120 : Int32) :: _) dm_X12_keep_110 rfl rfl rfl rfl ?_
  refine me1 (pc' := 112) dm_X12_keep_111 rfl rfl rfl rfl ?_
  refine me0 (pc' := 113) (S' := .int (128 : Int32) :: _) dm_X12_keep_112 rfl rfl rfl rfl ?_
  refine me1 (pc' := 114) dm_X12_keep_113 rfl rfl rfl rfl ?_
  refine me3 (pc' := 117) dm_X12_keep_114 (g_get (v := .ref 113) (lu (n := 102) (j := 0) hn rfl) rfl rfl (Nat.le_of_ble_eq_true rfl)) rfl rfl rfl ?_
  refine me1 (pc' := 118) dm_X12_keep_117 rfl rfl rfl rfl ?_
  refine me3 (pc' := 119) dm_X12_keep_118 (g_iald (v := (0 : Int32)) (lu (n := 102) (j := 11) hn rfl) rfl (by decide) rfl (Nat.le_of_ble_eq_true rfl)) rfl rfl rfl ?_
  refine me3 (pc' := 120) dm_X12_keep_119 (u_iast (n := 102) (j := 13) hn rfl rfl (by decide) rfl (Nat.le_of_ble_eq_true rfl)) rfl rfl rfl ?_
  refine me1 (pc' := 123) (L' := [(2, .int (9 : Int32)), (0, .ref 102), (1, .int (1 : Int32))]) dm_X12_keep_120 rfl rfl rfl rfl ?_
  refine me2 (pc' := 40) dm_X12_keep_123 rfl rfl rfl ?_
  refine me1 (pc' := 41) dm_X12_keep_40 rfl rfl rfl rfl ?_
  refine me0 (pc' := 43) (S' := .int (40 : Int32) :: _) dm_X12_keep_41 rfl rfl rfl rfl ?_
  refine me_2f (pc' := 46) dm_X12_keep_43 rfl (by decide) rfl ?_
  refine me1 (pc' := 47) dm_X12_keep_46 rfl rfl rfl rfl ?_
  refine me3 (pc' := 50) dm_X12_keep_47 (g_get (v := .ref 114) (lu (n := 102) (j := 0) hn rfl) rfl rfl (Nat.le_of_ble_eq_true rfl)) rfl rfl rfl ?_
  refine me0 (pc' := 52) (S' := .int (80 : Int32) :: _) dm_X12_keep_50 rfl rfl rfl rfl ?_
  refine me1 (pc' := 53) dm_X12_keep_52 rfl rfl rfl rfl ?_
  refine me0 (pc' := 54) (S' := .int (80 : Int32) :: _) dm_X12_keep_53 rfl rfl rfl rfl ?_
  refine me1 (pc' := 55) dm_X12_keep_54 rfl rfl rfl rfl ?_
  refine me0 (pc' := 56) (S' := .int (89 : Int32) :: _) dm_X12_keep_55 rfl rfl rfl rfl ?_
  refine me1 (pc' := 57) dm_X12_keep_56 rfl rfl rfl rfl ?_
  refine me3 (pc' := 60) dm_X12_keep_57 (g_get (v := .ref 110) (lu (n := 102) (j := 0) hn rfl) rfl rfl (Nat.le_of_ble_eq_true rfl)) rfl rfl rfl ?_
  refine me1 (pc' := 61) dm_X12_keep_60 rfl rfl rfl rfl ?_
  refine me3 (pc' := 62) dm_X12_keep_61 (g_lald (v := (0 : Int64)) (lu (n := 102) (j := 8) hn rfl) rfl (by decide) rfl (Nat.le_of_ble_eq_true rfl)) rfl rfl rfl ?_
  refine me3 (pc' := 63) dm_X12_keep_62 (u_last (n := 102) (j := 12) hn rfl rfl (by decide) rfl (Nat.le_of_ble_eq_true rfl)) rfl rfl rfl ?_
  refine me1 (pc' := 64) dm_X12_keep_63 rfl rfl rfl rfl ?_
  refine me3 (pc' := 67) dm_X12_keep_64 (g_get (v := .ref 115) (lu (n := 102) (j := 0) hn rfl) rfl rfl (Nat.le_of_ble_eq_true rfl)) rfl rfl rfl ?_
  refine me0 (pc' := 69) (S' := .int (80 : Int32) :: _) dm_X12_keep_67 rfl rfl rfl rfl ?_
  refine me1 (pc' := 70) dm_X12_keep_69 rfl rfl rfl rfl ?_
  refine me0 (pc' := 71) (S' := .int (80 : Int32) :: _) dm_X12_keep_70 rfl rfl rfl rfl ?_
  refine me1 (pc' := 72) dm_X12_keep_71 rfl rfl rfl rfl ?_
  refine me0 (pc' := 73) (S' := .int (89 : Int32) :: _) dm_X12_keep_72 rfl rfl rfl rfl ?_
  refine me1 (pc' := 74) dm_X12_keep_73 rfl rfl rfl rfl ?_
  refine me3 (pc' := 77) dm_X12_keep_74 (g_get (v := .ref 112) (lu (n := 102) (j := 0) hn rfl) rfl rfl (Nat.le_of_ble_eq_true rfl)) rfl rfl rfl ?_
  refine me1 (pc' := 78) dm_X12_keep_77 rfl rfl rfl rfl ?_
  refine me3 (pc' := 79) dm_X12_keep_78 (g_iald (v := (0 : Int32)) (lu (n := 102) (j := 10) hn rfl) rfl (by decide) rfl (Nat.le_of_ble_eq_true rfl)) rfl rfl rfl ?_
  refine me3 (pc' := 80) dm_X12_keep_79 (u_iast (n := 102) (j := 13) hn rfl rfl (by decide) rfl (Nat.le_of_ble_eq_true rfl)) rfl rfl rfl ?_
  refine me1 (pc' := 81) dm_X12_keep_80 rfl rfl rfl rfl ?_
  refine me3 (pc' := 84) dm_X12_keep_81 (g_get (v := .ref 114) (lu (n := 102) (j := 0) hn rfl) rfl rfl (Nat.le_of_ble_eq_true rfl)) rfl rfl rfl ?_
  refine me0 (pc' := 86) (S' := .int (80 : Int32) :: _) dm_X12_keep_84 rfl rfl rfl rfl ?_
  refine me1 (pc' := 87) dm_X12_keep_86 rfl rfl rfl rfl ?_
  refine me0 (pc' := 88) (S' := .int (80 : Int32) :: _) dm_X12_keep_87 rfl rfl rfl rfl ?_
  refine me0 (pc' := 90) (S' := .int (40 : Int32) :: _) dm_X12_keep_88 rfl rfl rfl rfl ?_
  refine me0 (pc' := 91) (S' := .int (120 : Int32) :: _) dm_X12_keep_90 rfl rfl rfl rfl ?_
  refine me1 (pc' := 92) dm_X12_keep_91 rfl rfl rfl rfl ?_
  refine me0 (pc' := 93) (S' := .int (129 : Int32) :: _) dm_X12_keep_92 rfl rfl rfl rfl ?_
  refine me1 (pc' := 94) dm_X12_keep_93 rfl rfl rfl rfl ?_
  refine me3 (pc' := 97) dm_X12_keep_94 (g_get (v := .ref 111) (lu (n := 102) (j := 0) hn rfl) rfl rfl (Nat.le_of_ble_eq_true rfl)) rfl rfl rfl ?_
  refine me1 (pc' := 98) dm_X12_keep_97 rfl rfl rfl rfl ?_
  refine me3 (pc' := 99) dm_X12_keep_98 (g_lald (v := (0 : Int64)) (lu (n := 102) (j := 9) hn rfl) rfl (by decide) rfl (Nat.le_of_ble_eq_true rfl)) rfl rfl rfl ?_
  refine me3 (pc' := 100) dm_X12_keep_99 (u_last (n := 102) (j := 12) hn rfl rfl (by decide) rfl (Nat.le_of_ble_eq_true rfl)) rfl rfl rfl ?_
  refine me1 (pc' := 101) dm_X12_keep_100 rfl rfl rfl rfl ?_
  refine me3 (pc' := 104) dm_X12_keep_101 (g_get (v := .ref 115) (lu (n := 102) (j := 0) hn rfl) rfl rfl (Nat.le_of_ble_eq_true rfl)) rfl rfl rfl ?_
  refine me0 (pc' := 106) (S' := .int (80 : Int32) :: _) dm_X12_keep_104 rfl rfl rfl rfl ?_
  refine me1 (pc' := 107) dm_X12_keep_106 rfl rfl rfl rfl ?_
  refine me0 (pc' := 108) (S' := .int (80 : Int32) :: _) dm_X12_keep_107 rfl rfl rfl rfl ?_
  refine me0 (pc' := 110) (S' := .int (40 : Int32) :: _) dm_X12_keep_108 rfl rfl rfl rfl ?_
  refine me0 (pc' := 111) (S' := .int (120 : Int32) :: _) dm_X12_keep_110 rfl rfl rfl rfl ?_
  refine me1 (pc' := 112) dm_X12_keep_111 rfl rfl rfl rfl ?_
  refine me0 (pc' := 113) (S' := .int (129 : Int32) :: _) dm_X12_keep_112 rfl rfl rfl rfl ?_
  refine me1 (pc' := 114) dm_X12_keep_113 rfl rfl rfl rfl ?_
  refine me3 (pc' := 117) dm_X12_keep_114 (g_get (v := .ref 113) (lu (n := 102) (j := 0) hn rfl) rfl rfl (Nat.le_of_ble_eq_true rfl)) rfl rfl rfl ?_
  refine me1 (pc' := 118) dm_X12_keep_117 rfl rfl rfl rfl ?_
  refine me3 (pc' := 119) dm_X12_keep_118 (g_iald (v := (0 : Int32)) (lu (n := 102) (j := 11) hn rfl) rfl (by decide) rfl (Nat.le_of_ble_eq_true rfl)) rfl rfl rfl ?_
  refine me3 (pc' := 120) dm_X12_keep_119 (u_iast (n := 102) (j := 13) hn rfl rfl (by decide) rfl (Nat.le_of_ble_eq_true rfl)) rfl rfl rfl ?_
  refine me1 (pc' := 123) (L' := [(2, .int (10 : Int32)), (0, .ref 102), (1, .int (1 : Int32))]) dm_X12_keep_120 rfl rfl rfl rfl ?_
  refine me2 (pc' := 40) dm_X12_keep_123 rfl rfl rfl ?_
  refine me1 (pc' := 41) dm_X12_keep_40 rfl rfl rfl rfl ?_
  refine me0 (pc' := 43) (S' := .int (40 : Int32) :: _) dm_X12_keep_41 rfl rfl rfl rfl ?_
  refine me_2f (pc' := 46) dm_X12_keep_43 rfl (by decide) rfl ?_
  refine me1 (pc' := 47) dm_X12_keep_46 rfl rfl rfl rfl ?_
  refine me3 (pc' := 50) dm_X12_keep_47 (g_get (v := .ref 114) (lu (n := 102) (j := 0) hn rfl) rfl rfl (Nat.le_of_ble_eq_true rfl)) rfl rfl rfl ?_
  refine me0 (pc' := 52) (S' := .int (80 : Int32) :: _) dm_X12_keep_50 rfl rfl rfl rfl ?_
  refine me1 (pc' := 53) dm_X12_keep_52 rfl rfl rfl rfl ?_
  refine me0 (pc' := 54) (S' := .int (80 : Int32) :: _) dm_X12_keep_53 rfl rfl rfl rfl ?_
  refine me1 (pc' := 55) dm_X12_keep_54 rfl rfl rfl rfl ?_
  refine me0 (pc' := 56) (S' := .int (90 : Int32) :: _) dm_X12_keep_55 rfl rfl rfl rfl ?_
  refine me1 (pc' := 57) dm_X12_keep_56 rfl rfl rfl rfl ?_
  refine me3 (pc' := 60) dm_X12_keep_57 (g_get (v := .ref 110) (lu (n := 102) (j := 0) hn rfl) rfl rfl (Nat.le_of_ble_eq_true rfl)) rfl rfl rfl ?_
  refine me1 (pc' := 61) dm_X12_keep_60 rfl rfl rfl rfl ?_
  refine me3 (pc' := 62) dm_X12_keep_61 (g_lald (v := (0 : Int64)) (lu (n := 102) (j := 8) hn rfl) rfl (by decide) rfl (Nat.le_of_ble_eq_true rfl)) rfl rfl rfl ?_
  refine me3 (pc' := 63) dm_X12_keep_62 (u_last (n := 102) (j := 12) hn rfl rfl (by decide) rfl (Nat.le_of_ble_eq_true rfl)) rfl rfl rfl ?_
  refine me1 (pc' := 64) dm_X12_keep_63 rfl rfl rfl rfl ?_
  refine me3 (pc' := 67) dm_X12_keep_64 (g_get (v := .ref 115) (lu (n := 102) (j := 0) hn rfl) rfl rfl (Nat.le_of_ble_eq_true rfl)) rfl rfl rfl ?_
  refine me0 (pc' := 69) (S' := .int (80 : Int32) :: _) dm_X12_keep_67 rfl rfl rfl rfl ?_
  refine me1 (pc' := 70) dm_X12_keep_69 rfl rfl rfl rfl ?_
  refine me0 (pc' := 71) (S' := .int (80 : Int32) :: _) dm_X12_keep_70 rfl rfl rfl rfl ?_
  refine me1 (pc' := 72) dm_X12_keep_71 rfl rfl rfl rfl ?_
  refine me0 (pc' := 73) (S' := .int (90 : Int32) :: _) dm_X12_keep_72 rfl rfl rfl rfl ?_
  refine me1 (pc' := 74) dm_X12_keep_73 rfl rfl rfl rfl ?_
  refine me3 (pc' := 77) dm_X12_keep_74 (g_get (v := .ref 112) (lu (n := 102) (j := 0) hn rfl) rfl rfl (Nat.le_of_ble_eq_true rfl)) rfl rfl rfl ?_
  refine me1 (pc' := 78) dm_X12_keep_77 rfl rfl rfl rfl ?_
  refine me3 (pc' := 79) dm_X12_keep_78 (g_iald (v := (0 : Int32)) (lu (n := 102) (j := 10) hn rfl) rfl (by decide) rfl (Nat.le_of_ble_eq_true rfl)) rfl rfl rfl ?_
  refine me3 (pc' := 80) dm_X12_keep_79 (u_iast (n := 102) (j := 13) hn rfl rfl (by decide) rfl (Nat.le_of_ble_eq_true rfl)) rfl rfl rfl ?_
  refine me1 (pc' := 81) dm_X12_keep_80 rfl rfl rfl rfl ?_
  refine me3 (pc' := 84) dm_X12_keep_81 (g_get (v := .ref 114) (lu (n := 102) (j := 0) hn rfl) rfl rfl (Nat.le_of_ble_eq_true rfl)) rfl rfl rfl ?_
  refine me0 (pc' := 86) (S' := .int (80 : Int32) :: _) dm_X12_keep_84 rfl rfl rfl rfl ?_
  refine me1 (pc' := 87) dm_X12_keep_86 rfl rfl rfl rfl ?_
  refine me0 (pc' := 88) (S' := .int (80 : Int32) :: _) dm_X12_keep_87 rfl rfl rfl rfl ?_
  refine me0 (pc' := 90) (S' := .int (40 : Int32) :: _) dm_X12_keep_88 rfl rfl rfl rfl ?_
  refine me0 (pc' := 91) (S' := .int (120 : Int32) :: _) dm_X12_keep_90 rfl rfl rfl rfl ?_
  refine me1 (pc' := 92) dm_X12_keep_91 rfl rfl rfl rfl ?_
  refine me0 (pc' := 93) (S' := .int (130 : Int32) :: _) dm_X12_keep_92 rfl rfl rfl rfl ?_
  refine me1 (pc' := 94) dm_X12_keep_93 rfl rfl rfl rfl ?_
  refine me3 (pc' := 97) dm_X12_keep_94 (g_get (v := .ref 111) (lu (n := 102) (j := 0) hn rfl) rfl rfl (Nat.le_of_ble_eq_true rfl)) rfl rfl rfl ?_
  refine me1 (pc' := 98) dm_X12_keep_97 rfl rfl rfl rfl ?_
  refine me3 (pc' := 99) dm_X12_keep_98 (g_lald (v := (0 : Int64)) (lu (n := 102) (j := 9) hn rfl) rfl (by decide) rfl (Nat.le_of_ble_eq_true rfl)) rfl rfl rfl ?_
  refine me3 (pc' := 100) dm_X12_keep_99 (u_last (n := 102) (j := 12) hn rfl rfl (by decide) rfl (Nat.le_of_ble_eq_true rfl)) rfl rfl rfl ?_
  refine me1 (pc' := 101) dm_X12_keep_100 rfl rfl rfl rfl ?_
  refine me3 (pc' := 104) dm_X12_keep_101 (g_get (v := .ref 115) (lu (n := 102) (j := 0) hn rfl) rfl rfl (Nat.le_of_ble_eq_true rfl)) rfl rfl rfl ?_
  refine me0 (pc' := 106) (S' := .int (80 : Int32) :: _) dm_X12_keep_104 rfl rfl rfl rfl ?_
  refine me1 (pc' := 107) dm_X12_keep_106 rfl rfl rfl rfl ?_
  refine me0 (pc' := 108) (S' := .int (80 : Int32) :: _) dm_X12_keep_107 rfl rfl rfl rfl ?_
  refine me0 (pc' := 110) (S' := .int (40 : Int32) :: _) dm_X12_keep_108 rfl rfl rfl rfl ?_
  refine me0 (pc' := 111) (S' := .int (120 : Int32) :: _) dm_X12_keep_110 rfl rfl rfl rfl ?_
  refine me1 (pc' := 112) dm_X12_keep_111 rfl rfl rfl rfl ?_
  refine me0 (pc' := 113) (S' := .int (130 : Int32) :: _) dm_X12_keep_112 rfl rfl rfl rfl ?_
  refine me1 (pc' := 114) dm_X12_keep_113 rfl rfl rfl rfl ?_
  refine me3 (pc' := 117) dm_X12_keep_114 (g_get (v := .ref 113) (lu (n := 102) (j := 0) hn rfl) rfl rfl (Nat.le_of_ble_eq_true rfl)) rfl rfl rfl ?_
  refine me1 (pc' := 118) dm_X12_keep_117 rfl rfl rfl rfl ?_
  refine me3 (pc' := 119) dm_X12_keep_118 (g_iald (v := (0 : Int32)) (lu (n := 102) (j := 11) hn rfl) rfl (by decide) rfl (Nat.le_of_ble_eq_true rfl)) rfl rfl rfl ?_
  refine me3 (pc' := 120) dm_X12_keep_119 (u_iast (n := 102) (j := 13) hn rfl rfl (by decide) rfl (Nat.le_of_ble_eq_true rfl)) rfl rfl rfl ?_
  refine me1 (pc' := 123) (L' := [(2, .int (11 : Int32)), (0, .ref 102), (1, .int (1 : Int32))]) dm_X12_keep_120 rfl rfl rfl rfl ?_
  refine me2 (pc' := 40) dm_X12_keep_123 rfl rfl rfl ?_
  refine me1 (pc' := 41) dm_X12_keep_40 rfl rfl rfl rfl ?_
  refine me0 (pc' := 43) (S' := .int (40 : Int32) :: _) dm_X12_keep_41 rfl rfl rfl rfl ?_
  refine me_2f (pc' := 46) dm_X12_keep_43 rfl (by decide) rfl ?_
  refine me1 (pc' := 47) dm_X12_keep_46 rfl rfl rfl rfl ?_
  refine me3 (pc' := 50) dm_X12_keep_47 (g_get (v := .ref 114) (lu (n := 102) (j := 0) hn rfl) rfl rfl (Nat.le_of_ble_eq_true rfl)) rfl rfl rfl ?_
  refine me0 (pc' := 52) (S' := .int (80 : Int32) :: _) dm_X12_keep_50 rfl rfl rfl rfl ?_
  refine me1 (pc' := 53) dm_X12_keep_52 rfl rfl rfl rfl ?_
  refine me0 (pc' := 54) (S' := .int (80 : Int32) :: _) dm_X12_keep_53 rfl rfl rfl rfl ?_
  refine me1 (pc' := 55) dm_X12_keep_54 rfl rfl rfl rfl ?_
  refine me0 (pc' := 56) (S' := .int (91 : Int32) :: _) dm_X12_keep_55 rfl rfl rfl rfl ?_
  refine me1 (pc' := 57) dm_X12_keep_56 rfl rfl rfl rfl ?_
  refine me3 (pc' := 60) dm_X12_keep_57 (g_get (v := .ref 110) (lu (n := 102) (j := 0) hn rfl) rfl rfl (Nat.le_of_ble_eq_true rfl)) rfl rfl rfl ?_
  refine me1 (pc' := 61) dm_X12_keep_60 rfl rfl rfl rfl ?_
  refine me3 (pc' := 62) dm_X12_keep_61 (g_lald (v := (0 : Int64)) (lu (n := 102) (j := 8) hn rfl) rfl (by decide) rfl (Nat.le_of_ble_eq_true rfl)) rfl rfl rfl ?_
  refine me3 (pc' := 63) dm_X12_keep_62 (u_last (n := 102) (j := 12) hn rfl rfl (by decide) rfl (Nat.le_of_ble_eq_true rfl)) rfl rfl rfl ?_
  refine me1 (pc' := 64) dm_X12_keep_63 rfl rfl rfl rfl ?_
  refine me3 (pc' := 67) dm_X12_keep_64 (g_get (v := .ref 115) (lu (n := 102) (j := 0) hn rfl) rfl rfl (Nat.le_of_ble_eq_true rfl)) rfl rfl rfl ?_
  refine me0 (pc' := 69) (S' := .int (80 : Int32) :: _) dm_X12_keep_67 rfl rfl rfl rfl ?_
  refine me1 (pc' := 70) dm_X12_keep_69 rfl rfl rfl rfl ?_
  refine me0 (pc' := 71) (S' := .int (80 : Int32) :: _) dm_X12_keep_70 rfl rfl rfl rfl ?_
  refine me1 (pc' := 72) dm_X12_keep_71 rfl rfl rfl rfl ?_
  refine me0 (pc' := 73) (S' := .int (91 : Int32) :: _) dm_X12_keep_72 rfl rfl rfl rfl ?_
  refine me1 (pc' := 74) dm_X12_keep_73 rfl rfl rfl rfl ?_
  refine me3 (pc' := 77) dm_X12_keep_74 (g_get (v := .ref 112) (lu (n := 102) (j := 0) hn rfl) rfl rfl (Nat.le_of_ble_eq_true rfl)) rfl rfl rfl ?_
  refine me1 (pc' := 78) dm_X12_keep_77 rfl rfl rfl rfl ?_
  refine me3 (pc' := 79) dm_X12_keep_78 (g_iald (v := (0 : Int32)) (lu (n := 102) (j := 10) hn rfl) rfl (by decide) rfl (Nat.le_of_ble_eq_true rfl)) rfl rfl rfl ?_
  refine me3 (pc' := 80) dm_X12_keep_79 (u_iast (n := 102) (j := 13) hn rfl rfl (by decide) rfl (Nat.le_of_ble_eq_true rfl)) rfl rfl rfl ?_
  refine me1 (pc' := 81) dm_X12_keep_80 rfl rfl rfl rfl ?_
  refine me3 (pc' := 84) dm_X12_keep_81 (g_get (v := .ref 114) (lu (n := 102) (j := 0) hn rfl) rfl rfl (Nat.le_of_ble_eq_true rfl)) rfl rfl rfl ?_
  refine me0 (pc' := 86) (S' := .int (80 : Int32) :: _) dm_X12_keep_84 rfl rfl rfl rfl ?_
  refine me1 (pc' := 87) dm_X12_keep_86 rfl rfl rfl rfl ?_
  refine me0 (pc' := 88) (S' := .int (80 : Int32) :: _) dm_X12_keep_87 rfl rfl rfl rfl ?_
  refine me0 (pc' := 90) (S' := .int (40 : Int32) :: _) dm_X12_keep_88 rfl rfl rfl rfl ?_
  refine me0 (pc' := 91) (S' := .int (120 : Int32) :: _) dm_X12_keep_90 rfl rfl rfl rfl ?_
  refine me1 (pc' := 92) dm_X12_keep_91 rfl rfl rfl rfl ?_
  refine me0 (pc' := 93) (S' := .int (131 : Int32) :: _) dm_X12_keep_92 rfl rfl rfl rfl ?_
  refine me1 (pc' := 94) dm_X12_keep_93 rfl rfl rfl rfl ?_
  refine me3 (pc' := 97) dm_X12_keep_94 (g_get (v := .ref 111) (lu (n := 102) (j := 0) hn rfl) rfl rfl (Nat.le_of_ble_eq_true rfl)) rfl rfl rfl ?_
  refine me1 (pc' := 98) dm_X12_keep_97 rfl rfl rfl rfl ?_
  refine me3 (pc' := 99) dm_X12_keep_98 (g_lald (v := (0 : Int64)) (lu (n := 102) (j := 9) hn rfl) rfl (by decide) rfl (Nat.le_of_ble_eq_true rfl)) rfl rfl rfl ?_
  refine me3 (pc' := 100) dm_X12_keep_99 (u_last (n := 102) (j := 12) hn rfl rfl (by decide) rfl (Nat.le_of_ble_eq_true rfl)) rfl rfl rfl ?_
  refine me1 (pc' := 101) dm_X12_keep_100 rfl rfl rfl rfl ?_
  refine me3 (pc' := 104) dm_X12_keep_101 (g_get (v := .ref 115) (lu (n := 102) (j := 0) hn rfl) rfl rfl (Nat.le_of_ble_eq_true rfl)) rfl rfl rfl ?_
  refine me0 (pc' := 106) (S' := .int (80 : Int32) :: _) dm_X12_keep_104 rfl rfl rfl rfl ?_
  refine me1 (pc' := 107) dm_X12_keep_106 rfl rfl rfl rfl ?_
  refine me0 (pc' := 108) (S' := .int (80 : Int32) :: _) dm_X12_keep_107 rfl rfl rfl rfl ?_
  refine me0 (pc' := 110) (S' := .int (40 : Int32) :: _) dm_X12_keep_108 rfl rfl rfl rfl ?_
  refine me0 (pc' := 111) (S' := .int (120 : Int32) :: _) dm_X12_keep_110 rfl rfl rfl rfl ?_
  refine me1 (pc' := 112) dm_X12_keep_111 rfl rfl rfl rfl ?_
  refine me0 (pc' := 113) (S' := .int (131 : Int32) :: _) dm_X12_keep_112 rfl rfl rfl rfl ?_
  refine me1 (pc' := 114) dm_X12_keep_113 rfl rfl rfl rfl ?_
  refine me3 (pc' := 117) dm_X12_keep_114 (g_get (v := .ref 113) (lu (n := 102) (j := 0) hn rfl) rfl rfl (Nat.le_of_ble_eq_true rfl)) rfl rfl rfl ?_
  refine me1 (pc' := 118) dm_X12_keep_117 rfl rfl rfl rfl ?_
  refine me3 (pc' := 119) dm_X12_keep_118 (g_iald (v := (0 : Int32)) (lu (n := 102) (j := 11) hn rfl) rfl (by decide) rfl (Nat.le_of_ble_eq_true rfl)) rfl rfl rfl ?_
  refine me3 (pc' := 120) dm_X12_keep_119 (u_iast (n := 102) (j := 13) hn rfl rfl (by decide) rfl (Nat.le_of_ble_eq_true rfl)) rfl rfl rfl ?_
  refine me1 (pc' := 123) (L' := [(2, .int (12 : Int32)), (0, .ref 102), (1, .int (1 : Int32))]) dm_X12_keep_120 rfl rfl rfl rfl ?_
  refine me2 (pc' := 40) dm_X12_keep_123 rfl rfl rfl ?_
  refine me1 (pc' := 41) dm_X12_keep_40 rfl rfl rfl rfl ?_
  refine me0 (pc' := 43) (S' := .int (40 : Int32) :: _) dm_X12_keep_41 rfl rfl rfl rfl ?_
  refine me_2f (pc' := 46) dm_X12_keep_43 rfl (by decide) rfl ?_
  refine me1 (pc' := 47) dm_X12_keep_46 rfl rfl rfl rfl ?_
  refine me3 (pc' := 50) dm_X12_keep_47 (g_get (v := .ref 114) (lu (n := 102) (j := 0) hn rfl) rfl rfl (Nat.le_of_ble_eq_true rfl)) rfl rfl rfl ?_
  refine me0 (pc' := 52) (S' := .int (80 : Int32) :: _) dm_X12_keep_50 rfl rfl rfl rfl ?_
  refine me1 (pc' := 53) dm_X12_keep_52 rfl rfl rfl rfl ?_
  refine me0 (pc' := 54) (S' := .int (80 : Int32) :: _) dm_X12_keep_53 rfl rfl rfl rfl ?_
  refine me1 (pc' := 55) dm_X12_keep_54 rfl rfl rfl rfl ?_
  refine me0 (pc' := 56) (S' := .int (92 : Int32) :: _) dm_X12_keep_55 rfl rfl rfl rfl ?_
  refine me1 (pc' := 57) dm_X12_keep_56 rfl rfl rfl rfl ?_
  refine me3 (pc' := 60) dm_X12_keep_57 (g_get (v := .ref 110) (lu (n := 102) (j := 0) hn rfl) rfl rfl (Nat.le_of_ble_eq_true rfl)) rfl rfl rfl ?_
  refine me1 (pc' := 61) dm_X12_keep_60 rfl rfl rfl rfl ?_
  refine me3 (pc' := 62) dm_X12_keep_61 (g_lald (v := (0 : Int64)) (lu (n := 102) (j := 8) hn rfl) rfl (by decide) rfl (Nat.le_of_ble_eq_true rfl)) rfl rfl rfl ?_
  refine me3 (pc' := 63) dm_X12_keep_62 (u_last (n := 102) (j := 12) hn rfl rfl (by decide) rfl (Nat.le_of_ble_eq_true rfl)) rfl rfl rfl ?_
  refine me1 (pc' := 64) dm_X12_keep_63 rfl rfl rfl rfl ?_
  refine me3 (pc' := 67) dm_X12_keep_64 (g_get (v := .ref 115) (lu (n := 102) (j := 0) hn rfl) rfl rfl (Nat.le_of_ble_eq_true rfl)) rfl rfl rfl ?_
  refine me0 (pc' := 69) (S' := .int (80 : Int32) :: _) dm_X12_keep_67 rfl rfl rfl rfl ?_
  refine me1 (pc' := 70) dm_X12_keep_69 rfl rfl rfl rfl ?_
  refine me0 (pc' := 71) (S' := .int (80 : Int32) :: _) dm_X12_keep_70 rfl rfl rfl rfl ?_
  refine me1 (pc' := 72) dm_X12_keep_71 rfl rfl rfl rfl ?_
  refine me0 (pc' := 73) (S' := .int (92 : Int32) :: _) dm_X12_keep_72 rfl rfl rfl rfl ?_
  refine me1 (pc' := 74) dm_X12_keep_73 rfl rfl rfl rfl ?_
  refine me3 (pc' := 77) dm_X12_keep_74 (g_get (v := .ref 112) (lu (n := 102) (j := 0) hn rfl) rfl rfl (Nat.le_of_ble_eq_true rfl)) rfl rfl rfl ?_
  refine me1 (pc' := 78) dm_X12_keep_77 rfl rfl rfl rfl ?_
  refine me3 (pc' := 79) dm_X12_keep_78 (g_iald (v := (0 : Int32)) (lu (n := 102) (j := 10) hn rfl) rfl (by decide) rfl (Nat.le_of_ble_eq_true rfl)) rfl rfl rfl ?_
  refine me3 (pc' := 80) dm_X12_keep_79 (u_iast (n := 102) (j := 13) hn rfl rfl (by decide) rfl (Nat.le_of_ble_eq_true rfl)) rfl rfl rfl ?_
  refine me1 (pc' := 81) dm_X12_keep_80 rfl rfl rfl rfl ?_
  refine me3 (pc' := 84) dm_X12_keep_81 (g_get (v := .ref 114) (lu (n := 102) (j := 0) hn rfl) rfl rfl (Nat.le_of_ble_eq_true rfl)) rfl rfl rfl ?_
  refine me0 (pc' := 86) (S' := .int (80 : Int32) :: _) dm_X12_keep_84 rfl rfl rfl rfl ?_
  refine me1 (pc' := 87) dm_X12_keep_86 rfl rfl rfl rfl ?_
  refine me0 (pc' := 88) (S' := .int (80 : Int32) :: _) dm_X12_keep_87 rfl rfl rfl rfl ?_
  refine me0 (pc' := 90) (S' := .int (40 : Int32) :: _) dm_X12_keep_88 rfl rfl rfl rfl ?_
  refine me0 (pc' := 91) (S' := .int (120 : Int32) :: _) dm_X12_keep_90 rfl rfl rfl rfl ?_
  refine me1 (pc' := 92) dm_X12_keep_91 rfl rfl rfl rfl ?_
  refine me0 (pc' := 93) (S' := .int (132 : Int32) :: _) dm_X12_keep_92 rfl rfl rfl rfl ?_
  refine me1 (pc' := 94) dm_X12_keep_93 rfl rfl rfl rfl ?_
  refine me3 (pc' := 97) dm_X12_keep_94 (g_get (v := .ref 111) (lu (n := 102) (j := 0) hn rfl) rfl rfl (Nat.le_of_ble_eq_true rfl)) rfl rfl rfl ?_
  refine me1 (pc' := 98) dm_X12_keep_97 rfl rfl rfl rfl ?_
  refine me3 (pc' := 99) dm_X12_keep_98 (g_lald (v := (0 : Int64)) (lu (n := 102) (j := 9) hn rfl) rfl (by decide) rfl (Nat.le_of_ble_eq_true rfl)) rfl rfl rfl ?_
  refine me3 (pc' := 100) dm_X12_keep_99 (u_last (n := 102) (j := 12) hn rfl rfl (by decide) rfl (Nat.le_of_ble_eq_true rfl)) rfl rfl rfl ?_
  refine me1 (pc' := 101) dm_X12_keep_100 rfl rfl rfl rfl ?_
  refine me3 (pc' := 104) dm_X12_keep_101 (g_get (v := .ref 115) (lu (n := 102) (j := 0) hn rfl) rfl rfl (Nat.le_of_ble_eq_true rfl)) rfl rfl rfl ?_
  refine me0 (pc' := 106) (S' := .int (80 : Int32) :: _) dm_X12_keep_104 rfl rfl rfl rfl ?_
  refine me1 (pc' := 107) dm_X12_keep_106 rfl rfl rfl rfl ?_
  refine me0 (pc' := 108) (S' := .int (80 : Int32) :: _) dm_X12_keep_107 rfl rfl rfl rfl ?_
  refine me0 (pc' := 110) (S' := .int (40 : Int32) :: _) dm_X12_keep_108 rfl rfl rfl rfl ?_
  refine me0 (pc' := 111) (S' := .int (120 : Int32) :: _) dm_X12_keep_110 rfl rfl rfl rfl ?_
  refine me1 (pc' := 112) dm_X12_keep_111 rfl rfl rfl rfl ?_
  refine me0 (pc' := 113) (S' := .int (132 : Int32) :: _) dm_X12_keep_112 rfl rfl rfl rfl ?_
  refine me1 (pc' := 114) dm_X12_keep_113 rfl rfl rfl rfl ?_
  refine me3 (pc' := 117) dm_X12_keep_114 (g_get (v := .ref 113) (lu (n := 102) (j := 0) hn rfl) rfl rfl (Nat.le_of_ble_eq_true rfl)) rfl rfl rfl ?_
  refine me1 (pc' := 118) dm_X12_keep_117 rfl rfl rfl rfl ?_
  refine me3 (pc' := 119) dm_X12_keep_118 (g_iald (v := (0 : Int32)) (lu (n := 102) (j := 11) hn rfl) rfl (by decide) rfl (Nat.le_of_ble_eq_true rfl)) rfl rfl rfl ?_
  refine me3 (pc' := 120) dm_X12_keep_119 (u_iast (n := 102) (j := 13) hn rfl rfl (by decide) rfl (Nat.le_of_ble_eq_true rfl)) rfl rfl rfl ?_
  refine me1 (pc' := 123) (L' := [(2, .int (13 : Int32)), (0, .ref 102), (1, .int (1 : Int32))]) dm_X12_keep_120 rfl rfl rfl rfl ?_
  refine me2 (pc' := 40) dm_X12_keep_123 rfl rfl rfl ?_
  refine me1 (pc' := 41) dm_X12_keep_40 rfl rfl rfl rfl ?_
  refine me0 (pc' := 43) (S' := .int (40 : Int32) :: _) dm_X12_keep_41 rfl rfl rfl rfl ?_
  refine me_2f (pc' := 46) dm_X12_keep_43 rfl (by decide) rfl ?_
  refine me1 (pc' := 47) dm_X12_keep_46 rfl rfl rfl rfl ?_
  refine me3 (pc' := 50) dm_X12_keep_47 (g_get (v := .ref 114) (lu (n := 102) (j := 0) hn rfl) rfl rfl (Nat.le_of_ble_eq_true rfl)) rfl rfl rfl ?_
  refine me0 (pc' := 52) (S' := .int (80 : Int32) :: _) dm_X12_keep_50 rfl rfl rfl rfl ?_
  refine me1 (pc' := 53) dm_X12_keep_52 rfl rfl rfl rfl ?_
  refine me0 (pc' := 54) (S' := .int (80 : Int32) :: _) dm_X12_keep_53 rfl rfl rfl rfl ?_
  refine me1 (pc' := 55) dm_X12_keep_54 rfl rfl rfl rfl ?_
  refine me0 (pc' := 56) (S' := .int (93 : Int32) :: _) dm_X12_keep_55 rfl rfl rfl rfl ?_
  refine me1 (pc' := 57) dm_X12_keep_56 rfl rfl rfl rfl ?_
  refine me3 (pc' := 60) dm_X12_keep_57 (g_get (v := .ref 110) (lu (n := 102) (j := 0) hn rfl) rfl rfl (Nat.le_of_ble_eq_true rfl)) rfl rfl rfl ?_
  refine me1 (pc' := 61) dm_X12_keep_60 rfl rfl rfl rfl ?_
  refine me3 (pc' := 62) dm_X12_keep_61 (g_lald (v := (0 : Int64)) (lu (n := 102) (j := 8) hn rfl) rfl (by decide) rfl (Nat.le_of_ble_eq_true rfl)) rfl rfl rfl ?_
  refine me3 (pc' := 63) dm_X12_keep_62 (u_last (n := 102) (j := 12) hn rfl rfl (by decide) rfl (Nat.le_of_ble_eq_true rfl)) rfl rfl rfl ?_
  refine me1 (pc' := 64) dm_X12_keep_63 rfl rfl rfl rfl ?_
  refine me3 (pc' := 67) dm_X12_keep_64 (g_get (v := .ref 115) (lu (n := 102) (j := 0) hn rfl) rfl rfl (Nat.le_of_ble_eq_true rfl)) rfl rfl rfl ?_
  refine me0 (pc' := 69) (S' := .int (80 : Int32) :: _) dm_X12_keep_67 rfl rfl rfl rfl ?_
  refine me1 (pc' := 70) dm_X12_keep_69 rfl rfl rfl rfl ?_
  refine me0 (pc' := 71) (S' := .int (80 : Int32) :: _) dm_X12_keep_70 rfl rfl rfl rfl ?_
  refine me1 (pc' := 72) dm_X12_keep_71 rfl rfl rfl rfl ?_
  refine me0 (pc' := 73) (S' := .int (93 : Int32) :: _) dm_X12_keep_72 rfl rfl rfl rfl ?_
  refine me1 (pc' := 74) dm_X12_keep_73 rfl rfl rfl rfl ?_
  refine me3 (pc' := 77) dm_X12_keep_74 (g_get (v := .ref 112) (lu (n := 102) (j := 0) hn rfl) rfl rfl (Nat.le_of_ble_eq_true rfl)) rfl rfl rfl ?_
  refine me1 (pc' := 78) dm_X12_keep_77 rfl rfl rfl rfl ?_
  refine me3 (pc' := 79) dm_X12_keep_78 (g_iald (v := (0 : Int32)) (lu (n := 102) (j := 10) hn rfl) rfl (by decide) rfl (Nat.le_of_ble_eq_true rfl)) rfl rfl rfl ?_
  refine me3 (pc' := 80) dm_X12_keep_79 (u_iast (n := 102) (j := 13) hn rfl rfl (by decide) rfl (Nat.le_of_ble_eq_true rfl)) rfl rfl rfl ?_
  refine me1 (pc' := 81) dm_X12_keep_80 rfl rfl rfl rfl ?_
  refine me3 (pc' := 84) dm_X12_keep_81 (g_get (v := .ref 114) (lu (n := 102) (j := 0) hn rfl) rfl rfl (Nat.le_of_ble_eq_true rfl)) rfl rfl rfl ?_
  refine me0 (pc' := 86) (S' := .int (80 : Int32) :: _) dm_X12_keep_84 rfl rfl rfl rfl ?_
  refine me1 (pc' := 87) dm_X12_keep_86 rfl rfl rfl rfl ?_
  refine me0 (pc' := 88) (S' := .int (80 : Int32) :: _) dm_X12_keep_87 rfl rfl rfl rfl ?_
  refine me0 (pc' := 90) (S' := .int (40 : Int32) :: _) dm_X12_keep_88 rfl rfl rfl rfl ?_
  refine me0 (pc' := 91) (S' := .int (120 : Int32) :: _) dm_X12_keep_90 rfl rfl rfl rfl ?_
  refine me1 (pc' := 92) dm_X12_keep_91 rfl rfl rfl rfl ?_
  refine me0 (pc' := 93) (S' := .int (133 : Int32) :: _) dm_X12_keep_92 rfl rfl rfl rfl ?_
  refine me1 (pc' := 94) dm_X12_keep_93 rfl rfl rfl rfl ?_
  refine me3 (pc' := 97) dm_X12_keep_94 (g_get (v := .ref 111) (lu (n := 102) (j := 0) hn rfl) rfl rfl (Nat.le_of_ble_eq_true rfl)) rfl rfl rfl ?_
  refine me1 (pc' := 98) dm_X12_keep_97 rfl rfl rfl rfl ?_
  refine me3 (pc' := 99) dm_X12_keep_98 (g_lald (v := (0 : Int64)) (lu (n := 102) (j := 9) hn rfl) rfl (by decide) rfl (Nat.le_of_ble_eq_true rfl)) rfl rfl rfl ?_
  refine me3 (pc' := 100) dm_X12_keep_99 (u_last (n := 102) (j := 12) hn rfl rfl (by decide) rfl (Nat.le_of_ble_eq_true rfl)) rfl rfl rfl ?_
  refine me1 (pc' := 101) dm_X12_keep_100 rfl rfl rfl rfl ?_
  refine me3 (pc' := 104) dm_X12_keep_101 (g_get (v := .ref 115) (lu (n := 102) (j := 0) hn rfl) rfl rfl (Nat.le_of_ble_eq_true rfl)) rfl rfl rfl ?_
  refine me0 (pc' := 106) (S' := .int (80 : Int32) :: _) dm_X12_keep_104 rfl rfl rfl rfl ?_
  refine me1 (pc' := 107) dm_X12_keep_106 rfl rfl rfl rfl ?_
  refine me0 (pc' := 108) (S' := .int (80 : Int32) :: _) dm_X12_keep_107 rfl rfl rfl rfl ?_
  refine me0 (pc' := 110) (S' := .int (40 : Int32) :: _) dm_X12_keep_108 rfl rfl rfl rfl ?_
  refine me0 (pc' := 111) (S' := .int (120 : Int32) :: _) dm_X12_keep_110 rfl rfl rfl rfl ?_
  refine me1 (pc' := 112) dm_X12_keep_111 rfl rfl rfl rfl ?_
  refine me0 (pc' := 113) (S' := .int (133 : Int32) :: _) dm_X12_keep_112 rfl rfl rfl rfl ?_
  refine me1 (pc' := 114) dm_X12_keep_113 rfl rfl rfl rfl ?_
  refine me3 (pc' := 117) dm_X12_keep_114 (g_get (v := .ref 113) (lu (n := 102) (j := 0) hn rfl) rfl rfl (Nat.le_of_ble_eq_true rfl)) rfl rfl rfl ?_
  refine me1 (pc' := 118) dm_X12_keep_117 rfl rfl rfl rfl ?_
  refine me3 (pc' := 119) dm_X12_keep_118 (g_iald (v := (0 : Int32)) (lu (n := 102) (j := 11) hn rfl) rfl (by decide) rfl (Nat.le_of_ble_eq_true rfl)) rfl rfl rfl ?_
  refine me3 (pc' := 120) dm_X12_keep_119 (u_iast (n := 102) (j := 13) hn rfl rfl (by decide) rfl (Nat.le_of_ble_eq_true rfl)) rfl rfl rfl ?_
  refine me1 (pc' := 123) (L' := [(2, .int (14 : Int32)), (0, .ref 102), (1, .int (1 : Int32))]) dm_X12_keep_120 rfl rfl rfl rfl ?_
  refine me2 (pc' := 40) dm_X12_keep_123 rfl rfl rfl ?_
  refine me1 (pc' := 41) dm_X12_keep_40 rfl rfl rfl rfl ?_
  refine me0 (pc' := 43) (S' := .int (40 : Int32) :: _) dm_X12_keep_41 rfl rfl rfl rfl ?_
  refine me_2f (pc' := 46) dm_X12_keep_43 rfl (by decide) rfl ?_
  refine me1 (pc' := 47) dm_X12_keep_46 rfl rfl rfl rfl ?_
  refine me3 (pc' := 50) dm_X12_keep_47 (g_get (v := .ref 114) (lu (n := 102) (j := 0) hn rfl) rfl rfl (Nat.le_of_ble_eq_true rfl)) rfl rfl rfl ?_
  refine me0 (pc' := 52) (S' := .int (80 : Int32) :: _) dm_X12_keep_50 rfl rfl rfl rfl ?_
  refine me1 (pc' := 53) dm_X12_keep_52 rfl rfl rfl rfl ?_
  refine me0 (pc' := 54) (S' := .int (80 : Int32) :: _) dm_X12_keep_53 rfl rfl rfl rfl ?_
  refine me1 (pc' := 55) dm_X12_keep_54 rfl rfl rfl rfl ?_
  refine me0 (pc' := 56) (S' := .int (94 : Int32) :: _) dm_X12_keep_55 rfl rfl rfl rfl ?_
  refine me1 (pc' := 57) dm_X12_keep_56 rfl rfl rfl rfl ?_
  refine me3 (pc' := 60) dm_X12_keep_57 (g_get (v := .ref 110) (lu (n := 102) (j := 0) hn rfl) rfl rfl (Nat.le_of_ble_eq_true rfl)) rfl rfl rfl ?_
  refine me1 (pc' := 61) dm_X12_keep_60 rfl rfl rfl rfl ?_
  refine me3 (pc' := 62) dm_X12_keep_61 (g_lald (v := (0 : Int64)) (lu (n := 102) (j := 8) hn rfl) rfl (by decide) rfl (Nat.le_of_ble_eq_true rfl)) rfl rfl rfl ?_
  refine me3 (pc' := 63) dm_X12_keep_62 (u_last (n := 102) (j := 12) hn rfl rfl (by decide) rfl (Nat.le_of_ble_eq_true rfl)) rfl rfl rfl ?_
  refine me1 (pc' := 64) dm_X12_keep_63 rfl rfl rfl rfl ?_
  refine me3 (pc' := 67) dm_X12_keep_64 (g_get (v := .ref 115) (lu (n := 102) (j := 0) hn rfl) rfl rfl (Nat.le_of_ble_eq_true rfl)) rfl rfl rfl ?_
  refine me0 (pc' := 69) (S' := .int (80 : Int32) :: _) dm_X12_keep_67 rfl rfl rfl rfl ?_
  refine me1 (pc' := 70) dm_X12_keep_69 rfl rfl rfl rfl ?_
  refine me0 (pc' := 71) (S' := .int (80 : Int32) :: _) dm_X12_keep_70 rfl rfl rfl rfl ?_
  refine me1 (pc' := 72) dm_X12_keep_71 rfl rfl rfl rfl ?_
  refine me0 (pc' := 73) (S' := .int (94 : Int32) :: _) dm_X12_keep_72 rfl rfl rfl rfl ?_
  refine me1 (pc' := 74) dm_X12_keep_73 rfl rfl rfl rfl ?_
  refine me3 (pc' := 77) dm_X12_keep_74 (g_get (v := .ref 112) (lu (n := 102) (j := 0) hn rfl) rfl rfl (Nat.le_of_ble_eq_true rfl)) rfl rfl rfl ?_
  refine me1 (pc' := 78) dm_X12_keep_77 rfl rfl rfl rfl ?_
  refine me3 (pc' := 79) dm_X12_keep_78 (g_iald (v := (0 : Int32)) (lu (n := 102) (j := 10) hn rfl) rfl (by decide) rfl (Nat.le_of_ble_eq_true rfl)) rfl rfl rfl ?_
  refine me3 (pc' := 80) dm_X12_keep_79 (u_iast (n := 102) (j := 13) hn rfl rfl (by decide) rfl (Nat.le_of_ble_eq_true rfl)) rfl rfl rfl ?_
  refine me1 (pc' := 81) dm_X12_keep_80 rfl rfl rfl rfl ?_
  refine me3 (pc' := 84) dm_X12_keep_81 (g_get (v := .ref 114) (lu (n := 102) (j := 0) hn rfl) rfl rfl (Nat.le_of_ble_eq_true rfl)) rfl rfl rfl ?_
  refine me0 (pc' := 86) (S' := .int (80 : Int32) :: _) dm_X12_keep_84 rfl rfl rfl rfl ?_
  refine me1 (pc' := 87) dm_X12_keep_86 rfl rfl rfl rfl ?_
  refine me0 (pc' := 88) (S' := .int (80 : Int32) :: _) dm_X12_keep_87 rfl rfl rfl rfl ?_
  refine me0 (pc' := 90) (S' := .int (40 : Int32) :: _) dm_X12_keep_88 rfl rfl rfl rfl ?_
  refine me0 (pc' := 91) (S' := .int (120 : Int32) :: _) dm_X12_keep_90 rfl rfl rfl rfl ?_
  refine me1 (pc' := 92) dm_X12_keep_91 rfl rfl rfl rfl ?_
  refine me0 (pc' := 93) (S' := .int (134 : Int32) :: _) dm_X12_keep_92 rfl rfl rfl rfl ?_
  refine me1 (pc' := 94) dm_X12_keep_93 rfl rfl rfl rfl ?_
  refine me3 (pc' := 97) dm_X12_keep_94 (g_get (v := .ref 111) (lu (n := 102) (j := 0) hn rfl) rfl rfl (Nat.le_of_ble_eq_true rfl)) rfl rfl rfl ?_
  refine me1 (pc' := 98) dm_X12_keep_97 rfl rfl rfl rfl ?_
  refine me3 (pc' := 99) dm_X12_keep_98 (g_lald (v := (0 : Int64)) (lu (n := 102) (j := 9) hn rfl) rfl (by decide) rfl (Nat.le_of_ble_eq_true rfl)) rfl rfl rfl ?_
  refine me3 (pc' := 100) dm_X12_keep_99 (u_last (n := 102) (j := 12) hn rfl rfl (by decide) rfl (Nat.le_of_ble_eq_true rfl)) rfl rfl rfl ?_
  refine me1 (pc' := 101) dm_X12_keep_100 rfl rfl rfl rfl ?_
  refine me3 (pc' := 104) dm_X12_keep_101 (g_get (v := .ref 115) (lu (n := 102) (j := 0) hn rfl) rfl rfl (Nat.le_of_ble_eq_true rfl)) rfl rfl rfl ?_
  refine me0 (pc' := 106) (S' := .int (80 : Int32) :: _) dm_X12_keep_104 rfl rfl rfl rfl ?_
  refine me1 (pc' := 107) dm_X12_keep_106 rfl rfl rfl rfl ?_
  refine me0 (pc' := 108) (S' := .int (80 : Int32) :: _) dm_X12_keep_107 rfl rfl rfl rfl ?_
  refine me0 (pc' := 110) (S' := .int (40 : Int32) :: _) dm_X12_keep_108 rfl rfl rfl rfl ?_
  refine me0 (pc' := 111) (S' := .int (120 : Int32) :: _) dm_X12_keep_110 rfl rfl rfl rfl ?_
  refine me1 (pc' := 112) dm_X12_keep_111 rfl rfl rfl rfl ?_
  refine me0 (pc' := 113) (S' := .int (134 : Int32) :: _) dm_X12_keep_112 rfl rfl rfl rfl ?_
  refine me1 (pc' := 114) dm_X12_keep_113 rfl rfl rfl rfl ?_
  refine me3 (pc' := 117) dm_X12_keep_114 (g_get (v := .ref 113) (lu (n := 102) (j := 0) hn rfl) rfl rfl (Nat.le_of_ble_eq_true rfl)) rfl rfl rfl ?_
  refine me1 (pc' := 118) dm_X12_keep_117 rfl rfl rfl rfl ?_
  refine me3 (pc' := 119) dm_X12_keep_118 (g_iald (v := (0 : Int32)) (lu (n := 102) (j := 11) hn rfl) rfl (by decide) rfl (Nat.le_of_ble_eq_true rfl)) rfl rfl rfl ?_
  refine me3 (pc' := 120) dm_X12_keep_119 (u_iast (n := 102) (j := 13) hn rfl rfl (by decide) rfl (Nat.le_of_ble_eq_true rfl)) rfl rfl rfl ?_
  refine me1 (pc' := 123) (L' := [(2, .int (15 : Int32)), (0, .ref 102), (1, .int (1 : Int32))]) dm_X12_keep_120 rfl rfl rfl rfl ?_
  refine me2 (pc' := 40) dm_X12_keep_123 rfl rfl rfl ?_
  refine me1 (pc' := 41) dm_X12_keep_40 rfl rfl rfl rfl ?_
  refine me0 (pc' := 43) (S' := .int (40 : Int32) :: _) dm_X12_keep_41 rfl rfl rfl rfl ?_
  refine me_2f (pc' := 46) dm_X12_keep_43 rfl (by decide) rfl ?_
  refine me1 (pc' := 47) dm_X12_keep_46 rfl rfl rfl rfl ?_
  refine me3 (pc' := 50) dm_X12_keep_47 (g_get (v := .ref 114) (lu (n := 102) (j := 0) hn rfl) rfl rfl (Nat.le_of_ble_eq_true rfl)) rfl rfl rfl ?_
  refine me0 (pc' := 52) (S' := .int (80 : Int32) :: _) dm_X12_keep_50 rfl rfl rfl rfl ?_
  refine me1 (pc' := 53) dm_X12_keep_52 rfl rfl rfl rfl ?_
  refine me0 (pc' := 54) (S' := .int (80 : Int32) :: _) dm_X12_keep_53 rfl rfl rfl rfl ?_
  refine me1 (pc' := 55) dm_X12_keep_54 rfl rfl rfl rfl ?_
  refine me0 (pc' := 56) (S' := .int (95 : Int32) :: _) dm_X12_keep_55 rfl rfl rfl rfl ?_
  refine me1 (pc' := 57) dm_X12_keep_56 rfl rfl rfl rfl ?_
  refine me3 (pc' := 60) dm_X12_keep_57 (g_get (v := .ref 110) (lu (n := 102) (j := 0) hn rfl) rfl rfl (Nat.le_of_ble_eq_true rfl)) rfl rfl rfl ?_
  refine me1 (pc' := 61) dm_X12_keep_60 rfl rfl rfl rfl ?_
  refine me3 (pc' := 62) dm_X12_keep_61 (g_lald (v := (0 : Int64)) (lu (n := 102) (j := 8) hn rfl) rfl (by decide) rfl (Nat.le_of_ble_eq_true rfl)) rfl rfl rfl ?_
  refine me3 (pc' := 63) dm_X12_keep_62 (u_last (n := 102) (j := 12) hn rfl rfl (by decide) rfl (Nat.le_of_ble_eq_true rfl)) rfl rfl rfl ?_
  refine me1 (pc' := 64) dm_X12_keep_63 rfl rfl rfl rfl ?_
  refine me3 (pc' := 67) dm_X12_keep_64 (g_get (v := .ref 115) (lu (n := 102) (j := 0) hn rfl) rfl rfl (Nat.le_of_ble_eq_true rfl)) rfl rfl rfl ?_
  refine me0 (pc' := 69) (S' := .int (80 : Int32) :: _) dm_X12_keep_67 rfl rfl rfl rfl ?_
  refine me1 (pc' := 70) dm_X12_keep_69 rfl rfl rfl rfl ?_
  refine me0 (pc' := 71) (S' := .int (80 : Int32) :: _) dm_X12_keep_70 rfl rfl rfl rfl ?_
  refine me1 (pc' := 72) dm_X12_keep_71 rfl rfl rfl rfl ?_
  refine me0 (pc' := 73) (S' := .int (95 : Int32) :: _) dm_X12_keep_72 rfl rfl rfl rfl ?_
  refine me1 (pc' := 74) dm_X12_keep_73 rfl rfl rfl rfl ?_
  refine me3 (pc' := 77) dm_X12_keep_74 (g_get (v := .ref 112) (lu (n := 102) (j := 0) hn rfl) rfl rfl (Nat.le_of_ble_eq_true rfl)) rfl rfl rfl ?_
  refine me1 (pc' := 78) dm_X12_keep_77 rfl rfl rfl rfl ?_
  refine me3 (pc' := 79) dm_X12_keep_78 (g_iald (v := (0 : Int32)) (lu (n := 102) (j := 10) hn rfl) rfl (by decide) rfl (Nat.le_of_ble_eq_true rfl)) rfl rfl rfl ?_
  refine me3 (pc' := 80) dm_X12_keep_79 (u_iast (n := 102) (j := 13) hn rfl rfl (by decide) rfl (Nat.le_of_ble_eq_true rfl)) rfl rfl rfl ?_
  refine me1 (pc' := 81) dm_X12_keep_80 rfl rfl rfl rfl ?_
  refine me3 (pc' := 84) dm_X12_keep_81 (g_get (v := .ref 114) (lu (n := 102) (j := 0) hn rfl) rfl rfl (Nat.le_of_ble_eq_true rfl)) rfl rfl rfl ?_
  refine me0 (pc' := 86) (S' := .int (80 : Int32) :: _) dm_X12_keep_84 rfl rfl rfl rfl ?_
  refine me1 (pc' := 87) dm_X12_keep_86 rfl rfl rfl rfl ?_
  refine me0 (pc' := 88) (S' := .int (80 : Int32) :: _) dm_X12_keep_87 rfl rfl rfl rfl ?_
  refine me0 (pc' := 90) (S' := .int (40 : Int32) :: _) dm_X12_keep_88 rfl rfl rfl rfl ?_
  refine me0 (pc' := 91) (S' := .int (120 : Int32) :: _) dm_X12_keep_90 rfl rfl rfl rfl ?_
  refine me1 (pc' := 92) dm_X12_keep_91 rfl rfl rfl rfl ?_
  refine me0 (pc' := 93) (S' := .int (135 : Int32) :: _) dm_X12_keep_92 rfl rfl rfl rfl ?_
  refine me1 (pc' := 94) dm_X12_keep_93 rfl rfl rfl rfl ?_
  refine me3 (pc' := 97) dm_X12_keep_94 (g_get (v := .ref 111) (lu (n := 102) (j := 0) hn rfl) rfl rfl (Nat.le_of_ble_eq_true rfl)) rfl rfl rfl ?_
  refine me1 (pc' := 98) dm_X12_keep_97 rfl rfl rfl rfl ?_
  refine me3 (pc' := 99) dm_X12_keep_98 (g_lald (v := (0 : Int64)) (lu (n := 102) (j := 9) hn rfl) rfl (by decide) rfl (Nat.le_of_ble_eq_true rfl)) rfl rfl rfl ?_
  refine me3 (pc' := 100) dm_X12_keep_99 (u_last (n := 102) (j := 12) hn rfl rfl (by decide) rfl (Nat.le_of_ble_eq_true rfl)) rfl rfl rfl ?_
  refine me1 (pc' := 101) dm_X12_keep_100 rfl rfl rfl rfl ?_
  refine me3 (pc' := 104) dm_X12_keep_101 (g_get (v := .ref 115) (lu (n := 102) (j := 0) hn rfl) rfl rfl (Nat.le_of_ble_eq_true rfl)) rfl rfl rfl ?_
  refine me0 (pc' := 106) (S' := .int (80 : Int32) :: _) dm_X12_keep_104 rfl rfl rfl rfl ?_
  refine me1 (pc' := 107) dm_X12_keep_106 rfl rfl rfl rfl ?_
  refine me0 (pc' := 108) (S' := .int (80 : Int32) :: _) dm_X12_keep_107 rfl rfl rfl rfl ?_
  refine me0 (pc' := 110) (S' := .int (40 : Int32) :: _) dm_X12_keep_108 rfl rfl rfl rfl ?_
  refine me0 (pc' := 111) (S' := .int (120 : Int32) :: _) dm_X12_keep_110 rfl rfl rfl rfl ?_
  refine me1 (pc' := 112) dm_X12_keep_111 rfl rfl rfl rfl ?_
  refine me0 (pc' := 113) (S' := .int (135 : Int32) :: _) dm_X12_keep_112 rfl rfl rfl rfl ?_
  refine me1 (pc' := 114) dm_X12_keep_113 rfl rfl rfl rfl ?_
  refine me3 (pc' := 117) dm_X12_keep_114 (g_get (v := .ref 113) (lu (n := 102) (j := 0) hn rfl) rfl rfl (Nat.le_of_ble_eq_true rfl)) rfl rfl rfl ?_
  refine me1 (pc' := 118) dm_X12_keep_117 rfl rfl rfl rfl ?_
  refine me3 (pc' := 119) dm_X12_keep_118 (g_iald (v := (0 : Int32)) (lu (n := 102) (j := 11) hn rfl) rfl (by decide) rfl (Nat.le_of_ble_eq_true rfl)) rfl rfl rfl ?_
  refine me3 (pc' := 120) dm_X12_keep_119 (u_iast (n := 102) (j := 13) hn rfl rfl (by decide) rfl (Nat.le_of_ble_eq_true rfl)) rfl rfl rfl ?_
  refine me1 (pc' := 123) (L' := [(2, .int (16 : Int32)), (0, .ref 102), (1, .int (1 : Int32))]) dm_X12_keep_120 rfl rfl rfl rfl ?_
  refine me2 (pc' := 40) dm_X12_keep_123 rfl rfl rfl ?_
  refine me1 (pc' := 41) dm_X12_keep_40 rfl rfl rfl rfl ?_
  refine me0 (pc' := 43) (S' := .int (40 : Int32) :: _) dm_X12_keep_41 rfl rfl rfl rfl ?_
  refine me_2f (pc' := 46) dm_X12_keep_43 rfl (by decide) rfl ?_
  refine me1 (pc' := 47) dm_X12_keep_46 rfl rfl rfl rfl ?_
  refine me3 (pc' := 50) dm_X12_keep_47 (g_get (v := .ref 114) (lu (n := 102) (j := 0) hn rfl) rfl rfl (Nat.le_of_ble_eq_true rfl)) rfl rfl rfl ?_
  refine me0 (pc' := 52) (S' := .int (80 : Int32) :: _) dm_X12_keep_50 rfl rfl rfl rfl ?_
  refine me1 (pc' := 53) dm_X12_keep_52 rfl rfl rfl rfl ?_
  refine me0 (pc' := 54) (S' := .int (80 : Int32) :: _) dm_X12_keep_53 rfl rfl rfl rfl ?_
  refine me1 (pc' := 55) dm_X12_keep_54 rfl rfl rfl rfl ?_
  refine me0 (pc' := 56) (S' := .int (96 : Int32) :: _) dm_X12_keep_55 rfl rfl rfl rfl ?_
  refine me1 (pc' := 57) dm_X12_keep_56 rfl rfl rfl rfl ?_
  refine me3 (pc' := 60) dm_X12_keep_57 (g_get (v := .ref 110) (lu (n := 102) (j := 0) hn rfl) rfl rfl (Nat.le_of_ble_eq_true rfl)) rfl rfl rfl ?_
  refine me1 (pc' := 61) dm_X12_keep_60 rfl rfl rfl rfl ?_
  refine me3 (pc' := 62) dm_X12_keep_61 (g_lald (v := (0 : Int64)) (lu (n := 102) (j := 8) hn rfl) rfl (by decide) rfl (Nat.le_of_ble_eq_true rfl)) rfl rfl rfl ?_
  refine me3 (pc' := 63) dm_X12_keep_62 (u_last (n := 102) (j := 12) hn rfl rfl (by decide) rfl (Nat.le_of_ble_eq_true rfl)) rfl rfl rfl ?_
  refine me1 (pc' := 64) dm_X12_keep_63 rfl rfl rfl rfl ?_
  refine me3 (pc' := 67) dm_X12_keep_64 (g_get (v := .ref 115) (lu (n := 102) (j := 0) hn rfl) rfl rfl (Nat.le_of_ble_eq_true rfl)) rfl rfl rfl ?_
  refine me0 (pc' := 69) (S' := .int (80 : Int32) :: _) dm_X12_keep_67 rfl rfl rfl rfl ?_
  refine me1 (pc' := 70) dm_X12_keep_69 rfl rfl rfl rfl ?_
  refine me0 (pc' := 71) (S' := .int (80 : Int32) :: _) dm_X12_keep_70 rfl rfl rfl rfl ?_
  refine me1 (pc' := 72) dm_X12_keep_71 rfl rfl rfl rfl ?_
  refine me0 (pc' := 73) (S' := .int (96 : Int32) :: _) dm_X12_keep_72 rfl rfl rfl rfl ?_
  refine me1 (pc' := 74) dm_X12_keep_73 rfl rfl rfl rfl ?_
  refine me3 (pc' := 77) dm_X12_keep_74 (g_get (v := .ref 112) (lu (n := 102) (j := 0) hn rfl) rfl rfl (Nat.le_of_ble_eq_true rfl)) rfl rfl rfl ?_
  refine me1 (pc' := 78) dm_X12_keep_77 rfl rfl rfl rfl ?_
  refine me3 (pc' := 79) dm_X12_keep_78 (g_iald (v := (0 : Int32)) (lu (n := 102) (j := 10) hn rfl) rfl (by decide) rfl (Nat.le_of_ble_eq_true rfl)) rfl rfl rfl ?_
  refine me3 (pc' := 80) dm_X12_keep_79 (u_iast (n := 102) (j := 13) hn rfl rfl (by decide) rfl (Nat.le_of_ble_eq_true rfl)) rfl rfl rfl ?_
  refine me1 (pc' := 81) dm_X12_keep_80 rfl rfl rfl rfl ?_
  refine me3 (pc' := 84) dm_X12_keep_81 (g_get (v := .ref 114) (lu (n := 102) (j := 0) hn rfl) rfl rfl (Nat.le_of_ble_eq_true rfl)) rfl rfl rfl ?_
  refine me0 (pc' := 86) (S' := .int (80 : Int32) :: _) dm_X12_keep_84 rfl rfl rfl rfl ?_
  refine me1 (pc' := 87) dm_X12_keep_86 rfl rfl rfl rfl ?_
  refine me0 (pc' := 88) (S' := .int (80 : Int32) :: _) dm_X12_keep_87 rfl rfl rfl rfl ?_
  refine me0 (pc' := 90) (S' := .int (40 : Int32) :: _) dm_X12_keep_88 rfl rfl rfl rfl ?_
  refine me0 (pc' := 91) (S' := .int (120 : Int32) :: _) dm_X12_keep_90 rfl rfl rfl rfl ?_
  refine me1 (pc' := 92) dm_X12_keep_91 rfl rfl rfl rfl ?_
  refine me0 (pc' := 93) (S' := .int (136 : Int32) :: _) dm_X12_keep_92 rfl rfl rfl rfl ?_
  refine me1 (pc' := 94) dm_X12_keep_93 rfl rfl rfl rfl ?_
  refine me3 (pc' := 97) dm_X12_keep_94 (g_get (v := .ref 111) (lu (n := 102) (j := 0) hn rfl) rfl rfl (Nat.le_of_ble_eq_true rfl)) rfl rfl rfl ?_
  refine me1 (pc' := 98) dm_X12_keep_97 rfl rfl rfl rfl ?_
  refine me3 (pc' := 99) dm_X12_keep_98 (g_lald (v := (0 : Int64)) (lu (n := 102) (j := 9) hn rfl) rfl (by decide) rfl (Nat.le_of_ble_eq_true rfl)) rfl rfl rfl ?_
  refine me3 (pc' := 100) dm_X12_keep_99 (u_last (n := 102) (j := 12) hn rfl rfl (by decide) rfl (Nat.le_of_ble_eq_true rfl)) rfl rfl rfl ?_
  refine me1 (pc' := 101) dm_X12_keep_100 rfl rfl rfl rfl ?_
  refine me3 (pc' := 104) dm_X12_keep_101 (g_get (v := .ref 115) (lu (n := 102) (j := 0) hn rfl) rfl rfl (Nat.le_of_ble_eq_true rfl)) rfl rfl rfl ?_
  refine me0 (pc' := 106) (S' := .int (80 : Int32) :: _) dm_X12_keep_104 rfl rfl rfl rfl ?_
  refine me1 (pc' := 107) dm_X12_keep_106 rfl rfl rfl rfl ?_
  refine me0 (pc' := 108) (S' := .int (80 : Int32) :: _) dm_X12_keep_107 rfl rfl rfl rfl ?_
  refine me0 (pc' := 110) (S' := .int (40 : Int32) :: _) dm_X12_keep_108 rfl rfl rfl rfl ?_
  refine me0 (pc' := 111) (S' := .int (120 : Int32) :: _) dm_X12_keep_110 rfl rfl rfl rfl ?_
  refine me1 (pc' := 112) dm_X12_keep_111 rfl rfl rfl rfl ?_
  refine me0 (pc' := 113) (S' := .int (136 : Int32) :: _) dm_X12_keep_112 rfl rfl rfl rfl ?_
  refine me1 (pc' := 114) dm_X12_keep_113 rfl rfl rfl rfl ?_
  refine me3 (pc' := 117) dm_X12_keep_114 (g_get (v := .ref 113) (lu (n := 102) (j := 0) hn rfl) rfl rfl (Nat.le_of_ble_eq_true rfl)) rfl rfl rfl ?_
  refine me1 (pc' := 118) dm_X12_keep_117 rfl rfl rfl rfl ?_
  refine me3 (pc' := 119) dm_X12_keep_118 (g_iald (v := (0 : Int32)) (lu (n := 102) (j := 11) hn rfl) rfl (by decide) rfl (Nat.le_of_ble_eq_true rfl)) rfl rfl rfl ?_
  refine me3 (pc' := 120) dm_X12_keep_119 (u_iast (n := 102) (j := 13) hn rfl rfl (by decide) rfl (Nat.le_of_ble_eq_true rfl)) rfl rfl rfl ?_
  refine me1 (pc' := 123) (L' := [(2, .int (17 : Int32)), (0, .ref 102), (1, .int (1 : Int32))]) dm_X12_keep_120 rfl rfl rfl rfl ?_
  refine me2 (pc' := 40) dm_X12_keep_123 rfl rfl rfl ?_
  refine me1 (pc' := 41) dm_X12_keep_40 rfl rfl rfl rfl ?_
  refine me0 (pc' := 43) (S' := .int (40 : Int32) :: _) dm_X12_keep_41 rfl rfl rfl rfl ?_
  refine me_2f (pc' := 46) dm_X12_keep_43 rfl (by decide) rfl ?_
  refine me1 (pc' := 47) dm_X12_keep_46 rfl rfl rfl rfl ?_
  refine me3 (pc' := 50) dm_X12_keep_47 (g_get (v := .ref 114) (lu (n := 102) (j := 0) hn rfl) rfl rfl (Nat.le_of_ble_eq_true rfl)) rfl rfl rfl ?_
  refine me0 (pc' := 52) (S' := .int (80 : Int32) :: _) dm_X12_keep_50 rfl rfl rfl rfl ?_
  refine me1 (pc' := 53) dm_X12_keep_52 rfl rfl rfl rfl ?_
  refine me0 (pc' := 54) (S' := .int (80 : Int32) :: _) dm_X12_keep_53 rfl rfl rfl rfl ?_
  refine me1 (pc' := 55) dm_X12_keep_54 rfl rfl rfl rfl ?_
  refine me0 (pc' := 56) (S' := .int (97 : Int32) :: _) dm_X12_keep_55 rfl rfl rfl rfl ?_
  refine me1 (pc' := 57) dm_X12_keep_56 rfl rfl rfl rfl ?_
  refine me3 (pc' := 60) dm_X12_keep_57 (g_get (v := .ref 110) (lu (n := 102) (j := 0) hn rfl) rfl rfl (Nat.le_of_ble_eq_true rfl)) rfl rfl rfl ?_
  refine me1 (pc' := 61) dm_X12_keep_60 rfl rfl rfl rfl ?_
  refine me3 (pc' := 62) dm_X12_keep_61 (g_lald (v := (0 : Int64)) (lu (n := 102) (j := 8) hn rfl) rfl (by decide) rfl (Nat.le_of_ble_eq_true rfl)) rfl rfl rfl ?_
  refine me3 (pc' := 63) dm_X12_keep_62 (u_last (n := 102) (j := 12) hn rfl rfl (by decide) rfl (Nat.le_of_ble_eq_true rfl)) rfl rfl rfl ?_
  refine me1 (pc' := 64) dm_X12_keep_63 rfl rfl rfl rfl ?_
  refine me3 (pc' := 67) dm_X12_keep_64 (g_get (v := .ref 115) (lu (n := 102) (j := 0) hn rfl) rfl rfl (Nat.le_of_ble_eq_true rfl)) rfl rfl rfl ?_
  refine me0 (pc' := 69) (S' := .int (80 : Int32) :: _) dm_X12_keep_67 rfl rfl rfl rfl ?_
  refine me1 (pc' := 70) dm_X12_keep_69 rfl rfl rfl rfl ?_
  refine me0 (pc' := 71) (S' := .int (80 : Int32) :: _) dm_X12_keep_70 rfl rfl rfl rfl ?_
  refine me1 (pc' := 72) dm_X12_keep_71 rfl rfl rfl rfl ?_
  refine me0 (pc' := 73) (S' := .int (97 : Int32) :: _) dm_X12_keep_72 rfl rfl rfl rfl ?_
  refine me1 (pc' := 74) dm_X12_keep_73 rfl rfl rfl rfl ?_
  refine me3 (pc' := 77) dm_X12_keep_74 (g_get (v := .ref 112) (lu (n := 102) (j := 0) hn rfl) rfl rfl (Nat.le_of_ble_eq_true rfl)) rfl rfl rfl ?_
  refine me1 (pc' := 78) dm_X12_keep_77 rfl rfl rfl rfl ?_
  refine me3 (pc' := 79) dm_X12_keep_78 (g_iald (v := (0 : Int32)) (lu (n := 102) (j := 10) hn rfl) rfl (by decide) rfl (Nat.le_of_ble_eq_true rfl)) rfl rfl rfl ?_
  refine me3 (pc' := 80) dm_X12_keep_79 (u_iast (n := 102) (j := 13) hn rfl rfl (by decide) rfl (Nat.le_of_ble_eq_true rfl)) rfl rfl rfl ?_
  refine me1 (pc' := 81) dm_X12_keep_80 rfl rfl rfl rfl ?_
  refine me3 (pc' := 84) dm_X12_keep_81 (g_get (v := .ref 114) (lu (n := 102) (j := 0) hn rfl) rfl rfl (Nat.le_of_ble_eq_true rfl)) rfl rfl rfl ?_
  refine me0 (pc' := 86) (S' := .int (80 : Int32) :: _) dm_X12_keep_84 rfl rfl rfl rfl ?_
  refine me1 (pc' := 87) dm_X12_keep_86 rfl rfl rfl rfl ?_
  refine me0 (pc' := 88) (S' := .int (80 : Int32) :: _) dm_X12_keep_87 rfl rfl rfl rfl ?_
  refine me0 (pc' := 90) (S' := .int (40 : Int32) :: _) dm_X12_keep_88 rfl rfl rfl rfl ?_
  refine me0 (pc' := 91) (S' := .int (120 : Int32) :: _) dm_X12_keep_90 rfl rfl rfl rfl ?_
  refine me1 (pc' := 92) dm_X12_keep_91 rfl rfl rfl rfl ?_
  refine me0 (pc' := 93) (S' := .int (137 : Int32) :: _) dm_X12_keep_92 rfl rfl rfl rfl ?_
  refine me1 (pc' := 94) dm_X12_keep_93 rfl rfl rfl rfl ?_
  refine me3 (pc' := 97) dm_X12_keep_94 (g_get (v := .ref 111) (lu (n := 102) (j := 0) hn rfl) rfl rfl (Nat.le_of_ble_eq_true rfl)) rfl rfl rfl ?_
  refine me1 (pc' := 98) dm_X12_keep_97 rfl rfl rfl rfl ?_
  refine me3 (pc' := 99) dm_X12_keep_98 (g_lald (v := (0 : Int64)) (lu (n := 102) (j := 9) hn rfl) rfl (by decide) rfl (Nat.le_of_ble_eq_true rfl)) rfl rfl rfl ?_
  refine me3 (pc' := 100) dm_X12_keep_99 (u_last (n := 102) (j := 12) hn rfl rfl (by decide) rfl (Nat.le_of_ble_eq_true rfl)) rfl rfl rfl ?_
  refine me1 (pc' := 101) dm_X12_keep_100 rfl rfl rfl rfl ?_
  refine me3 (pc' := 104) dm_X12_keep_101 (g_get (v := .ref 115) (lu (n := 102) (j := 0) hn rfl) rfl rfl (Nat.le_of_ble_eq_true rfl)) rfl rfl rfl ?_
  refine me0 (pc' := 106) (S' := .int (80 : Int32) :: _) dm_X12_keep_104 rfl rfl rfl rfl ?_
  refine me1 (pc' := 107) dm_X12_keep_106 rfl rfl rfl rfl ?_
  refine me0 (pc' := 108) (S' := .int (80 : Int32) :: _) dm_X12_keep_107 rfl rfl rfl rfl ?_
  refine me0 (pc' := 110) (S' := .int (40 : Int32) :: _) dm_X12_keep_108 rfl rfl rfl rfl ?_
  refine me0 (pc' := 111) (S' := .int (120 : Int32) :: _) dm_X12_keep_110 rfl rfl rfl rfl ?_
  refine me1 (pc' := 112) dm_X12_keep_111 rfl rfl rfl rfl ?_
  refine me0 (pc' := 113) (S' := .int (137 : Int32) :: _) dm_X12_keep_112 rfl rfl rfl rfl ?_
  refine me1 (pc' := 114) dm_X12_keep_113 rfl rfl rfl rfl ?_
  refine me3 (pc' := 117) dm_X12_keep_114 (g_get (v := .ref 113) (lu (n := 102) (j := 0) hn rfl) rfl rfl (Nat.le_of_ble_eq_true rfl)) rfl rfl rfl ?_
  refine me1 (pc' := 118) dm_X12_keep_117 rfl rfl rfl rfl ?_
  refine me3 (pc' := 119) dm_X12_keep_118 (g_iald (v := (0 : Int32)) (lu (n := 102) (j := 11) hn rfl) rfl (by decide) rfl (Nat.le_of_ble_eq_true rfl)) rfl rfl rfl ?_
  refine me3 (pc' := 120) dm_X12_keep_119 (u_iast (n := 102) (j := 13) hn rfl rfl (by decide) rfl (Nat.le_of_ble_eq_true rfl)) rfl rfl rfl ?_
  refine me1 (pc' := 123) (L' := [(2, .int (18 : Int32)), (0, .ref 102), (1, .int (1 : Int32))]) dm_X12_keep_120 rfl rfl rfl rfl ?_
  refine me2 (pc' := 40) dm_X12_keep_123 rfl rfl rfl ?_
  refine me1 (pc' := 41) dm_X12_keep_40 rfl rfl rfl rfl ?_
  refine me0 (pc' := 43) (S' := .int (40 : Int32) :: _) dm_X12_keep_41 rfl rfl rfl rfl ?_
  refine me_2f (pc' := 46) dm_X12_keep_43 rfl (by decide) rfl ?_
  refine me1 (pc' := 47) dm_X12_keep_46 rfl rfl rfl rfl ?_
  refine me3 (pc' := 50) dm_X12_keep_47 (g_get (v := .ref 114) (lu (n := 102) (j := 0) hn rfl) rfl rfl (Nat.le_of_ble_eq_true rfl)) rfl rfl rfl ?_
  refine me0 (pc' := 52) (S' := .int (80 : Int32) :: _) dm_X12_keep_50 rfl rfl rfl rfl ?_
  refine me1 (pc' := 53) dm_X12_keep_52 rfl rfl rfl rfl ?_
  refine me0 (pc' := 54) (S' := .int (80 : Int32) :: _) dm_X12_keep_53 rfl rfl rfl rfl ?_
  refine me1 (pc' := 55) dm_X12_keep_54 rfl rfl rfl rfl ?_
  refine me0 (pc' := 56) (S' := .int (98 : Int32) :: _) dm_X12_keep_55 rfl rfl rfl rfl ?_
  refine me1 (pc' := 57) dm_X12_keep_56 rfl rfl rfl rfl ?_
  refine me3 (pc' := 60) dm_X12_keep_57 (g_get (v := .ref 110) (lu (n := 102) (j := 0) hn rfl) rfl rfl (Nat.le_of_ble_eq_true rfl)) rfl rfl rfl ?_
  refine me1 (pc' := 61) dm_X12_keep_60 rfl rfl rfl rfl ?_
  refine me3 (pc' := 62) dm_X12_keep_61 (g_lald (v := (0 : Int64)) (lu (n := 102) (j := 8) hn rfl) rfl (by decide) rfl (Nat.le_of_ble_eq_true rfl)) rfl rfl rfl ?_
  refine me3 (pc' := 63) dm_X12_keep_62 (u_last (n := 102) (j := 12) hn rfl rfl (by decide) rfl (Nat.le_of_ble_eq_true rfl)) rfl rfl rfl ?_
  refine me1 (pc' := 64) dm_X12_keep_63 rfl rfl rfl rfl ?_
  refine me3 (pc' := 67) dm_X12_keep_64 (g_get (v := .ref 115) (lu (n := 102) (j := 0) hn rfl) rfl rfl (Nat.le_of_ble_eq_true rfl)) rfl rfl rfl ?_
  refine me0 (pc' := 69) (S' := .int (80 : Int32) :: _) dm_X12_keep_67 rfl rfl rfl rfl ?_
  refine me1 (pc' := 70) dm_X12_keep_69 rfl rfl rfl rfl ?_
  refine me0 (pc' := 71) (S' := .int (80 : Int32) :: _) dm_X12_keep_70 rfl rfl rfl rfl ?_
  refine me1 (pc' := 72) dm_X12_keep_71 rfl rfl rfl rfl ?_
  refine me0 (pc' := 73) (S' := .int (98 : Int32) :: _) dm_X12_keep_72 rfl rfl rfl rfl ?_
  refine me1 (pc' := 74) dm_X12_keep_73 rfl rfl rfl rfl ?_
  refine me3 (pc' := 77) dm_X12_keep_74 (g_get (v := .ref 112) (lu (n := 102) (j := 0) hn rfl) rfl rfl (Nat.le_of_ble_eq_true rfl)) rfl rfl rfl ?_
  refine me1 (pc' := 78) dm_X12_keep_77 rfl rfl rfl rfl ?_
  refine me3 (pc' := 79) dm_X12_keep_78 (g_iald (v := (0 : Int32)) (lu (n := 102) (j := 10) hn rfl) rfl (by decide) rfl (Nat.le_of_ble_eq_true rfl)) rfl rfl rfl ?_
  refine me3 (pc' := 80) dm_X12_keep_79 (u_iast (n := 102) (j := 13) hn rfl rfl (by decide) rfl (Nat.le_of_ble_eq_true rfl)) rfl rfl rfl ?_
  refine me1 (pc' := 81) dm_X12_keep_80 rfl rfl rfl rfl ?_
  refine me3 (pc' := 84) dm_X12_keep_81 (g_get (v := .ref 114) (lu (n := 102) (j := 0) hn rfl) rfl rfl (Nat.le_of_ble_eq_true rfl)) rfl rfl rfl ?_
  refine me0 (pc' := 86) (S' := .int (80 : Int32) :: _) dm_X12_keep_84 rfl rfl rfl rfl ?_
  refine me1 (pc' := 87) dm_X12_keep_86 rfl rfl rfl rfl ?_
  refine me0 (pc' := 88) (S' := .int (80 : Int32) :: _) dm_X12_keep_87 rfl rfl rfl rfl ?_
  refine me0 (pc' := 90) (S' := .int (40 : Int32) :: _) dm_X12_keep_88 rfl rfl rfl rfl ?_
  refine me0 (pc' := 91) (S' := .int (120 : Int32) :: _) dm_X12_keep_90 rfl rfl rfl rfl ?_
  refine me1 (pc' := 92) dm_X12_keep_91 rfl rfl rfl rfl ?_
  refine me0 (pc' := 93) (S' := .int (138 : Int32) :: _) dm_X12_keep_92 rfl rfl rfl rfl ?_
  refine me1 (pc' := 94) dm_X12_keep_93 rfl rfl rfl rfl ?_
  refine me3 (pc' := 97) dm_X12_keep_94 (g_get (v := .ref 111) (lu (n := 102) (j := 0) hn rfl) rfl rfl (Nat.le_of_ble_eq_true rfl)) rfl rfl rfl ?_
  refine me1 (pc' := 98) dm_X12_keep_97 rfl rfl rfl rfl ?_
  refine me3 (pc' := 99) dm_X12_keep_98 (g_lald (v := (0 : Int64)) (lu (n := 102) (j := 9) hn rfl) rfl (by decide) rfl (Nat.le_of_ble_eq_true rfl)) rfl rfl rfl ?_
  refine me3 (pc' := 100) dm_X12_keep_99 (u_last (n := 102) (j := 12) hn rfl rfl (by decide) rfl (Nat.le_of_ble_eq_true rfl)) rfl rfl rfl ?_
  refine me1 (pc' := 101) dm_X12_keep_100 rfl rfl rfl rfl ?_
  refine me3 (pc' := 104) dm_X12_keep_101 (g_get (v := .ref 115) (lu (n := 102) (j := 0) hn rfl) rfl rfl (Nat.le_of_ble_eq_true rfl)) rfl rfl rfl ?_
  refine me0 (pc' := 106) (S' := .int (80 : Int32) :: _) dm_X12_keep_104 rfl rfl rfl rfl ?_
  refine me1 (pc' := 107) dm_X12_keep_106 rfl rfl rfl rfl ?_
  refine me0 (pc' := 108) (S' := .int (80 : Int32) :: _) dm_X12_keep_107 rfl rfl rfl rfl ?_
  refine me0 (pc' := 110) (S' := .int (40 : Int32) :: _) dm_X12_keep_108 rfl rfl rfl rfl ?_
  refine me0 (pc' := 111) (S' := .int (120 : Int32) :: _) dm_X12_keep_110 rfl rfl rfl rfl ?_
  refine me1 (pc' := 112) dm_X12_keep_111 rfl rfl rfl rfl ?_
  refine me0 (pc' := 113) (S' := .int (138 : Int32) :: _) dm_X12_keep_112 rfl rfl rfl rfl ?_
  refine me1 (pc' := 114) dm_X12_keep_113 rfl rfl rfl rfl ?_
  refine me3 (pc' := 117) dm_X12_keep_114 (g_get (v := .ref 113) (lu (n := 102) (j := 0) hn rfl) rfl rfl (Nat.le_of_ble_eq_true rfl)) rfl rfl rfl ?_
  refine me1 (pc' := 118) dm_X12_keep_117 rfl rfl rfl rfl ?_
  refine me3 (pc' := 119) dm_X12_keep_118 (g_iald (v := (0 : Int32)) (lu (n := 102) (j := 11) hn rfl) rfl (by decide) rfl (Nat.le_of_ble_eq_true rfl)) rfl rfl rfl ?_
  refine me3 (pc' := 120) dm_X12_keep_119 (u_iast (n := 102) (j := 13) hn rfl rfl (by decide) rfl (Nat.le_of_ble_eq_true rfl)) rfl rfl rfl ?_
  refine me1 (pc' := 123) (L' := [(2, .int (19 : Int32)), (0, .ref 102), (1, .int (1 : Int32))]) dm_X12_keep_120 rfl rfl rfl rfl ?_
  refine me2 (pc' := 40) dm_X12_keep_123 rfl rfl rfl ?_
  refine me1 (pc' := 41) dm_X12_keep_40 rfl rfl rfl rfl ?_
  refine me0 (pc' := 43) (S' := .int (40 : Int32) :: _) dm_X12_keep_41 rfl rfl rfl rfl ?_
  refine me_2f (pc' := 46) dm_X12_keep_43 rfl (by decide) rfl ?_
  refine me1 (pc' := 47) dm_X12_keep_46 rfl rfl rfl rfl ?_
  refine me3 (pc' := 50) dm_X12_keep_47 (g_get (v := .ref 114) (lu (n := 102) (j := 0) hn rfl) rfl rfl (Nat.le_of_ble_eq_true rfl)) rfl rfl rfl ?_
  refine me0 (pc' := 52) (S' := .int (80 : Int32) :: _) dm_X12_keep_50 rfl rfl rfl rfl ?_
  refine me1 (pc' := 53) dm_X12_keep_52 rfl rfl rfl rfl ?_
  refine me0 (pc' := 54) (S' := .int (80 : Int32) :: _) dm_X12_keep_53 rfl rfl rfl rfl ?_
  refine me1 (pc' := 55) dm_X12_keep_54 rfl rfl rfl rfl ?_
  refine me0 (pc' := 56) (S' := .int (99 : Int32) :: _) dm_X12_keep_55 rfl rfl rfl rfl ?_
  refine me1 (pc' := 57) dm_X12_keep_56 rfl rfl rfl rfl ?_
  refine me3 (pc' := 60) dm_X12_keep_57 (g_get (v := .ref 110) (lu (n := 102) (j := 0) hn rfl) rfl rfl (Nat.le_of_ble_eq_true rfl)) rfl rfl rfl ?_
  refine me1 (pc' := 61) dm_X12_keep_60 rfl rfl rfl rfl ?_
  refine me3 (pc' := 62) dm_X12_keep_61 (g_lald (v := (0 : Int64)) (lu (n := 102) (j := 8) hn rfl) rfl (by decide) rfl (Nat.le_of_ble_eq_true rfl)) rfl rfl rfl ?_
  refine me3 (pc' := 63) dm_X12_keep_62 (u_last (n := 102) (j := 12) hn rfl rfl (by decide) rfl (Nat.le_of_ble_eq_true rfl)) rfl rfl rfl ?_
  refine me1 (pc' := 64) dm_X12_keep_63 rfl rfl rfl rfl ?_
  refine me3 (pc' := 67) dm_X12_keep_64 (g_get (v := .ref 115) (lu (n := 102) (j := 0) hn rfl) rfl rfl (Nat.le_of_ble_eq_true rfl)) rfl rfl rfl ?_
  refine me0 (pc' := 69) (S' := .int (80 : Int32) :: _) dm_X12_keep_67 rfl rfl rfl rfl ?_
  refine me1 (pc' := 70) dm_X12_keep_69 rfl rfl rfl rfl ?_
  refine me0 (pc' := 71) (S' := .int (80 : Int32) :: _) dm_X12_keep_70 rfl rfl rfl rfl ?_
  refine me1 (pc' := 72) dm_X12_keep_71 rfl rfl rfl rfl ?_
  refine me0 (pc' := 73) (S' := .int (99 : Int32) :: _) dm_X12_keep_72 rfl rfl rfl rfl ?_
  refine me1 (pc' := 74) dm_X12_keep_73 rfl rfl rfl rfl ?_
  refine me3 (pc' := 77) dm_X12_keep_74 (g_get (v := .ref 112) (lu (n := 102) (j := 0) hn rfl) rfl rfl (Nat.le_of_ble_eq_true rfl)) rfl rfl rfl ?_
  refine me1 (pc' := 78) dm_X12_keep_77 rfl rfl rfl rfl ?_
  refine me3 (pc' := 79) dm_X12_keep_78 (g_iald (v := (0 : Int32)) (lu (n := 102) (j := 10) hn rfl) rfl (by decide) rfl (Nat.le_of_ble_eq_true rfl)) rfl rfl rfl ?_
  refine me3 (pc' := 80) dm_X12_keep_79 (u_iast (n := 102) (j := 13) hn rfl rfl (by decide) rfl (Nat.le_of_ble_eq_true rfl)) rfl rfl rfl ?_
  refine me1 (pc' := 81) dm_X12_keep_80 rfl rfl rfl rfl ?_
  refine me3 (pc' := 84) dm_X12_keep_81 (g_get (v := .ref 114) (lu (n := 102) (j := 0) hn rfl) rfl rfl (Nat.le_of_ble_eq_true rfl)) rfl rfl rfl ?_
  refine me0 (pc' := 86) (S' := .int (80 : Int32) :: _) dm_X12_keep_84 rfl rfl rfl rfl ?_
  refine me1 (pc' := 87) dm_X12_keep_86 rfl rfl rfl rfl ?_
  refine me0 (pc' := 88) (S' := .int (80 : Int32) :: _) dm_X12_keep_87 rfl rfl rfl rfl ?_
  refine me0 (pc' := 90) (S' := .int (40 : Int32) :: _) dm_X12_keep_88 rfl rfl rfl rfl ?_
  refine me0 (pc' := 91) (S' := .int (120 : Int32) :: _) dm_X12_keep_90 rfl rfl rfl rfl ?_
  refine me1 (pc' := 92) dm_X12_keep_91 rfl rfl rfl rfl ?_
  refine me0 (pc' := 93) (S' := .int (139 : Int32) :: _) dm_X12_keep_92 rfl rfl rfl rfl ?_
  refine me1 (pc' := 94) dm_X12_keep_93 rfl rfl rfl rfl ?_
  refine me3 (pc' := 97) dm_X12_keep_94 (g_get (v := .ref 111) (lu (n := 102) (j := 0) hn rfl) rfl rfl (Nat.le_of_ble_eq_true rfl)) rfl rfl rfl ?_
  refine me1 (pc' := 98) dm_X12_keep_97 rfl rfl rfl rfl ?_
  refine me3 (pc' := 99) dm_X12_keep_98 (g_lald (v := (0 : Int64)) (lu (n := 102) (j := 9) hn rfl) rfl (by decide) rfl (Nat.le_of_ble_eq_true rfl)) rfl rfl rfl ?_
  refine me3 (pc' := 100) dm_X12_keep_99 (u_last (n := 102) (j := 12) hn rfl rfl (by decide) rfl (Nat.le_of_ble_eq_true rfl)) rfl rfl rfl ?_
  refine me1 (pc' := 101) dm_X12_keep_100 rfl rfl rfl rfl ?_
  refine me3 (pc' := 104) dm_X12_keep_101 (g_get (v := .ref 115) (lu (n := 102) (j := 0) hn rfl) rfl rfl (Nat.le_of_ble_eq_true rfl)) rfl rfl rfl ?_
  refine me0 (pc' := 106) (S' := .int (80 : Int32) :: _) dm_X12_keep_104 rfl rfl rfl rfl ?_
  refine me1 (pc' := 107) dm_X12_keep_106 rfl rfl rfl rfl ?_
  refine me0 (pc' := 108) (S' := .int (80 : Int32) :: _) dm_X12_keep_107 rfl rfl rfl rfl ?_
  refine me0 (pc' := 110) (S' := .int (40 : Int32) :: _) dm_X12_keep_108 rfl rfl rfl rfl ?_
  refine me0 (pc' := 111) (S' := .int (120 : Int32) :: _) dm_X12_keep_110 rfl rfl rfl rfl ?_
  refine me1 (pc' := 112) dm_X12_keep_111 rfl rfl rfl rfl ?_
  refine me0 (pc' := 113) (S' := .int (139 : Int32) :: _) dm_X12_keep_112 rfl rfl rfl rfl ?_
  refine me1 (pc' := 114) dm_X12_keep_113 rfl rfl rfl rfl ?_
  refine me3 (pc' := 117) dm_X12_keep_114 (g_get (v := .ref 113) (lu (n := 102) (j := 0) hn rfl) rfl rfl (Nat.le_of_ble_eq_true rfl)) rfl rfl rfl ?_
  refine me1 (pc' := 118) dm_X12_keep_117 rfl rfl rfl rfl ?_
  refine me3 (pc' := 119) dm_X12_keep_118 (g_iald (v := (0 : Int32)) (lu (n := 102) (j := 11) hn rfl) rfl (by decide) rfl (Nat.le_of_ble_eq_true rfl)) rfl rfl rfl ?_
  refine me3 (pc' := 120) dm_X12_keep_119 (u_iast (n := 102) (j := 13) hn rfl rfl (by decide) rfl (Nat.le_of_ble_eq_true rfl)) rfl rfl rfl ?_
  refine me1 (pc' := 123) (L' := [(2, .int (20 : Int32)), (0, .ref 102), (1, .int (1 : Int32))]) dm_X12_keep_120 rfl rfl rfl rfl ?_
  refine me2 (pc' := 40) dm_X12_keep_123 rfl rfl rfl ?_
  refine me1 (pc' := 41) dm_X12_keep_40 rfl rfl rfl rfl ?_
  refine me0 (pc' := 43) (S' := .int (40 : Int32) :: _) dm_X12_keep_41 rfl rfl rfl rfl ?_
  refine me_2f (pc' := 46) dm_X12_keep_43 rfl (by decide) rfl ?_
  refine me1 (pc' := 47) dm_X12_keep_46 rfl rfl rfl rfl ?_
  refine me3 (pc' := 50) dm_X12_keep_47 (g_get (v := .ref 114) (lu (n := 102) (j := 0) hn rfl) rfl rfl (Nat.le_of_ble_eq_true rfl)) rfl rfl rfl ?_
  refine me0 (pc' := 52) (S' := .int (80 : Int32) :: _) dm_X12_keep_50 rfl rfl rfl rfl ?_
  refine me1 (pc' := 53) dm_X12_keep_52 rfl rfl rfl rfl ?_
  refine me0 (pc' := 54) (S' := .int (80 : Int32) :: _) dm_X12_keep_53 rfl rfl rfl rfl ?_
  refine me1 (pc' := 55) dm_X12_keep_54 rfl rfl rfl rfl ?_
  refine me0 (pc' := 56) (S' := .int (100 : Int32) :: _) dm_X12_keep_55 rfl rfl rfl rfl ?_
  refine me1 (pc' := 57) dm_X12_keep_56 rfl rfl rfl rfl ?_
  refine me3 (pc' := 60) dm_X12_keep_57 (g_get (v := .ref 110) (lu (n := 102) (j := 0) hn rfl) rfl rfl (Nat.le_of_ble_eq_true rfl)) rfl rfl rfl ?_
  refine me1 (pc' := 61) dm_X12_keep_60 rfl rfl rfl rfl ?_
  refine me3 (pc' := 62) dm_X12_keep_61 (g_lald (v := (0 : Int64)) (lu (n := 102) (j := 8) hn rfl) rfl (by decide) rfl (Nat.le_of_ble_eq_true rfl)) rfl rfl rfl ?_
  refine me3 (pc' := 63) dm_X12_keep_62 (u_last (n := 102) (j := 12) hn rfl rfl (by decide) rfl (Nat.le_of_ble_eq_true rfl)) rfl rfl rfl ?_
  refine me1 (pc' := 64) dm_X12_keep_63 rfl rfl rfl rfl ?_
  refine me3 (pc' := 67) dm_X12_keep_64 (g_get (v := .ref 115) (lu (n := 102) (j := 0) hn rfl) rfl rfl (Nat.le_of_ble_eq_true rfl)) rfl rfl rfl ?_
  refine me0 (pc' := 69) (S' := .int (80 : Int32) :: _) dm_X12_keep_67 rfl rfl rfl rfl ?_
  refine me1 (pc' := 70) dm_X12_keep_69 rfl rfl rfl rfl ?_
  refine me0 (pc' := 71) (S' := .int (80 : Int32) :: _) dm_X12_keep_70 rfl rfl rfl rfl ?_
  refine me1 (pc' := 72) dm_X12_keep_71 rfl rfl rfl rfl ?_
  refine me0 (pc' := 73) (S' := .int (100 : Int32) :: _) dm_X12_keep_72 rfl rfl rfl rfl ?_
  refine me1 (pc' := 74) dm_X12_keep_73 rfl rfl rfl rfl ?_
  refine me3 (pc' := 77) dm_X12_keep_74 (g_get (v := .ref 112) (lu (n := 102) (j := 0) hn rfl) rfl rfl (Nat.le_of_ble_eq_true rfl)) rfl rfl rfl ?_
  refine me1 (pc' := 78) dm_X12_keep_77 rfl rfl rfl rfl ?_
  refine me3 (pc' := 79) dm_X12_keep_78 (g_iald (v := (0 : Int32)) (lu (n := 102) (j := 10) hn rfl) rfl (by decide) rfl (Nat.le_of_ble_eq_true rfl)) rfl rfl rfl ?_
  refine me3 (pc' := 80) dm_X12_keep_79 (u_iast (n := 102) (j := 13) hn rfl rfl (by decide) rfl (Nat.le_of_ble_eq_true rfl)) rfl rfl rfl ?_
  refine me1 (pc' := 81) dm_X12_keep_80 rfl rfl rfl rfl ?_
  refine me3 (pc' := 84) dm_X12_keep_81 (g_get (v := .ref 114) (lu (n := 102) (j := 0) hn rfl) rfl rfl (Nat.le_of_ble_eq_true rfl)) rfl rfl rfl ?_
  refine me0 (pc' := 86) (S' := .int (80 : Int32) :: _) dm_X12_keep_84 rfl rfl rfl rfl ?_
  refine me1 (pc' := 87) dm_X12_keep_86 rfl rfl rfl rfl ?_
  refine me0 (pc' := 88) (S' := .int (80 : Int32) :: _) dm_X12_keep_87 rfl rfl rfl rfl ?_
  refine me0 (pc' := 90) (S' := .int (40 : Int32) :: _) dm_X12_keep_88 rfl rfl rfl rfl ?_
  refine me0 (pc' := 91) (S' := .int (120 : Int32) :: _) dm_X12_keep_90 rfl rfl rfl rfl ?_
  refine me1 (pc' := 92) dm_X12_keep_91 rfl rfl rfl rfl ?_
  refine me0 (pc' := 93) (S' := .int (140 : Int32) :: _) dm_X12_keep_92 rfl rfl rfl rfl ?_
  refine me1 (pc' := 94) dm_X12_keep_93 rfl rfl rfl rfl ?_
  refine me3 (pc' := 97) dm_X12_keep_94 (g_get (v := .ref 111) (lu (n := 102) (j := 0) hn rfl) rfl rfl (Nat.le_of_ble_eq_true rfl)) rfl rfl rfl ?_
  refine me1 (pc' := 98) dm_X12_keep_97 rfl rfl rfl rfl ?_
  refine me3 (pc' := 99) dm_X12_keep_98 (g_lald (v := (0 : Int64)) (lu (n := 102) (j := 9) hn rfl) rfl (by decide) rfl (Nat.le_of_ble_eq_true rfl)) rfl rfl rfl ?_
  refine me3 (pc' := 100) dm_X12_keep_99 (u_last (n := 102) (j := 12) hn rfl rfl (by decide) rfl (Nat.le_of_ble_eq_true rfl)) rfl rfl rfl ?_
  refine me1 (pc' := 101) dm_X12_keep_100 rfl rfl rfl rfl ?_
  refine me3 (pc' := 104) dm_X12_keep_101 (g_get (v := .ref 115) (lu (n := 102) (j := 0) hn rfl) rfl rfl (Nat.le_of_ble_eq_true rfl)) rfl rfl rfl ?_
  refine me0 (pc' := 106) (S' := .int (80 : Int32) :: _) dm_X12_keep_104 rfl rfl rfl rfl ?_
  refine me1 (pc' := 107) dm_X12_keep_106 rfl rfl rfl rfl ?_
  refine me0 (pc' := 108) (S' := .int (80 : Int32) :: _) dm_X12_keep_107 rfl rfl rfl rfl ?_
  refine me0 (pc' := 110) (S' := .int (40 : Int32) :: _) dm_X12_keep_108 rfl rfl rfl rfl ?_
  refine me0 (pc' := 111) (S' := .int (120 : Int32) :: _) dm_X12_keep_110 rfl rfl rfl rfl ?_
  refine me1 (pc' := 112) dm_X12_keep_111 rfl rfl rfl rfl ?_
  refine me0 (pc' := 113) (S' := .int (140 : Int32) :: _) dm_X12_keep_112 rfl rfl rfl rfl ?_
  refine me1 (pc' := 114) dm_X12_keep_113 rfl rfl rfl rfl ?_
  refine me3 (pc' := 117) dm_X12_keep_114 (g_get (v := .ref 113) (lu (n := 102) (j := 0) hn rfl) rfl rfl (Nat.le_of_ble_eq_true rfl)) rfl rfl rfl ?_
  refine me1 (pc' := 118) dm_X12_keep_117 rfl rfl rfl rfl ?_
  refine me3 (pc' := 119) dm_X12_keep_118 (g_iald (v := (0 : Int32)) (lu (n := 102) (j := 11) hn rfl) rfl (by decide) rfl (Nat.le_of_ble_eq_true rfl)) rfl rfl rfl ?_
  refine me3 (pc' := 120) dm_X12_keep_119 (u_iast (n := 102) (j := 13) hn rfl rfl (by decide) rfl (Nat.le_of_ble_eq_true rfl)) rfl rfl rfl ?_
  refine me1 (pc' := 123) (L' := [(2, .int (21 : Int32)), (0, .ref 102), (1, .int (1 : Int32))]) dm_X12_keep_120 rfl rfl rfl rfl ?_
  refine me2 (pc' := 40) dm_X12_keep_123 rfl rfl rfl ?_
  refine me1 (pc' := 41) dm_X12_keep_40 rfl rfl rfl rfl ?_
  refine me0 (pc' := 43) (S' := .int (40 : Int32) :: _) dm_X12_keep_41 rfl rfl rfl rfl ?_
  refine me_2f (pc' := 46) dm_X12_keep_43 rfl (by decide) rfl ?_
  refine me1 (pc' := 47) dm_X12_keep_46 rfl rfl rfl rfl ?_
  refine me3 (pc' := 50) dm_X12_keep_47 (g_get (v := .ref 114) (lu (n := 102) (j := 0) hn rfl) rfl rfl (Nat.le_of_ble_eq_true rfl)) rfl rfl rfl ?_
  refine me0 (pc' := 52) (S' := .int (80 : Int32) :: _) dm_X12_keep_50 rfl rfl rfl rfl ?_
  refine me1 (pc' := 53) dm_X12_keep_52 rfl rfl rfl rfl ?_
  refine me0 (pc' := 54) (S' := .int (80 : Int32) :: _) dm_X12_keep_53 rfl rfl rfl rfl ?_
  refine me1 (pc' := 55) dm_X12_keep_54 rfl rfl rfl rfl ?_
  refine me0 (pc' := 56) (S' := .int (101 : Int32) :: _) dm_X12_keep_55 rfl rfl rfl rfl ?_
  refine me1 (pc' := 57) dm_X12_keep_56 rfl rfl rfl rfl ?_
  refine me3 (pc' := 60) dm_X12_keep_57 (g_get (v := .ref 110) (lu (n := 102) (j := 0) hn rfl) rfl rfl (Nat.le_of_ble_eq_true rfl)) rfl rfl rfl ?_
  refine me1 (pc' := 61) dm_X12_keep_60 rfl rfl rfl rfl ?_
  refine me3 (pc' := 62) dm_X12_keep_61 (g_lald (v := (0 : Int64)) (lu (n := 102) (j := 8) hn rfl) rfl (by decide) rfl (Nat.le_of_ble_eq_true rfl)) rfl rfl rfl ?_
  refine me3 (pc' := 63) dm_X12_keep_62 (u_last (n := 102) (j := 12) hn rfl rfl (by decide) rfl (Nat.le_of_ble_eq_true rfl)) rfl rfl rfl ?_
  refine me1 (pc' := 64) dm_X12_keep_63 rfl rfl rfl rfl ?_
  refine me3 (pc' := 67) dm_X12_keep_64 (g_get (v := .ref 115) (lu (n := 102) (j := 0) hn rfl) rfl rfl (Nat.le_of_ble_eq_true rfl)) rfl rfl rfl ?_
  refine me0 (pc' := 69) (S' := .int (80 : Int32) :: _) dm_X12_keep_67 rfl rfl rfl rfl ?_
  refine me1 (pc' := 70) dm_X12_keep_69 rfl rfl rfl rfl ?_
  refine me0 (pc' := 71) (S' := .int (80 : Int32) :: _) dm_X12_keep_70 rfl rfl rfl rfl ?_
  refine me1 (pc' := 72) dm_X12_keep_71 rfl rfl rfl rfl ?_
  refine me0 (pc' := 73) (S' := .int (101 : Int32) :: _) dm_X12_keep_72 rfl rfl rfl rfl ?_
  refine me1 (pc' := 74) dm_X12_keep_73 rfl rfl rfl rfl ?_
  refine me3 (pc' := 77) dm_X12_keep_74 (g_get (v := .ref 112) (lu (n := 102) (j := 0) hn rfl) rfl rfl (Nat.le_of_ble_eq_true rfl)) rfl rfl rfl ?_
  refine me1 (pc' := 78) dm_X12_keep_77 rfl rfl rfl rfl ?_
  refine me3 (pc' := 79) dm_X12_keep_78 (g_iald (v := (0 : Int32)) (lu (n := 102) (j := 10) hn rfl) rfl (by decide) rfl (Nat.le_of_ble_eq_true rfl)) rfl rfl rfl ?_
  refine me3 (pc' := 80) dm_X12_keep_79 (u_iast (n := 102) (j := 13) hn rfl rfl (by decide) rfl (Nat.le_of_ble_eq_true rfl)) rfl rfl rfl ?_
  refine me1 (pc' := 81) dm_X12_keep_80 rfl rfl rfl rfl ?_
  refine me3 (pc' := 84) dm_X12_keep_81 (g_get (v := .ref 114) (lu (n := 102) (j := 0) hn rfl) rfl rfl (Nat.le_of_ble_eq_true rfl)) rfl rfl rfl ?_
  refine me0 (pc' := 86) (S' := .int (80 : Int32) :: _) dm_X12_keep_84 rfl rfl rfl rfl ?_
  refine me1 (pc' := 87) dm_X12_keep_86 rfl rfl rfl rfl ?_
  refine me0 (pc' := 88) (S' := .int (80 : Int32) :: _) dm_X12_keep_87 rfl rfl rfl rfl ?_
  refine me0 (pc' := 90) (S' := .int (40 : Int32) :: _) dm_X12_keep_88 rfl rfl rfl rfl ?_
  refine me0 (pc' := 91) (S' := .int (120 : Int32) :: _) dm_X12_keep_90 rfl rfl rfl rfl ?_
  refine me1 (pc' := 92) dm_X12_keep_91 rfl rfl rfl rfl ?_
  refine me0 (pc' := 93) (S' := .int (141 : Int32) :: _) dm_X12_keep_92 rfl rfl rfl rfl ?_
  refine me1 (pc' := 94) dm_X12_keep_93 rfl rfl rfl rfl ?_
  refine me3 (pc' := 97) dm_X12_keep_94 (g_get (v := .ref 111) (lu (n := 102) (j := 0) hn rfl) rfl rfl (Nat.le_of_ble_eq_true rfl)) rfl rfl rfl ?_
  refine me1 (pc' := 98) dm_X12_keep_97 rfl rfl rfl rfl ?_
  refine me3 (pc' := 99) dm_X12_keep_98 (g_lald (v := (0 : Int64)) (lu (n := 102) (j := 9) hn rfl) rfl (by decide) rfl (Nat.le_of_ble_eq_true rfl)) rfl rfl rfl ?_
  refine me3 (pc' := 100) dm_X12_keep_99 (u_last (n := 102) (j := 12) hn rfl rfl (by decide) rfl (Nat.le_of_ble_eq_true rfl)) rfl rfl rfl ?_
  refine me1 (pc' := 101) dm_X12_keep_100 rfl rfl rfl rfl ?_
  refine me3 (pc' := 104) dm_X12_keep_101 (g_get (v := .ref 115) (lu (n := 102) (j := 0) hn rfl) rfl rfl (Nat.le_of_ble_eq_true rfl)) rfl rfl rfl ?_
  refine me0 (pc' := 106) (S' := .int (80 : Int32) :: _) dm_X12_keep_104 rfl rfl rfl rfl ?_
  refine me1 (pc' := 107) dm_X12_keep_106 rfl rfl rfl rfl ?_
  refine me0 (pc' := 108) (S' := .int (80 : Int32) :: _) dm_X12_keep_107 rfl rfl rfl rfl ?_
  refine me0 (pc' := 110) (S' := .int (40 : Int32) :: _) dm_X12_keep_108 rfl rfl rfl rfl ?_
  refine me0 (pc' := 111) (S' := .int (120 : Int32) :: _) dm_X12_keep_110 rfl rfl rfl rfl ?_
  refine me1 (pc' := 112) dm_X12_keep_111 rfl rfl rfl rfl ?_
  refine me0 (pc' := 113) (S' := .int (141 : Int32) :: _) dm_X12_keep_112 rfl rfl rfl rfl ?_
  refine me1 (pc' := 114) dm_X12_keep_113 rfl rfl rfl rfl ?_
  refine me3 (pc' := 117) dm_X12_keep_114 (g_get (v := .ref 113) (lu (n := 102) (j := 0) hn rfl) rfl rfl (Nat.le_of_ble_eq_true rfl)) rfl rfl rfl ?_
  refine me1 (pc' := 118) dm_X12_keep_117 rfl rfl rfl rfl ?_
  refine me3 (pc' := 119) dm_X12_keep_118 (g_iald (v := (0 : Int32)) (lu (n := 102) (j := 11) hn rfl) rfl (by decide) rfl (Nat.le_of_ble_eq_true rfl)) rfl rfl rfl ?_
  refine me3 (pc' := 120) dm_X12_keep_119 (u_iast (n := 102) (j := 13) hn rfl rfl (by decide) rfl (Nat.le_of_ble_eq_true rfl)) rfl rfl rfl ?_
  refine me1 (pc' := 123) (L' := [(2, .int (22 : Int32)), (0, .ref 102), (1, .int (1 : Int32))]) dm_X12_keep_120 rfl rfl rfl rfl ?_
  refine me2 (pc' := 40) dm_X12_keep_123 rfl rfl rfl ?_
  refine me1 (pc' := 41) dm_X12_keep_40 rfl rfl rfl rfl ?_
  refine me0 (pc' := 43) (S' := .int (40 : Int32) :: _) dm_X12_keep_41 rfl rfl rfl rfl ?_
  refine me_2f (pc' := 46) dm_X12_keep_43 rfl (by decide) rfl ?_
  refine me1 (pc' := 47) dm_X12_keep_46 rfl rfl rfl rfl ?_
  refine me3 (pc' := 50) dm_X12_keep_47 (g_get (v := .ref 114) (lu (n := 102) (j := 0) hn rfl) rfl rfl (Nat.le_of_ble_eq_true rfl)) rfl rfl rfl ?_
  refine me0 (pc' := 52) (S' := .int (80 : Int32) :: _) dm_X12_keep_50 rfl rfl rfl rfl ?_
  refine me1 (pc' := 53) dm_X12_keep_52 rfl rfl rfl rfl ?_
  refine me0 (pc' := 54) (S' := .int (80 : Int32) :: _) dm_X12_keep_53 rfl rfl rfl rfl ?_
  refine me1 (pc' := 55) dm_X12_keep_54 rfl rfl rfl rfl ?_
  refine me0 (pc' := 56) (S' := .int (102 : Int32) :: _) dm_X12_keep_55 rfl rfl rfl rfl ?_
  refine me1 (pc' := 57) dm_X12_keep_56 rfl rfl rfl rfl ?_
  refine me3 (pc' := 60) dm_X12_keep_57 (g_get (v := .ref 110) (lu (n := 102) (j := 0) hn rfl) rfl rfl (Nat.le_of_ble_eq_true rfl)) rfl rfl rfl ?_
  refine me1 (pc' := 61) dm_X12_keep_60 rfl rfl rfl rfl ?_
  refine me3 (pc' := 62) dm_X12_keep_61 (g_lald (v := (0 : Int64)) (lu (n := 102) (j := 8) hn rfl) rfl (by decide) rfl (Nat.le_of_ble_eq_true rfl)) rfl rfl rfl ?_
  refine me3 (pc' := 63) dm_X12_keep_62 (u_last (n := 102) (j := 12) hn rfl rfl (by decide) rfl (Nat.le_of_ble_eq_true rfl)) rfl rfl rfl ?_
  refine me1 (pc' := 64) dm_X12_keep_63 rfl rfl rfl rfl ?_
  refine me3 (pc' := 67) dm_X12_keep_64 (g_get (v := .ref 115) (lu (n := 102) (j := 0) hn rfl) rfl rfl (Nat.le_of_ble_eq_true rfl)) rfl rfl rfl ?_
  refine me0 (pc' := 69) (S' := .int (80 : Int32) :: _) dm_X12_keep_67 rfl rfl rfl rfl ?_
  refine me1 (pc' := 70) dm_X12_keep_69 rfl rfl rfl rfl ?_
  refine me0 (pc' := 71) (S' := .int (80 : Int32) :: _) dm_X12_keep_70 rfl rfl rfl rfl ?_
  refine me1 (pc' := 72) dm_X12_keep_71 rfl rfl rfl rfl ?_
  refine me0 (pc' := 73) (S' := .int (102 : Int32) :: _) dm_X12_keep_72 rfl rfl rfl rfl ?_
  refine me1 (pc' := 74) dm_X12_keep_73 rfl rfl rfl rfl ?_
  refine me3 (pc' := 77) dm_X12_keep_74 (g_get (v := .ref 112) (lu (n := 102) (j := 0) hn rfl) rfl rfl (Nat.le_of_ble_eq_true rfl)) rfl rfl rfl ?_
  refine me1 (pc' := 78) dm_X12_keep_77 rfl rfl rfl rfl ?_
  refine me3 (pc' := 79) dm_X12_keep_78 (g_iald (v := (0 : Int32)) (lu (n := 102) (j := 10) hn rfl) rfl (by decide) rfl (Nat.le_of_ble_eq_true rfl)) rfl rfl rfl ?_
  refine me3 (pc' := 80) dm_X12_keep_79 (u_iast (n := 102) (j := 13) hn rfl rfl (by decide) rfl (Nat.le_of_ble_eq_true rfl)) rfl rfl rfl ?_
  refine me1 (pc' := 81) dm_X12_keep_80 rfl rfl rfl rfl ?_
  refine me3 (pc' := 84) dm_X12_keep_81 (g_get (v := .ref 114) (lu (n := 102) (j := 0) hn rfl) rfl rfl (Nat.le_of_ble_eq_true rfl)) rfl rfl rfl ?_
  refine me0 (pc' := 86) (S' := .int (80 : Int32) :: _) dm_X12_keep_84 rfl rfl rfl rfl ?_
  refine me1 (pc' := 87) dm_X12_keep_86 rfl rfl rfl rfl ?_
  refine me0 (pc' := 88) (S' := .int (80 : Int32) :: _) dm_X12_keep_87 rfl rfl rfl rfl ?_
  refine me0 (pc' := 90) (S' := .int (40 : Int32) :: _) dm_X12_keep_88 rfl rfl rfl rfl ?_
  refine me0 (pc' := 91) (S' := .int (120 : Int32) :: _) dm_X12_keep_90 rfl rfl rfl rfl ?_
  refine me1 (pc' := 92) dm_X12_keep_91 rfl rfl rfl rfl ?_
  refine me0 (pc' := 93) (S' := .int (142 : Int32) :: _) dm_X12_keep_92 rfl rfl rfl rfl ?_
  refine me1 (pc' := 94) dm_X12_keep_93 rfl rfl rfl rfl ?_
  refine me3 (pc' := 97) dm_X12_keep_94 (g_get (v := .ref 111) (lu (n := 102) (j := 0) hn rfl) rfl rfl (Nat.le_of_ble_eq_true rfl)) rfl rfl rfl ?_
  refine me1 (pc' := 98) dm_X12_keep_97 rfl rfl rfl rfl ?_
  refine me3 (pc' := 99) dm_X12_keep_98 (g_lald (v := (0 : Int64)) (lu (n := 102) (j := 9) hn rfl) rfl (by decide) rfl (Nat.le_of_ble_eq_true rfl)) rfl rfl rfl ?_
  refine me3 (pc' := 100) dm_X12_keep_99 (u_last (n := 102) (j := 12) hn rfl rfl (by decide) rfl (Nat.le_of_ble_eq_true rfl)) rfl rfl rfl ?_
  refine me1 (pc' := 101) dm_X12_keep_100 rfl rfl rfl rfl ?_
  refine me3 (pc' := 104) dm_X12_keep_101 (g_get (v := .ref 115) (lu (n := 102) (j := 0) hn rfl) rfl rfl (Nat.le_of_ble_eq_true rfl)) rfl rfl rfl ?_
  refine me0 (pc' := 106) (S' := .int (80 : Int32) :: _) dm_X12_keep_104 rfl rfl rfl rfl ?_
  refine me1 (pc' := 107) dm_X12_keep_106 rfl rfl rfl rfl ?_
  refine me0 (pc' := 108) (S' := .int (80 : Int32) :: _) dm_X12_keep_107 rfl rfl rfl rfl ?_
  refine me0 (pc' := 110) (S' := .int (40 : Int32) :: _) dm_X12_keep_108 rfl rfl rfl rfl ?_
  refine me0 (pc' := 111) (S' := .int (120 : Int32) :: _) dm_X12_keep_110 rfl rfl rfl rfl ?_
  refine me1 (pc' := 112) dm_X12_keep_111 rfl rfl rfl rfl ?_
  refine me0 (pc' := 113) (S' := .int (142 : Int32) :: _) dm_X12_keep_112 rfl rfl rfl rfl ?_
  refine me1 (pc' := 114) dm_X12_keep_113 rfl rfl rfl rfl ?_
  refine me3 (pc' := 117) dm_X12_keep_114 (g_get (v := .ref 113) (lu (n := 102) (j := 0) hn rfl) rfl rfl (Nat.le_of_ble_eq_true rfl)) rfl rfl rfl ?_
  refine me1 (pc' := 118) dm_X12_keep_117 rfl rfl rfl rfl ?_
  refine me3 (pc' := 119) dm_X12_keep_118 (g_iald (v := (0 : Int32)) (lu (n := 102) (j := 11) hn rfl) rfl (by decide) rfl (Nat.le_of_ble_eq_true rfl)) rfl rfl rfl ?_
  refine me3 (pc' := 120) dm_X12_keep_119 (u_iast (n := 102) (j := 13) hn rfl rfl (by decide) rfl (Nat.le_of_ble_eq_true rfl)) rfl rfl rfl ?_
  refine me1 (pc' := 123) (L' := [(2, .int (23 : Int32)), (0, .ref 102), (1, .int (1 : Int32))]) dm_X12_keep_120 rfl rfl rfl rfl ?_
  refine me2 (pc' := 40) dm_X12_keep_123 rfl rfl rfl ?_
  refine me1 (pc' := 41) dm_X12_keep_40 rfl rfl rfl rfl ?_
  refine me0 (pc' := 43) (S' := .int (40 : Int32) :: _) dm_X12_keep_41 rfl rfl rfl rfl ?_
  refine me_2f (pc' := 46) dm_X12_keep_43 rfl (by decide) rfl ?_
  refine me1 (pc' := 47) dm_X12_keep_46 rfl rfl rfl rfl ?_
  refine me3 (pc' := 50) dm_X12_keep_47 (g_get (v := .ref 114) (lu (n := 102) (j := 0) hn rfl) rfl rfl (Nat.le_of_ble_eq_true rfl)) rfl rfl rfl ?_
  refine me0 (pc' := 52) (S' := .int (80 : Int32) :: _) dm_X12_keep_50 rfl rfl rfl rfl ?_
  refine me1 (pc' := 53) dm_X12_keep_52 rfl rfl rfl rfl ?_
  refine me0 (pc' := 54) (S' := .int (80 : Int32) :: _) dm_X12_keep_53 rfl rfl rfl rfl ?_
  refine me1 (pc' := 55) dm_X12_keep_54 rfl rfl rfl rfl ?_
  refine me0 (pc' := 56) (S' := .int (103 : Int32) :: _) dm_X12_keep_55 rfl rfl rfl rfl ?_
  refine me1 (pc' := 57) dm_X12_keep_56 rfl rfl rfl rfl ?_
  refine me3 (pc' := 60) dm_X12_keep_57 (g_get (v := .ref 110) (lu (n := 102) (j := 0) hn rfl) rfl rfl (Nat.le_of_ble_eq_true rfl)) rfl rfl rfl ?_
  refine me1 (pc' := 61) dm_X12_keep_60 rfl rfl rfl rfl ?_
  refine me3 (pc' := 62) dm_X12_keep_61 (g_lald (v := (0 : Int64)) (lu (n := 102) (j := 8) hn rfl) rfl (by decide) rfl (Nat.le_of_ble_eq_true rfl)) rfl rfl rfl ?_
  refine me3 (pc' := 63) dm_X12_keep_62 (u_last (n := 102) (j := 12) hn rfl rfl (by decide) rfl (Nat.le_of_ble_eq_true rfl)) rfl rfl rfl ?_
  refine me1 (pc' := 64) dm_X12_keep_63 rfl rfl rfl rfl ?_
  refine me3 (pc' := 67) dm_X12_keep_64 (g_get (v := .ref 115) (lu (n := 102) (j := 0) hn rfl) rfl rfl (Nat.le_of_ble_eq_true rfl)) rfl rfl rfl ?_
  refine me0 (pc' := 69) (S' := .int (80 : Int32) :: _) dm_X12_keep_67 rfl rfl rfl rfl ?_
  refine me1 (pc' := 70) dm_X12_keep_69 rfl rfl rfl rfl ?_
  refine me0 (pc' := 71) (S' := .int (80 : Int32) :: _) dm_X12_keep_70 rfl rfl rfl rfl ?_
  refine me1 (pc' := 72) dm_X12_keep_71 rfl rfl rfl rfl ?_
  refine me0 (pc' := 73) (S' := .int (103 : Int32) :: _) dm_X12_keep_72 rfl rfl rfl rfl ?_
  refine me1 (pc' := 74) dm_X12_keep_73 rfl rfl rfl rfl ?_
  refine me3 (pc' := 77) dm_X12_keep_74 (g_get (v := .ref 112) (lu (n := 102) (j := 0) hn rfl) rfl rfl (Nat.le_of_ble_eq_true rfl)) rfl rfl rfl ?_
  refine me1 (pc' := 78) dm_X12_keep_77 rfl rfl rfl rfl ?_
  refine me3 (pc' := 79) dm_X12_keep_78 (g_iald (v := (0 : Int32)) (lu (n := 102) (j := 10) hn rfl) rfl (by decide) rfl (Nat.le_of_ble_eq_true rfl)) rfl rfl rfl ?_
  refine me3 (pc' := 80) dm_X12_keep_79 (u_iast (n := 102) (j := 13) hn rfl rfl (by decide) rfl (Nat.le_of_ble_eq_true rfl)) rfl rfl rfl ?_
  refine me1 (pc' := 81) dm_X12_keep_80 rfl rfl rfl rfl ?_
  refine me3 (pc' := 84) dm_X12_keep_81 (g_get (v := .ref 114) (lu (n := 102) (j := 0) hn rfl) rfl rfl (Nat.le_of_ble_eq_true rfl)) rfl rfl rfl ?_
  refine me0 (pc' := 86) (S' := .int (80 : Int32) :: _) dm_X12_keep_84 rfl rfl rfl rfl ?_
  refine me1 (pc' := 87) dm_X12_keep_86 rfl rfl rfl rfl ?_
  refine me0 (pc' := 88) (S' := .int (80 : Int32) :: _) dm_X12_keep_87 rfl rfl rfl rfl ?_
  refine me0 (pc' := 90) (S' := .int (40 : Int32) :: _) dm_X12_keep_88 rfl rfl rfl rfl ?_
  refine me0 (pc' := 91) (S' := .int (120 : Int32) :: _) dm_X12_keep_90 rfl rfl rfl rfl ?_
  refine me1 (pc' := 92) dm_X12_keep_91 rfl rfl rfl rfl ?_
  refine me0 (pc' := 93) (S' := .int (143 : Int32) :: _) dm_X12_keep_92 rfl rfl rfl rfl ?_
  refine me1 (pc' := 94) dm_X12_keep_93 rfl rfl rfl rfl ?_
  refine me3 (pc' := 97) dm_X12_keep_94 (g_get (v := .ref 111) (lu (n := 102) (j := 0) hn rfl) rfl rfl (Nat.le_of_ble_eq_true rfl)) rfl rfl rfl ?_
  refine me1 (pc' := 98) dm_X12_keep_97 rfl rfl rfl rfl ?_
  refine me3 (pc' := 99) dm_X12_keep_98 (g_lald (v := (0 : Int64)) (lu (n := 102) (j := 9) hn rfl) rfl (by decide) rfl (Nat.le_of_ble_eq_true rfl)) rfl rfl rfl ?_
  refine me3 (pc' := 100) dm_X12_keep_99 (u_last (n := 102) (j := 12) hn rfl rfl (by decide) rfl (Nat.le_of_ble_eq_true rfl)) rfl rfl rfl ?_
  refine me1 (pc' := 101) dm_X12_keep_100 rfl rfl rfl rfl ?_
  refine me3 (pc' := 104) dm_X12_keep_101 (g_get (v := .ref 115) (lu (n := 102) (j := 0) hn rfl) rfl rfl (Nat.le_of_ble_eq_true rfl)) rfl rfl rfl ?_
  refine me0 (pc' := 106) (S' := .int (80 : Int32) :: _) dm_X12_keep_104 rfl rfl rfl rfl ?_
  refine me1 (pc' := 107) dm_X12_keep_106 rfl rfl rfl rfl ?_
  refine me0 (pc' := 108) (S' := .int (80 : Int32) :: _) dm_X12_keep_107 rfl rfl rfl rfl ?_
  refine me0 (pc' := 110) (S' := .int (40 : Int32) :: _) dm_X12_keep_108 rfl rfl rfl rfl ?_
  refine me0 (pc' := 111) (S' := .int (120 : Int32) :: _) dm_X12_keep_110 rfl rfl rfl rfl ?_
  refine me1 (pc' := 112) dm_X12_keep_111 rfl rfl rfl rfl ?_
  refine me0 (pc' := 113) (S' := .int (143 : Int32) :: _) dm_X12_keep_112 rfl rfl rfl rfl ?_
  refine me1 (pc' := 114) dm_X12_keep_113 rfl rfl rfl rfl ?_
  refine me3 (pc' := 117) dm_X12_keep_114 (g_get (v := .ref 113) (lu (n := 102) (j := 0) hn rfl) rfl rfl (Nat.le_of_ble_eq_true rfl)) rfl rfl rfl ?_
  refine me1 (pc' := 118) dm_X12_keep_117 rfl rfl rfl rfl ?_
  refine me3 (pc' := 119) dm_X12_keep_118 (g_iald (v := (0 : Int32)) (lu (n := 102) (j := 11) hn rfl) rfl (by decide) rfl (Nat.le_of_ble_eq_true rfl)) rfl rfl rfl ?_
  refine me3 (pc' := 120) dm_X12_keep_119 (u_iast (n := 102) (j := 13) hn rfl rfl (by decide) rfl (Nat.le_of_ble_eq_true rfl)) rfl rfl rfl ?_
  refine me1 (pc' := 123) (L' := [(2, .int (24 : Int32)), (0, .ref 102), (1, .int (1 : Int32))]) dm_X12_keep_120 rfl rfl rfl rfl ?_
  refine me2 (pc' := 40) dm_X12_keep_123 rfl rfl rfl ?_
  refine me1 (pc' := 41) dm_X12_keep_40 rfl rfl rfl rfl ?_
  refine me0 (pc' := 43) (S' := .int (40 : Int32) :: _) dm_X12_keep_41 rfl rfl rfl rfl ?_
  refine me_2f (pc' := 46) dm_X12_keep_43 rfl (by decide) rfl ?_
  refine me1 (pc' := 47) dm_X12_keep_46 rfl rfl rfl rfl ?_
  refine me3 (pc' := 50) dm_X12_keep_47 (g_get (v := .ref 114) (lu (n := 102) (j := 0) hn rfl) rfl rfl (Nat.le_of_ble_eq_true rfl)) rfl rfl rfl ?_
  refine me0 (pc' := 52) (S' := .int (80 : Int32) :: _) dm_X12_keep_50 rfl rfl rfl rfl ?_
  refine me1 (pc' := 53) dm_X12_keep_52 rfl rfl rfl rfl ?_
  refine me0 (pc' := 54) (S' := .int (80 : Int32) :: _) dm_X12_keep_53 rfl rfl rfl rfl ?_
  refine me1 (pc' := 55) dm_X12_keep_54 rfl rfl rfl rfl ?_
  refine me0 (pc' := 56) (S' := .int (104 : Int32) :: _) dm_X12_keep_55 rfl rfl rfl rfl ?_
  refine me1 (pc' := 57) dm_X12_keep_56 rfl rfl rfl rfl ?_
  refine me3 (pc' := 60) dm_X12_keep_57 (g_get (v := .ref 110) (lu (n := 102) (j := 0) hn rfl) rfl rfl (Nat.le_of_ble_eq_true rfl)) rfl rfl rfl ?_
  refine me1 (pc' := 61) dm_X12_keep_60 rfl rfl rfl rfl ?_
  refine me3 (pc' := 62) dm_X12_keep_61 (g_lald (v := (0 : Int64)) (lu (n := 102) (j := 8) hn rfl) rfl (by decide) rfl (Nat.le_of_ble_eq_true rfl)) rfl rfl rfl ?_
  refine me3 (pc' := 63) dm_X12_keep_62 (u_last (n := 102) (j := 12) hn rfl rfl (by decide) rfl (Nat.le_of_ble_eq_true rfl)) rfl rfl rfl ?_
  refine me1 (pc' := 64) dm_X12_keep_63 rfl rfl rfl rfl ?_
  refine me3 (pc' := 67) dm_X12_keep_64 (g_get (v := .ref 115) (lu (n := 102) (j := 0) hn rfl) rfl rfl (Nat.le_of_ble_eq_true rfl)) rfl rfl rfl ?_
  refine me0 (pc' := 69) (S' := .int (80 : Int32) :: _) dm_X12_keep_67 rfl rfl rfl rfl ?_
  refine me1 (pc' := 70) dm_X12_keep_69 rfl rfl rfl rfl ?_
  refine me0 (pc' := 71) (S' := .int (80 : Int32) :: _) dm_X12_keep_70 rfl rfl rfl rfl ?_
  refine me1 (pc' := 72) dm_X12_keep_71 rfl rfl rfl rfl ?_
  refine me0 (pc' := 73) (S' := .int (104 : Int32) :: _) dm_X12_keep_72 rfl rfl rfl rfl ?_
  refine me1 (pc' := 74) dm_X12_keep_73 rfl rfl rfl rfl ?_
  refine me3 (pc' := 77) dm_X12_keep_74 (g_get (v := .ref 112) (lu (n := 102) (j := 0) hn rfl) rfl rfl (Nat.le_of_ble_eq_true rfl)) rfl rfl rfl ?_
  refine me1 (pc' := 78) dm_X12_keep_77 rfl rfl rfl rfl ?_
  refine me3 (pc' := 79) dm_X12_keep_78 (g_iald (v := (0 : Int32)) (lu (n := 102) (j := 10) hn rfl) rfl (by decide) rfl (Nat.le_of_ble_eq_true rfl)) rfl rfl rfl ?_
  refine me3 (pc' := 80) dm_X12_keep_79 (u_iast (n := 102) (j := 13) hn rfl rfl (by decide) rfl (Nat.le_of_ble_eq_true rfl)) rfl rfl rfl ?_
  refine me1 (pc' := 81) dm_X12_keep_80 rfl rfl rfl rfl ?_
  refine me3 (pc' := 84) dm_X12_keep_81 (g_get (v := .ref 114) (lu (n := 102) (j := 0) hn rfl) rfl rfl (Nat.le_of_ble_eq_true rfl)) rfl rfl rfl ?_
  refine me0 (pc' := 86) (S' := .int (80 : Int32) :: _) dm_X12_keep_84 rfl rfl rfl rfl ?_
  refine me1 (pc' := 87) dm_X12_keep_86 rfl rfl rfl rfl ?_
  refine me0 (pc' := 88) (S' := .int (80 : Int32) :: _) dm_X12_keep_87 rfl rfl rfl rfl ?_
  refine me0 (pc' := 90) (S' := .int (40 : Int32) :: _) dm_X12_keep_88 rfl rfl rfl rfl ?_
  refine me0 (pc' := 91) (S' := .int (120 : Int32) :: _) dm_X12_keep_90 rfl rfl rfl rfl ?_
  refine me1 (pc' := 92) dm_X12_keep_91 rfl rfl rfl rfl ?_
  refine me0 (pc' := 93) (S' := .int (144 : Int32) :: _) dm_X12_keep_92 rfl rfl rfl rfl ?_
  refine me1 (pc' := 94) dm_X12_keep_93 rfl rfl rfl rfl ?_
  refine me3 (pc' := 97) dm_X12_keep_94 (g_get (v := .ref 111) (lu (n := 102) (j := 0) hn rfl) rfl rfl (Nat.le_of_ble_eq_true rfl)) rfl rfl rfl ?_
  refine me1 (pc' := 98) dm_X12_keep_97 rfl rfl rfl rfl ?_
  refine me3 (pc' := 99) dm_X12_keep_98 (g_lald (v := (0 : Int64)) (lu (n := 102) (j := 9) hn rfl) rfl (by decide) rfl (Nat.le_of_ble_eq_true rfl)) rfl rfl rfl ?_
  refine me3 (pc' := 100) dm_X12_keep_99 (u_last (n := 102) (j := 12) hn rfl rfl (by decide) rfl (Nat.le_of_ble_eq_true rfl)) rfl rfl rfl ?_
  refine me1 (pc' := 101) dm_X12_keep_100 rfl rfl rfl rfl ?_
  refine me3 (pc' := 104) dm_X12_keep_101 (g_get (v := .ref 115) (lu (n := 102) (j := 0) hn rfl) rfl rfl (Nat.le_of_ble_eq_true rfl)) rfl rfl rfl ?_
  refine me0 (pc' := 106) (S' := .int (80 : Int32) :: _) dm_X12_keep_104 rfl rfl rfl rfl ?_
  refine me1 (pc' := 107) dm_X12_keep_106 rfl rfl rfl rfl ?_
  refine me0 (pc' := 108) (S' := .int (80 : Int32) :: _) dm_X12_keep_107 rfl rfl rfl rfl ?_
  refine me0 (pc' := 110) (S' := .int (40 : Int32) :: _) dm_X12_keep_108 rfl rfl rfl rfl ?_
  refine me0 (pc' := 111) (S' := .int (120 : Int32) :: _) dm_X12_keep_110 rfl rfl rfl rfl ?_
  refine me1 (pc' := 112) dm_X12_keep_111 rfl rfl rfl rfl ?_
  refine me0 (pc' := 113) (S' := .int (144 : Int32) :: _) dm_X12_keep_112 rfl rfl rfl rfl ?_
  refine me1 (pc' := 114) dm_X12_keep_113 rfl rfl rfl rfl ?_
  refine me3 (pc' := 117) dm_X12_keep_114 (g_get (v := .ref 113) (lu (n := 102) (j := 0) hn rfl) rfl rfl (Nat.le_of_ble_eq_true rfl)) rfl rfl rfl ?_
  refine me1 (pc' := 118) dm_X12_keep_117 rfl rfl rfl rfl ?_
  refine me3 (pc' := 119) dm_X12_keep_118 (g_iald (v := (0 : Int32)) (lu (n := 102) (j := 11) hn rfl) rfl (by decide) rfl (Nat.le_of_ble_eq_true rfl)) rfl rfl rfl ?_
  refine me3 (pc' := 120) dm_X12_keep_119 (u_iast (n := 102) (j := 13) hn rfl rfl (by decide) rfl (Nat.le_of_ble_eq_true rfl)) rfl rfl rfl ?_
  refine me1 (pc' := 123) (L' := [(2, .int (25 : Int32)), (0, .ref 102), (1, .int (1 : Int32))]) dm_X12_keep_120 rfl rfl rfl rfl ?_
  refine me2 (pc' := 40) dm_X12_keep_123 rfl rfl rfl ?_
  refine me1 (pc' := 41) dm_X12_keep_40 rfl rfl rfl rfl ?_
  refine me0 (pc' := 43) (S' := .int (40 : Int32) :: _) dm_X12_keep_41 rfl rfl rfl rfl ?_
  refine me_2f (pc' := 46) dm_X12_keep_43 rfl (by decide) rfl ?_
  refine me1 (pc' := 47) dm_X12_keep_46 rfl rfl rfl rfl ?_
  refine me3 (pc' := 50) dm_X12_keep_47 (g_get (v := .ref 114) (lu (n := 102) (j := 0) hn rfl) rfl rfl (Nat.le_of_ble_eq_true rfl)) rfl rfl rfl ?_
  refine me0 (pc' := 52) (S' := .int (80 : Int32) :: _) dm_X12_keep_50 rfl rfl rfl rfl ?_
  refine me1 (pc' := 53) dm_X12_keep_52 rfl rfl rfl rfl ?_
  refine me0 (pc' := 54) (S' := .int (80 : Int32) :: _) dm_X12_keep_53 rfl rfl rfl rfl ?_
  refine me1 (pc' := 55) dm_X12_keep_54 rfl rfl rfl rfl ?_
  refine me0 (pc' := 56) (S' := .int (105 : Int32) :: _) dm_X12_keep_55 rfl rfl rfl rfl ?_
  refine me1 (pc' := 57) dm_X12_keep_56 rfl rfl rfl rfl ?_
  refine me3 (pc' := 60) dm_X12_keep_57 (g_get (v := .ref 110) (lu (n := 102) (j := 0) hn rfl) rfl rfl (Nat.le_of_ble_eq_true rfl)) rfl rfl rfl ?_
  refine me1 (pc' := 61) dm_X12_keep_60 rfl rfl rfl rfl ?_
  refine me3 (pc' := 62) dm_X12_keep_61 (g_lald (v := (0 : Int64)) (lu (n := 102) (j := 8) hn rfl) rfl (by decide) rfl (Nat.le_of_ble_eq_true rfl)) rfl rfl rfl ?_
  refine me3 (pc' := 63) dm_X12_keep_62 (u_last (n := 102) (j := 12) hn rfl rfl (by decide) rfl (Nat.le_of_ble_eq_true rfl)) rfl rfl rfl ?_
  refine me1 (pc' := 64) dm_X12_keep_63 rfl rfl rfl rfl ?_
  refine me3 (pc' := 67) dm_X12_keep_64 (g_get (v := .ref 115) (lu (n := 102) (j := 0) hn rfl) rfl rfl (Nat.le_of_ble_eq_true rfl)) rfl rfl rfl ?_
  refine me0 (pc' := 69) (S' := .int (80 : Int32) :: _) dm_X12_keep_67 rfl rfl rfl rfl ?_
  refine me1 (pc' := 70) dm_X12_keep_69 rfl rfl rfl rfl ?_
  refine me0 (pc' := 71) (S' := .int (80 : Int32) :: _) dm_X12_keep_70 rfl rfl rfl rfl ?_
  refine me1 (pc' := 72) dm_X12_keep_71 rfl rfl rfl rfl ?_
  refine me0 (pc' := 73) (S' := .int (105 : Int32) :: _) dm_X12_keep_72 rfl rfl rfl rfl ?_
  refine me1 (pc' := 74) dm_X12_keep_73 rfl rfl rfl rfl ?_
  refine me3 (pc' := 77) dm_X12_keep_74 (g_get (v := .ref 112) (lu (n := 102) (j := 0) hn rfl) rfl rfl (Nat.le_of_ble_eq_true rfl)) rfl rfl rfl ?_
  refine me1 (pc' := 78) dm_X12_keep_77 rfl rfl rfl rfl ?_
  refine me3 (pc' := 79) dm_X12_keep_78 (g_iald (v := (0 : Int32)) (lu (n := 102) (j := 10) hn rfl) rfl (by decide) rfl (Nat.le_of_ble_eq_true rfl)) rfl rfl rfl ?_
  refine me3 (pc' := 80) dm_X12_keep_79 (u_iast (n := 102) (j := 13) hn rfl rfl (by decide) rfl (Nat.le_of_ble_eq_true rfl)) rfl rfl rfl ?_
  refine me1 (pc' := 81) dm_X12_keep_80 rfl rfl rfl rfl ?_
  refine me3 (pc' := 84) dm_X12_keep_81 (g_get (v := .ref 114) (lu (n := 102) (j := 0) hn rfl) rfl rfl (Nat.le_of_ble_eq_true rfl)) rfl rfl rfl ?_
  refine me0 (pc' := 86) (S' := .int (80 : Int32) :: _) dm_X12_keep_84 rfl rfl rfl rfl ?_
  refine me1 (pc' := 87) dm_X12_keep_86 rfl rfl rfl rfl ?_
  refine me0 (pc' := 88) (S' := .int (80 : Int32) :: _) dm_X12_keep_87 rfl rfl rfl rfl ?_
  refine me0 (pc' := 90) (S' := .int (40 : Int32) :: _) dm_X12_keep_88 rfl rfl rfl rfl ?_
  refine me0 (pc' := 91) (S' := .int (120 : Int32) :: _) dm_X12_keep_90 rfl rfl rfl rfl ?_
  refine me1 (pc' := 92) dm_X12_keep_91 rfl rfl rfl rfl ?_
  refine me0 (pc' := 93) (S' := .int (145 : Int32) :: _) dm_X12_keep_92 rfl rfl rfl rfl ?_
  refine me1 (pc' := 94) dm_X12_keep_93 rfl rfl rfl rfl ?_
  refine me3 (pc' := 97) dm_X12_keep_94 (g_get (v := .ref 111) (lu (n := 102) (j := 0) hn rfl) rfl rfl (Nat.le_of_ble_eq_true rfl)) rfl rfl rfl ?_
  refine me1 (pc' := 98) dm_X12_keep_97 rfl rfl rfl rfl ?_
  refine me3 (pc' := 99) dm_X12_keep_98 (g_lald (v := (0 : Int64)) (lu (n := 102) (j := 9) hn rfl) rfl (by decide) rfl (Nat.le_of_ble_eq_true rfl)) rfl rfl rfl ?_
  refine me3 (pc' := 100) dm_X12_keep_99 (u_last (n := 102) (j := 12) hn rfl rfl (by decide) rfl (Nat.le_of_ble_eq_true rfl)) rfl rfl rfl ?_
  refine me1 (pc' := 101) dm_X12_keep_100 rfl rfl rfl rfl ?_
  refine me3 (pc' := 104) dm_X12_keep_101 (g_get (v := .ref 115) (lu (n := 102) (j := 0) hn rfl) rfl rfl (Nat.le_of_ble_eq_true rfl)) rfl rfl rfl ?_
  refine me0 (pc' := 106) (S' := .int (80 : Int32) :: _) dm_X12_keep_104 rfl rfl rfl rfl ?_
  refine me1 (pc' := 107) dm_X12_keep_106 rfl rfl rfl rfl ?_
  refine me0 (pc' := 108) (S' := .int (80 : Int32) :: _) dm_X12_keep_107 rfl rfl rfl rfl ?_
  refine me0 (pc' := 110) (S' := .int (40 : Int32) :: _) dm_X12_keep_108 rfl rfl rfl rfl ?_
  refine me0 (pc' := 111) (S' := .int (120 : Int32) :: _) dm_X12_keep_110 rfl rfl rfl rfl ?_
  refine me1 (pc' := 112) dm_X12_keep_111 rfl rfl rfl rfl ?_
  refine me0 (pc' := 113) (S' := .int (145 : Int32) :: _) dm_X12_keep_112 rfl rfl rfl rfl ?_
  refine me1 (pc' := 114) dm_X12_keep_113 rfl rfl rfl rfl ?_
  refine me3 (pc' := 117) dm_X12_keep_114 (g_get (v := .ref 113) (lu (n := 102) (j := 0) hn rfl) rfl rfl (Nat.le_of_ble_eq_true rfl)) rfl rfl rfl ?_
  refine me1 (pc' := 118) dm_X12_keep_117 rfl rfl rfl rfl ?_
  refine me3 (pc' := 119) dm_X12_keep_118 (g_iald (v := (0 : Int32)) (lu (n := 102) (j := 11) hn rfl) rfl (by decide) rfl (Nat.le_of_ble_eq_true rfl)) rfl rfl rfl ?_
  refine me3 (pc' := 120) dm_X12_keep_119 (u_iast (n := 102) (j := 13) hn rfl rfl (by decide) rfl (Nat.le_of_ble_eq_true rfl)) rfl rfl rfl ?_
  refine me1 (pc' := 123) (L' := [(2, .int (26 : Int32)), (0, .ref 102), (1, .int (1 : Int32))]) dm_X12_keep_120 rfl rfl rfl rfl ?_
  refine me2 (pc' := 40) dm_X12_keep_123 rfl rfl rfl ?_
  refine me1 (pc' := 41) dm_X12_keep_40 rfl rfl rfl rfl ?_
  refine me0 (pc' := 43) (S' := .int (40 : Int32) :: _) dm_X12_keep_41 rfl rfl rfl rfl ?_
  refine me_2f (pc' := 46) dm_X12_keep_43 rfl (by decide) rfl ?_
  refine me1 (pc' := 47) dm_X12_keep_46 rfl rfl rfl rfl ?_
  refine me3 (pc' := 50) dm_X12_keep_47 (g_get (v := .ref 114) (lu (n := 102) (j := 0) hn rfl) rfl rfl (Nat.le_of_ble_eq_true rfl)) rfl rfl rfl ?_
  refine me0 (pc' := 52) (S' := .int (80 : Int32) :: _) dm_X12_keep_50 rfl rfl rfl rfl ?_
  refine me1 (pc' := 53) dm_X12_keep_52 rfl rfl rfl rfl ?_
  refine me0 (pc' := 54) (S' := .int (80 : Int32) :: _) dm_X12_keep_53 rfl rfl rfl rfl ?_
  refine me1 (pc' := 55) dm_X12_keep_54 rfl rfl rfl rfl ?_
  refine me0 (pc' := 56) (S' := .int (106 : Int32) :: _) dm_X12_keep_55 rfl rfl rfl rfl ?_
  refine me1 (pc' := 57) dm_X12_keep_56 rfl rfl rfl rfl ?_
  refine me3 (pc' := 60) dm_X12_keep_57 (g_get (v := .ref 110) (lu (n := 102) (j := 0) hn rfl) rfl rfl (Nat.le_of_ble_eq_true rfl)) rfl rfl rfl ?_
  refine me1 (pc' := 61) dm_X12_keep_60 rfl rfl rfl rfl ?_
  refine me3 (pc' := 62) dm_X12_keep_61 (g_lald (v := (0 : Int64)) (lu (n := 102) (j := 8) hn rfl) rfl (by decide) rfl (Nat.le_of_ble_eq_true rfl)) rfl rfl rfl ?_
  refine me3 (pc' := 63) dm_X12_keep_62 (u_last (n := 102) (j := 12) hn rfl rfl (by decide) rfl (Nat.le_of_ble_eq_true rfl)) rfl rfl rfl ?_
  refine me1 (pc' := 64) dm_X12_keep_63 rfl rfl rfl rfl ?_
  refine me3 (pc' := 67) dm_X12_keep_64 (g_get (v := .ref 115) (lu (n := 102) (j := 0) hn rfl) rfl rfl (Nat.le_of_ble_eq_true rfl)) rfl rfl rfl ?_
  refine me0 (pc' := 69) (S' := .int (80 : Int32) :: _) dm_X12_keep_67 rfl rfl rfl rfl ?_
  refine me1 (pc' := 70) dm_X12_keep_69 rfl rfl rfl rfl ?_
  refine me0 (pc' := 71) (S' := .int (80 : Int32) :: _) dm_X12_keep_70 rfl rfl rfl rfl ?_
  refine me1 (pc' := 72) dm_X12_keep_71 rfl rfl rfl rfl ?_
  refine me0 (pc' := 73) (S' := .int (106 : Int32) :: _) dm_X12_keep_72 rfl rfl rfl rfl ?_
  refine me1 (pc' := 74) dm_X12_keep_73 rfl rfl rfl rfl ?_
  refine me3 (pc' := 77) dm_X12_keep_74 (g_get (v := .ref 112) (lu (n := 102) (j := 0) hn rfl) rfl rfl (Nat.le_of_ble_eq_true rfl)) rfl rfl rfl ?_
  refine me1 (pc' := 78) dm_X12_keep_77 rfl rfl rfl rfl ?_
  refine me3 (pc' := 79) dm_X12_keep_78 (g_iald (v := (0 : Int32)) (lu (n := 102) (j := 10) hn rfl) rfl (by decide) rfl (Nat.le_of_ble_eq_true rfl)) rfl rfl rfl ?_
  refine me3 (pc' := 80) dm_X12_keep_79 (u_iast (n := 102) (j := 13) hn rfl rfl (by decide) rfl (Nat.le_of_ble_eq_true rfl)) rfl rfl rfl ?_
  refine me1 (pc' := 81) dm_X12_keep_80 rfl rfl rfl rfl ?_
  refine me3 (pc' := 84) dm_X12_keep_81 (g_get (v := .ref 114) (lu (n := 102) (j := 0) hn rfl) rfl rfl (Nat.le_of_ble_eq_true rfl)) rfl rfl rfl ?_
  refine me0 (pc' := 86) (S' := .int (80 : Int32) :: _) dm_X12_keep_84 rfl rfl rfl rfl ?_
  refine me1 (pc' := 87) dm_X12_keep_86 rfl rfl rfl rfl ?_
  refine me0 (pc' := 88) (S' := .int (80 : Int32) :: _) dm_X12_keep_87 rfl rfl rfl rfl ?_
  refine me0 (pc' := 90) (S' := .int (40 : Int32) :: _) dm_X12_keep_88 rfl rfl rfl rfl ?_
  refine me0 (pc' := 91) (S' := .int (120 : Int32) :: _) dm_X12_keep_90 rfl rfl rfl rfl ?_
  refine me1 (pc' := 92) dm_X12_keep_91 rfl rfl rfl rfl ?_
  refine me0 (pc' := 93) (S' := .int (146 : Int32) :: _) dm_X12_keep_92 rfl rfl rfl rfl ?_
  refine me1 (pc' := 94) dm_X12_keep_93 rfl rfl rfl rfl ?_
  refine me3 (pc' := 97) dm_X12_keep_94 (g_get (v := .ref 111) (lu (n := 102) (j := 0) hn rfl) rfl rfl (Nat.le_of_ble_eq_true rfl)) rfl rfl rfl ?_
  refine me1 (pc' := 98) dm_X12_keep_97 rfl rfl rfl rfl ?_
  refine me3 (pc' := 99) dm_X12_keep_98 (g_lald (v := (0 : Int64)) (lu (n := 102) (j := 9) hn rfl) rfl (by decide) rfl (Nat.le_of_ble_eq_true rfl)) rfl rfl rfl ?_
  refine me3 (pc' := 100) dm_X12_keep_99 (u_last (n := 102) (j := 12) hn rfl rfl (by decide) rfl (Nat.le_of_ble_eq_true rfl)) rfl rfl rfl ?_
  refine me1 (pc' := 101) dm_X12_keep_100 rfl rfl rfl rfl ?_
  refine me3 (pc' := 104) dm_X12_keep_101 (g_get (v := .ref 115) (lu (n := 102) (j := 0) hn rfl) rfl rfl (Nat.le_of_ble_eq_true rfl)) rfl rfl rfl ?_
  refine me0 (pc' := 106) (S' := .int (80 : Int32) :: _) dm_X12_keep_104 rfl rfl rfl rfl ?_
  refine me1 (pc' := 107) dm_X12_keep_106 rfl rfl rfl rfl ?_
  refine me0 (pc' := 108) (S' := .int (80 : Int32) :: _) dm_X12_keep_107 rfl rfl rfl rfl ?_
  refine me0 (pc' := 110) (S' := .int (40 : Int32) :: _) dm_X12_keep_108 rfl rfl rfl rfl ?_
  refine me0 (pc' := 111) (S' := .int (120 : Int32) :: _) dm_X12_keep_110 rfl rfl rfl rfl ?_
  refine me1 (pc' := 112) dm_X12_keep_111 rfl rfl rfl rfl ?_
  refine me0 (pc' := 113) (S' := .int (146 : Int32) :: _) dm_X12_keep_112 rfl rfl rfl rfl ?_
  refine me1 (pc' := 114) dm_X12_keep_113 rfl rfl rfl rfl ?_
  refine me3 (pc' := 117) dm_X12_keep_114 (g_get (v := .ref 113) (lu (n := 102) (j := 0) hn rfl) rfl rfl (Nat.le_of_ble_eq_true rfl)) rfl rfl rfl ?_
  refine me1 (pc' := 118) dm_X12_keep_117 rfl rfl rfl rfl ?_
  refine me3 (pc' := 119) dm_X12_keep_118 (g_iald (v := (0 : Int32)) (lu (n := 102) (j := 11) hn rfl) rfl (by decide) rfl (Nat.le_of_ble_eq_true rfl)) rfl rfl rfl ?_
  refine me3 (pc' := 120) dm_X12_keep_119 (u_iast (n := 102) (j := 13) hn rfl rfl (by decide) rfl (Nat.le_of_ble_eq_true rfl)) rfl rfl rfl ?_
  refine me1 (pc' := 123) (L' := [(2, .int (27 : Int32)), (0, .ref 102), (1, .int (1 : Int32))]) dm_X12_keep_120 rfl rfl rfl rfl ?_
  refine me2 (pc' := 40) dm_X12_keep_123 rfl rfl rfl ?_
  refine me1 (pc' := 41) dm_X12_keep_40 rfl rfl rfl rfl ?_
  refine me0 (pc' := 43) (S' := .int (40 : Int32) :: _) dm_X12_keep_41 rfl rfl rfl rfl ?_
  refine me_2f (pc' := 46) dm_X12_keep_43 rfl (by decide) rfl ?_
  refine me1 (pc' := 47) dm_X12_keep_46 rfl rfl rfl rfl ?_
  refine me3 (pc' := 50) dm_X12_keep_47 (g_get (v := .ref 114) (lu (n := 102) (j := 0) hn rfl) rfl rfl (Nat.le_of_ble_eq_true rfl)) rfl rfl rfl ?_
  refine me0 (pc' := 52) (S' := .int (80 : Int32) :: _) dm_X12_keep_50 rfl rfl rfl rfl ?_
  refine me1 (pc' := 53) dm_X12_keep_52 rfl rfl rfl rfl ?_
  refine me0 (pc' := 54) (S' := .int (80 : Int32) :: _) dm_X12_keep_53 rfl rfl rfl rfl ?_
  refine me1 (pc' := 55) dm_X12_keep_54 rfl rfl rfl rfl ?_
  refine me0 (pc' := 56) (S' := .int (107 : Int32) :: _) dm_X12_keep_55 rfl rfl rfl rfl ?_
  refine me1 (pc' := 57) dm_X12_keep_56 rfl rfl rfl rfl ?_
  refine me3 (pc' := 60) dm_X12_keep_57 (g_get (v := .ref 110) (lu (n := 102) (j := 0) hn rfl) rfl rfl (Nat.le_of_ble_eq_true rfl)) rfl rfl rfl ?_
  refine me1 (pc' := 61) dm_X12_keep_60 rfl rfl rfl rfl ?_
  refine me3 (pc' := 62) dm_X12_keep_61 (g_lald (v := (0 : Int64)) (lu (n := 102) (j := 8) hn rfl) rfl (by decide) rfl (Nat.le_of_ble_eq_true rfl)) rfl rfl rfl ?_
  refine me3 (pc' := 63) dm_X12_keep_62 (u_last (n := 102) (j := 12) hn rfl rfl (by decide) rfl (Nat.le_of_ble_eq_true rfl)) rfl rfl rfl ?_
  refine me1 (pc' := 64) dm_X12_keep_63 rfl rfl rfl rfl ?_
  refine me3 (pc' := 67) dm_X12_keep_64 (g_get (v := .ref 115) (lu (n := 102) (j := 0) hn rfl) rfl rfl (Nat.le_of_ble_eq_true rfl)) rfl rfl rfl ?_
  refine me0 (pc' := 69) (S' := .int (80 : Int32) :: _) dm_X12_keep_67 rfl rfl rfl rfl ?_
  refine me1 (pc' := 70) dm_X12_keep_69 rfl rfl rfl rfl ?_
  refine me0 (pc' := 71) (S' := .int (80 : Int32) :: _) dm_X12_keep_70 rfl rfl rfl rfl ?_
  refine me1 (pc' := 72) dm_X12_keep_71 rfl rfl rfl rfl ?_
  refine me0 (pc' := 73) (S' := .int (107 : Int32) :: _) dm_X12_keep_72 rfl rfl rfl rfl ?_
  refine me1 (pc' := 74) dm_X12_keep_73 rfl rfl rfl rfl ?_
  refine me3 (pc' := 77) dm_X12_keep_74 (g_get (v := .ref 112) (lu (n := 102) (j := 0) hn rfl) rfl rfl (Nat.le_of_ble_eq_true rfl)) rfl rfl rfl ?_
  refine me1 (pc' := 78) dm_X12_keep_77 rfl rfl rfl rfl ?_
  refine me3 (pc' := 79) dm_X12_keep_78 (g_iald (v := (0 : Int32)) (lu (n := 102) (j := 10) hn rfl) rfl (by decide) rfl (Nat.le_of_ble_eq_true rfl)) rfl rfl rfl ?_
  refine me3 (pc' := 80) dm_X12_keep_79 (u_iast (n := 102) (j := 13) hn rfl rfl (by decide) rfl (Nat.le_of_ble_eq_true rfl)) rfl rfl rfl ?_
  refine me1 (pc' := 81) dm_X12_keep_80 rfl rfl rfl rfl ?_
  refine me3 (pc' := 84) dm_X12_keep_81 (g_get (v := .ref 114) (lu (n := 102) (j := 0) hn rfl) rfl rfl (Nat.le_of_ble_eq_true rfl)) rfl rfl rfl ?_
  refine me0 (pc' := 86) (S' := .int (80 : Int32) :: _) dm_X12_keep_84 rfl rfl rfl rfl ?_
  refine me1 (pc' := 87) dm_X12_keep_86 rfl rfl rfl rfl ?_
  refine me0 (pc' := 88) (S' := .int (80 : Int32) :: _) dm_X12_keep_87 rfl rfl rfl rfl ?_
  refine me0 (pc' := 90) (S' := .int (40 : Int32) :: _) dm_X12_keep_88 rfl rfl rfl rfl ?_
  refine me0 (pc' := 91) (S' := .int (120 : Int32) :: _) dm_X12_keep_90 rfl rfl rfl rfl ?_
  refine me1 (pc' := 92) dm_X12_keep_91 rfl rfl rfl rfl ?_
  refine me0 (pc' := 93) (S' := .int (147 : Int32) :: _) dm_X12_keep_92 rfl rfl rfl rfl ?_
  refine me1 (pc' := 94) dm_X12_keep_93 rfl rfl rfl rfl ?_
  refine me3 (pc' := 97) dm_X12_keep_94 (g_get (v := .ref 111) (lu (n := 102) (j := 0) hn rfl) rfl rfl (Nat.le_of_ble_eq_true rfl)) rfl rfl rfl ?_
  refine me1 (pc' := 98) dm_X12_keep_97 rfl rfl rfl rfl ?_
  refine me3 (pc' := 99) dm_X12_keep_98 (g_lald (v := (0 : Int64)) (lu (n := 102) (j := 9) hn rfl) rfl (by decide) rfl (Nat.le_of_ble_eq_true rfl)) rfl rfl rfl ?_
  refine me3 (pc' := 100) dm_X12_keep_99 (u_last (n := 102) (j := 12) hn rfl rfl (by decide) rfl (Nat.le_of_ble_eq_true rfl)) rfl rfl rfl ?_
  refine me1 (pc' := 101) dm_X12_keep_100 rfl rfl rfl rfl ?_
  refine me3 (pc' := 104) dm_X12_keep_101 (g_get (v := .ref 115) (lu (n := 102) (j := 0) hn rfl) rfl rfl (Nat.le_of_ble_eq_true rfl)) rfl rfl rfl ?_
  refine me0 (pc' := 106) (S' := .int (80 : Int32) :: _) dm_X12_keep_104 rfl rfl rfl rfl ?_
  refine me1 (pc' := 107) dm_X12_keep_106 rfl rfl rfl rfl ?_
  refine me0 (pc' := 108) (S' := .int (80 : Int32) :: _) dm_X12_keep_107 rfl rfl rfl rfl ?_
  refine me0 (pc' := 110) (S' := .int (40 : Int32) :: _) dm_X12_keep_108 rfl rfl rfl rfl ?_
  refine me0 (pc' := 111) (S' := .int (120 : Int32) :: _) dm_X12_keep_110 rfl rfl rfl rfl ?_
  refine me1 (pc' := 112) dm_X12_keep_111 rfl rfl rfl rfl ?_
  refine me0 (pc' := 113) (S' := .int (147 : Int32) :: _) dm_X12_keep_112 rfl rfl rfl rfl ?_
  refine me1 (pc' := 114) dm_X12_keep_113 rfl rfl rfl rfl ?_
  refine me3 (pc' := 117) dm_X12_keep_114 (g_get (v := .ref 113) (lu (n := 102) (j := 0) hn rfl) rfl rfl (Nat.le_of_ble_eq_true rfl)) rfl rfl rfl ?_
  refine me1 (pc' := 118) dm_X12_keep_117 rfl rfl rfl rfl ?_
  refine me3 (pc' := 119) dm_X12_keep_118 (g_iald (v := (0 : Int32)) (lu (n := 102) (j := 11) hn rfl) rfl (by decide) rfl (Nat.le_of_ble_eq_true rfl)) rfl rfl rfl ?_
  refine me3 (pc' := 120) dm_X12_keep_119 (u_iast (n := 102) (j := 13) hn rfl rfl (by decide) rfl (Nat.le_of_ble_eq_true rfl)) rfl rfl rfl ?_
  refine me1 (pc' := 123) (L' := [(2, .int (28 : Int32)), (0, .ref 102), (1, .int (1 : Int32))]) dm_X12_keep_120 rfl rfl rfl rfl ?_
  refine me2 (pc' := 40) dm_X12_keep_123 rfl rfl rfl ?_
  refine me1 (pc' := 41) dm_X12_keep_40 rfl rfl rfl rfl ?_
  refine me0 (pc' := 43) (S' := .int (40 : Int32) :: _) dm_X12_keep_41 rfl rfl rfl rfl ?_
  refine me_2f (pc' := 46) dm_X12_keep_43 rfl (by decide) rfl ?_
  refine me1 (pc' := 47) dm_X12_keep_46 rfl rfl rfl rfl ?_
  refine me3 (pc' := 50) dm_X12_keep_47 (g_get (v := .ref 114) (lu (n := 102) (j := 0) hn rfl) rfl rfl (Nat.le_of_ble_eq_true rfl)) rfl rfl rfl ?_
  refine me0 (pc' := 52) (S' := .int (80 : Int32) :: _) dm_X12_keep_50 rfl rfl rfl rfl ?_
  refine me1 (pc' := 53) dm_X12_keep_52 rfl rfl rfl rfl ?_
  refine me0 (pc' := 54) (S' := .int (80 : Int32) :: _) dm_X12_keep_53 rfl rfl rfl rfl ?_
  refine me1 (pc' := 55) dm_X12_keep_54 rfl rfl rfl rfl ?_
  refine me0 (pc' := 56) (S' := .int (108 : Int32) :: _) dm_X12_keep_55 rfl rfl rfl rfl ?_
  refine me1 (pc' := 57) dm_X12_keep_56 rfl rfl rfl rfl ?_
  refine me3 (pc' := 60) dm_X12_keep_57 (g_get (v := .ref 110) (lu (n := 102) (j := 0) hn rfl) rfl rfl (Nat.le_of_ble_eq_true rfl)) rfl rfl rfl ?_
  refine me1 (pc' := 61) dm_X12_keep_60 rfl rfl rfl rfl ?_
  refine me3 (pc' := 62) dm_X12_keep_61 (g_lald (v := (0 : Int64)) (lu (n := 102) (j := 8) hn rfl) rfl (by decide) rfl (Nat.le_of_ble_eq_true rfl)) rfl rfl rfl ?_
  refine me3 (pc' := 63) dm_X12_keep_62 (u_last (n := 102) (j := 12) hn rfl rfl (by decide) rfl (Nat.le_of_ble_eq_true rfl)) rfl rfl rfl ?_
  refine me1 (pc' := 64) dm_X12_keep_63 rfl rfl rfl rfl ?_
  refine me3 (pc' := 67) dm_X12_keep_64 (g_get (v := .ref 115) (lu (n := 102) (j := 0) hn rfl) rfl rfl (Nat.le_of_ble_eq_true rfl)) rfl rfl rfl ?_
  refine me0 (pc' := 69) (S' := .int (80 : Int32) :: _) dm_X12_keep_67 rfl rfl rfl rfl ?_
  refine me1 (pc' := 70) dm_X12_keep_69 rfl rfl rfl rfl ?_
  refine me0 (pc' := 71) (S' := .int (80 : Int32) :: _) dm_X12_keep_70 rfl rfl rfl rfl ?_
  refine me1 (pc' := 72) dm_X12_keep_71 rfl rfl rfl rfl ?_
  refine me0 (pc' := 73) (S' := .int (108 : Int32) :: _) dm_X12_keep_72 rfl rfl rfl rfl ?_
  refine me1 (pc' := 74) dm_X12_keep_73 rfl rfl rfl rfl ?_
  refine me3 (pc' := 77) dm_X12_keep_74 (g_get (v := .ref 112) (lu (n := 102) (j := 0) hn rfl) rfl rfl (Nat.le_of_ble_eq_true rfl)) rfl rfl rfl ?_
  refine me1 (pc' := 78) dm_X12_keep_77 rfl rfl rfl rfl ?_
  refine me3 (pc' := 79) dm_X12_keep_78 (g_iald (v := (0 : Int32)) (lu (n := 102) (j := 10) hn rfl) rfl (by decide) rfl (Nat.le_of_ble_eq_true rfl)) rfl rfl rfl ?_
  refine me3 (pc' := 80) dm_X12_keep_79 (u_iast (n := 102) (j := 13) hn rfl rfl (by decide) rfl (Nat.le_of_ble_eq_true rfl)) rfl rfl rfl ?_
  refine me1 (pc' := 81) dm_X12_keep_80 rfl rfl rfl rfl ?_
  refine me3 (pc' := 84) dm_X12_keep_81 (g_get (v := .ref 114) (lu (n := 102) (j := 0) hn rfl) rfl rfl (Nat.le_of_ble_eq_true rfl)) rfl rfl rfl ?_
  refine me0 (pc' := 86) (S' := .int (80 : Int32) :: _) dm_X12_keep_84 rfl rfl rfl rfl ?_
  refine me1 (pc' := 87) dm_X12_keep_86 rfl rfl rfl rfl ?_
  refine me0 (pc' := 88) (S' := .int (80 : Int32) :: _) dm_X12_keep_87 rfl rfl rfl rfl ?_
  refine me0 (pc' := 90) (S' := .int (40 : Int32) :: _) dm_X12_keep_88 rfl rfl rfl rfl ?_
  refine me0 (pc' := 91) (S' := .int (120 : Int32) :: _) dm_X12_keep_90 rfl rfl rfl rfl ?_
  refine me1 (pc' := 92) dm_X12_keep_91 rfl rfl rfl rfl ?_
  refine me0 (pc' := 93) (S' := .int (148 : Int32) :: _) dm_X12_keep_92 rfl rfl rfl rfl ?_
  refine me1 (pc' := 94) dm_X12_keep_93 rfl rfl rfl rfl ?_
  refine me3 (pc' := 97) dm_X12_keep_94 (g_get (v := .ref 111) (lu (n := 102) (j := 0) hn rfl) rfl rfl (Nat.le_of_ble_eq_true rfl)) rfl rfl rfl ?_
  refine me1 (pc' := 98) dm_X12_keep_97 rfl rfl rfl rfl ?_
  refine me3 (pc' := 99) dm_X12_keep_98 (g_lald (v := (0 : Int64)) (lu (n := 102) (j := 9) hn rfl) rfl (by decide) rfl (Nat.le_of_ble_eq_true rfl)) rfl rfl rfl ?_
  refine me3 (pc' := 100) dm_X12_keep_99 (u_last (n := 102) (j := 12) hn rfl rfl (by decide) rfl (Nat.le_of_ble_eq_true rfl)) rfl rfl rfl ?_
  refine me1 (pc' := 101) dm_X12_keep_100 rfl rfl rfl rfl ?_
  refine me3 (pc' := 104) dm_X12_keep_101 (g_get (v := .ref 115) (lu (n := 102) (j := 0) hn rfl) rfl rfl (Nat.le_of_ble_eq_true rfl)) rfl rfl rfl ?_
  refine me0 (pc' := 106) (S' := .int (80 : Int32) :: _) dm_X12_keep_104 rfl rfl rfl rfl ?_
  refine me1 (pc' := 107) dm_X12_keep_106 rfl rfl rfl rfl ?_
  refine me0 (pc' := 108) (S' := .int (80 : Int32) :: _) dm_X12_keep_107 rfl rfl rfl rfl ?_
  refine me0 (pc' := 110) (S' := .int (40 : Int32) :: _) dm_X12_keep_108 rfl rfl rfl rfl ?_
  refine me0 (pc' := 111) (S' := .int (120 : Int32) :: _) dm_X12_keep_110 rfl rfl rfl rfl ?_
  refine me1 (pc' := 112) dm_X12_keep_111 rfl rfl rfl rfl ?_
  refine me0 (pc' := 113) (S' := .int (148 : Int32) :: _) dm_X12_keep_112 rfl rfl rfl rfl ?_
  refine me1 (pc' := 114) dm_X12_keep_113 rfl rfl rfl rfl ?_
  refine me3 (pc' := 117) dm_X12_keep_114 (g_get (v := .ref 113) (lu (n := 102) (j := 0) hn rfl) rfl rfl (Nat.le_of_ble_eq_true rfl)) rfl rfl rfl ?_
  refine me1 (pc' := 118) dm_X12_keep_117 rfl rfl rfl rfl ?_
  refine me3 (pc' := 119) dm_X12_keep_118 (g_iald (v := (0 : Int32)) (lu (n := 102) (j := 11) hn rfl) rfl (by decide) rfl (Nat.le_of_ble_eq_true rfl)) rfl rfl rfl ?_
  refine me3 (pc' := 120) dm_X12_keep_119 (u_iast (n := 102) (j := 13) hn rfl rfl (by decide) rfl (Nat.le_of_ble_eq_true rfl)) rfl rfl rfl ?_
  refine me1 (pc' := 123) (L' := [(2, .int (29 : Int32)), (0, .ref 102), (1, .int (1 : Int32))]) dm_X12_keep_120 rfl rfl rfl rfl ?_
  refine me2 (pc' := 40) dm_X12_keep_123 rfl rfl rfl ?_
  refine me1 (pc' := 41) dm_X12_keep_40 rfl rfl rfl rfl ?_
  refine me0 (pc' := 43) (S' := .int (40 : Int32) :: _) dm_X12_keep_41 rfl rfl rfl rfl ?_
  refine me_2f (pc' := 46) dm_X12_keep_43 rfl (by decide) rfl ?_
  refine me1 (pc' := 47) dm_X12_keep_46 rfl rfl rfl rfl ?_
  refine me3 (pc' := 50) dm_X12_keep_47 (g_get (v := .ref 114) (lu (n := 102) (j := 0) hn rfl) rfl rfl (Nat.le_of_ble_eq_true rfl)) rfl rfl rfl ?_
  refine me0 (pc' := 52) (S' := .int (80 : Int32) :: _) dm_X12_keep_50 rfl rfl rfl rfl ?_
  refine me1 (pc' := 53) dm_X12_keep_52 rfl rfl rfl rfl ?_
  refine me0 (pc' := 54) (S' := .int (80 : Int32) :: _) dm_X12_keep_53 rfl rfl rfl rfl ?_
  refine me1 (pc' := 55) dm_X12_keep_54 rfl rfl rfl rfl ?_
  refine me0 (pc' := 56) (S' := .int (109 : Int32) :: _) dm_X12_keep_55 rfl rfl rfl rfl ?_
  refine me1 (pc' := 57) dm_X12_keep_56 rfl rfl rfl rfl ?_
  refine me3 (pc' := 60) dm_X12_keep_57 (g_get (v := .ref 110) (lu (n := 102) (j := 0) hn rfl) rfl rfl (Nat.le_of_ble_eq_true rfl)) rfl rfl rfl ?_
  refine me1 (pc' := 61) dm_X12_keep_60 rfl rfl rfl rfl ?_
  refine me3 (pc' := 62) dm_X12_keep_61 (g_lald (v := (0 : Int64)) (lu (n := 102) (j := 8) hn rfl) rfl (by decide) rfl (Nat.le_of_ble_eq_true rfl)) rfl rfl rfl ?_
  refine me3 (pc' := 63) dm_X12_keep_62 (u_last (n := 102) (j := 12) hn rfl rfl (by decide) rfl (Nat.le_of_ble_eq_true rfl)) rfl rfl rfl ?_
  refine me1 (pc' := 64) dm_X12_keep_63 rfl rfl rfl rfl ?_
  refine me3 (pc' := 67) dm_X12_keep_64 (g_get (v := .ref 115) (lu (n := 102) (j := 0) hn rfl) rfl rfl (Nat.le_of_ble_eq_true rfl)) rfl rfl rfl ?_
  refine me0 (pc' := 69) (S' := .int (80 : Int32) :: _) dm_X12_keep_67 rfl rfl rfl rfl ?_
  refine me1 (pc' := 70) dm_X12_keep_69 rfl rfl rfl rfl ?_
  refine me0 (pc' := 71) (S' := .int (80 : Int32) :: _) dm_X12_keep_70 rfl rfl rfl rfl ?_
  refine me1 (pc' := 72) dm_X12_keep_71 rfl rfl rfl rfl ?_
  refine me0 (pc' := 73) (S' := .int (109 : Int32) :: _) dm_X12_keep_72 rfl rfl rfl rfl ?_
  refine me1 (pc' := 74) dm_X12_keep_73 rfl rfl rfl rfl ?_
  refine me3 (pc' := 77) dm_X12_keep_74 (g_get (v := .ref 112) (lu (n := 102) (j := 0) hn rfl) rfl rfl (Nat.le_of_ble_eq_true rfl)) rfl rfl rfl ?_
  refine me1 (pc' := 78) dm_X12_keep_77 rfl rfl rfl rfl ?_
  refine me3 (pc' := 79) dm_X12_keep_78 (g_iald (v := (0 : Int32)) (lu (n := 102) (j := 10) hn rfl) rfl (by decide) rfl (Nat.le_of_ble_eq_true rfl)) rfl rfl rfl ?_
  refine me3 (pc' := 80) dm_X12_keep_79 (u_iast (n := 102) (j := 13) hn rfl rfl (by decide) rfl (Nat.le_of_ble_eq_true rfl)) rfl rfl rfl ?_
  refine me1 (pc' := 81) dm_X12_keep_80 rfl rfl rfl rfl ?_
  refine me3 (pc' := 84) dm_X12_keep_81 (g_get (v := .ref 114) (lu (n := 102) (j := 0) hn rfl) rfl rfl (Nat.le_of_ble_eq_true rfl)) rfl rfl rfl ?_
  refine me0 (pc' := 86) (S' := .int (80 : Int32) :: _) dm_X12_keep_84 rfl rfl rfl rfl ?_
  refine me1 (pc' := 87) dm_X12_keep_86 rfl rfl rfl rfl ?_
  refine me0 (pc' := 88) (S' := .int (80 : Int32) :: _) dm_X12_keep_87 rfl rfl rfl rfl ?_
  refine me0 (pc' := 90) (S' := .int (40 : Int32) :: _) dm_X12_keep_88 rfl rfl rfl rfl ?_
  refine me0 (pc' := 91) (S' := .int (120 : Int32) :: _) dm_X12_keep_90 rfl rfl rfl rfl ?_
  refine me1 (pc' := 92) dm_X12_keep_91 rfl rfl rfl rfl ?_
  refine me0 (pc' := 93) (S' := .int (149 : Int32) :: _) dm_X12_keep_92 rfl rfl rfl rfl ?_
  refine me1 (pc' := 94) dm_X12_keep_93 rfl rfl rfl rfl ?_
  refine me3 (pc' := 97) dm_X12_keep_94 (g_get (v := .ref 111) (lu (n := 102) (j := 0) hn rfl) rfl rfl (Nat.le_of_ble_eq_true rfl)) rfl rfl rfl ?_
  refine me1 (pc' := 98) dm_X12_keep_97 rfl rfl rfl rfl ?_
  refine me3 (pc' := 99) dm_X12_keep_98 (g_lald (v := (0 : Int64)) (lu (n := 102) (j := 9) hn rfl) rfl (by decide) rfl (Nat.le_of_ble_eq_true rfl)) rfl rfl rfl ?_
  refine me3 (pc' := 100) dm_X12_keep_99 (u_last (n := 102) (j := 12) hn rfl rfl (by decide) rfl (Nat.le_of_ble_eq_true rfl)) rfl rfl rfl ?_
  refine me1 (pc' := 101) dm_X12_keep_100 rfl rfl rfl rfl ?_
  refine me3 (pc' := 104) dm_X12_keep_101 (g_get (v := .ref 115) (lu (n := 102) (j := 0) hn rfl) rfl rfl (Nat.le_of_ble_eq_true rfl)) rfl rfl rfl ?_
  refine me0 (pc' := 106) (S' := .int (80 : Int32) :: _) dm_X12_keep_104 rfl rfl rfl rfl ?_
  refine me1 (pc' := 107) dm_X12_keep_106 rfl rfl rfl rfl ?_
  refine me0 (pc' := 108) (S' := .int (80 : Int32) :: _) dm_X12_keep_107 rfl rfl rfl rfl ?_
  refine me0 (pc' := 110) (S' := .int (40 : Int32) :: _) dm_X12_keep_108 rfl rfl rfl rfl ?_
  refine me0 (pc' := 111) (S' := .int (120 : Int32) :: _) dm_X12_keep_110 rfl rfl rfl rfl ?_
  refine me1 (pc' := 112) dm_X12_keep_111 rfl rfl rfl rfl ?_
  refine me0 (pc' := 113) (S' := .int (149 : Int32) :: _) dm_X12_keep_112 rfl rfl rfl rfl ?_
  refine me1 (pc' := 114) dm_X12_keep_113 rfl rfl rfl rfl ?_
  refine me3 (pc' := 117) dm_X12_keep_114 (g_get (v := .ref 113) (lu (n := 102) (j := 0) hn rfl) rfl rfl (Nat.le_of_ble_eq_true rfl)) rfl rfl rfl ?_
  refine me1 (pc' := 118) dm_X12_keep_117 rfl rfl rfl rfl ?_
  refine me3 (pc' := 119) dm_X12_keep_118 (g_iald (v := (0 : Int32)) (lu (n := 102) (j := 11) hn rfl) rfl (by decide) rfl (Nat.le_of_ble_eq_true rfl)) rfl rfl rfl ?_
  refine me3 (pc' := 120) dm_X12_keep_119 (u_iast (n := 102) (j := 13) hn rfl rfl (by decide) rfl (Nat.le_of_ble_eq_true rfl)) rfl rfl rfl ?_
  refine me1 (pc' := 123) (L' := [(2, .int (30 : Int32)), (0, .ref 102), (1, .int (1 : Int32))]) dm_X12_keep_120 rfl rfl rfl rfl ?_
  refine me2 (pc' := 40) dm_X12_keep_123 rfl rfl rfl ?_
  refine me1 (pc' := 41) dm_X12_keep_40 rfl rfl rfl rfl ?_
  refine me0 (pc' := 43) (S' := .int (40 : Int32) :: _) dm_X12_keep_41 rfl rfl rfl rfl ?_
  refine me_2f (pc' := 46) dm_X12_keep_43 rfl (by decide) rfl ?_
  refine me1 (pc' := 47) dm_X12_keep_46 rfl rfl rfl rfl ?_
  refine me3 (pc' := 50) dm_X12_keep_47 (g_get (v := .ref 114) (lu (n := 102) (j := 0) hn rfl) rfl rfl (Nat.le_of_ble_eq_true rfl)) rfl rfl rfl ?_
  refine me0 (pc' := 52) (S' := .int (80 : Int32) :: _) dm_X12_keep_50 rfl rfl rfl rfl ?_
  refine me1 (pc' := 53) dm_X12_keep_52 rfl rfl rfl rfl ?_
  refine me0 (pc' := 54) (S' := .int (80 : Int32) :: _) dm_X12_keep_53 rfl rfl rfl rfl ?_
  refine me1 (pc' := 55) dm_X12_keep_54 rfl rfl rfl rfl ?_
  refine me0 (pc' := 56) (S' := .int (110 : Int32) :: _) dm_X12_keep_55 rfl rfl rfl rfl ?_
  refine me1 (pc' := 57) dm_X12_keep_56 rfl rfl rfl rfl ?_
  refine me3 (pc' := 60) dm_X12_keep_57 (g_get (v := .ref 110) (lu (n := 102) (j := 0) hn rfl) rfl rfl (Nat.le_of_ble_eq_true rfl)) rfl rfl rfl ?_
  refine me1 (pc' := 61) dm_X12_keep_60 rfl rfl rfl rfl ?_
  refine me3 (pc' := 62) dm_X12_keep_61 (g_lald (v := (0 : Int64)) (lu (n := 102) (j := 8) hn rfl) rfl (by decide) rfl (Nat.le_of_ble_eq_true rfl)) rfl rfl rfl ?_
  refine me3 (pc' := 63) dm_X12_keep_62 (u_last (n := 102) (j := 12) hn rfl rfl (by decide) rfl (Nat.le_of_ble_eq_true rfl)) rfl rfl rfl ?_
  refine me1 (pc' := 64) dm_X12_keep_63 rfl rfl rfl rfl ?_
  refine me3 (pc' := 67) dm_X12_keep_64 (g_get (v := .ref 115) (lu (n := 102) (j := 0) hn rfl) rfl rfl (Nat.le_of_ble_eq_true rfl)) rfl rfl rfl ?_
  refine me0 (pc' := 69) (S' := .int (80 : Int32) :: _) dm_X12_keep_67 rfl rfl rfl rfl ?_
  refine me1 (pc' := 70) dm_X12_keep_69 rfl rfl rfl rfl ?_
  refine me0 (pc' := 71) (S' := .int (80 : Int32) :: _) dm_X12_keep_70 rfl rfl rfl rfl ?_
  refine me1 (pc' := 72) dm_X12_keep_71 rfl rfl rfl rfl ?_
  refine me0 (pc' := 73) (S' := .int (110 : Int32) :: _) dm_X12_keep_72 rfl rfl rfl rfl ?_
  refine me1 (pc' := 74) dm_X12_keep_73 rfl rfl rfl rfl ?_
  refine me3 (pc' := 77) dm_X12_keep_74 (g_get (v := .ref 112) (lu (n := 102) (j := 0) hn rfl) rfl rfl (Nat.le_of_ble_eq_true rfl)) rfl rfl rfl ?_
  refine me1 (pc' := 78) dm_X12_keep_77 rfl rfl rfl rfl ?_
  refine me3 (pc' := 79) dm_X12_keep_78 (g_iald (v := (0 : Int32)) (lu (n := 102) (j := 10) hn rfl) rfl (by decide) rfl (Nat.le_of_ble_eq_true rfl)) rfl rfl rfl ?_
  refine me3 (pc' := 80) dm_X12_keep_79 (u_iast (n := 102) (j := 13) hn rfl rfl (by decide) rfl (Nat.le_of_ble_eq_true rfl)) rfl rfl rfl ?_
  refine me1 (pc' := 81) dm_X12_keep_80 rfl rfl rfl rfl ?_
  refine me3 (pc' := 84) dm_X12_keep_81 (g_get (v := .ref 114) (lu (n := 102) (j := 0) hn rfl) rfl rfl (Nat.le_of_ble_eq_true rfl)) rfl rfl rfl ?_
  refine me0 (pc' := 86) (S' := .int (80 : Int32) :: _) dm_X12_keep_84 rfl rfl rfl rfl ?_
  refine me1 (pc' := 87) dm_X12_keep_86 rfl rfl rfl rfl ?_
  refine me0 (pc' := 88) (S' := .int (80 : Int32) :: _) dm_X12_keep_87 rfl rfl rfl rfl ?_
  refine me0 (pc' := 90) (S' := .int (40 : Int32) :: _) dm_X12_keep_88 rfl rfl rfl rfl ?_
  refine me0 (pc' := 91) (S' := .int (120 : Int32) :: _) dm_X12_keep_90 rfl rfl rfl rfl ?_
  refine me1 (pc' := 92) dm_X12_keep_91 rfl rfl rfl rfl ?_
  refine me0 (pc' := 93) (S' := .int (150 : Int32) :: _) dm_X12_keep_92 rfl rfl rfl rfl ?_
  refine me1 (pc' := 94) dm_X12_keep_93 rfl rfl rfl rfl ?_
  refine me3 (pc' := 97) dm_X12_keep_94 (g_get (v := .ref 111) (lu (n := 102) (j := 0) hn rfl) rfl rfl (Nat.le_of_ble_eq_true rfl)) rfl rfl rfl ?_
  refine me1 (pc' := 98) dm_X12_keep_97 rfl rfl rfl rfl ?_
  refine me3 (pc' := 99) dm_X12_keep_98 (g_lald (v := (0 : Int64)) (lu (n := 102) (j := 9) hn rfl) rfl (by decide) rfl (Nat.le_of_ble_eq_true rfl)) rfl rfl rfl ?_
  refine me3 (pc' := 100) dm_X12_keep_99 (u_last (n := 102) (j := 12) hn rfl rfl (by decide) rfl (Nat.le_of_ble_eq_true rfl)) rfl rfl rfl ?_
  refine me1 (pc' := 101) dm_X12_keep_100 rfl rfl rfl rfl ?_
  refine me3 (pc' := 104) dm_X12_keep_101 (g_get (v := .ref 115) (lu (n := 102) (j := 0) hn rfl) rfl rfl (Nat.le_of_ble_eq_true rfl)) rfl rfl rfl ?_
  refine me0 (pc' := 106) (S' := .int (80 : Int32) :: _) dm_X12_keep_104 rfl rfl rfl rfl ?_
  refine me1 (pc' := 107) dm_X12_keep_106 rfl rfl rfl rfl ?_
  refine me0 (pc' := 108) (S' := .int (80 : Int32) :: _) dm_X12_keep_107 rfl rfl rfl rfl ?_
  refine me0 (pc' := 110) (S' := .int (40 : Int32) :: _) dm_X12_keep_108 rfl rfl rfl rfl ?_
  refine me0 (pc' := 111) (S' := .int (120 : Int32) :: _) dm_X12_keep_110 rfl rfl rfl rfl ?_
  refine me1 (pc' := 112) dm_X12_keep_111 rfl rfl rfl rfl ?_
  refine me0 (pc' := 113) (S' := .int (150 : Int32) :: _) dm_X12_keep_112 rfl rfl rfl rfl ?_
  refine me1 (pc' := 114) dm_X12_keep_113 rfl rfl rfl rfl ?_
  refine me3 (pc' := 117) dm_X12_keep_114 (g_get (v := .ref 113) (lu (n := 102) (j := 0) hn rfl) rfl rfl (Nat.le_of_ble_eq_true rfl)) rfl rfl rfl ?_
  refine me1 (pc' := 118) dm_X12_keep_117 rfl rfl rfl rfl ?_
  refine me3 (pc' := 119) dm_X12_keep_118 (g_iald (v := (0 : Int32)) (lu (n := 102) (j := 11) hn rfl) rfl (by decide) rfl (Nat.le_of_ble_eq_true rfl)) rfl rfl rfl ?_
  refine me3 (pc' := 120) dm_X12_keep_119 (u_iast (n := 102) (j := 13) hn rfl rfl (by decide) rfl (Nat.le_of_ble_eq_true rfl)) rfl rfl rfl ?_
  refine me1 (pc' := 123) (L' := [(2, .int (31 : Int32)), (0, .ref 102), (1, .int (1 : Int32))]) dm_X12_keep_120 rfl rfl rfl rfl ?_
  refine me2 (pc' := 40) dm_X12_keep_123 rfl rfl rfl ?_
  refine me1 (pc' := 41) dm_X12_keep_40 rfl rfl rfl rfl ?_
  refine me0 (pc' := 43) (S' := .int (40 : Int32) :: _) dm_X12_keep_41 rfl rfl rfl rfl ?_
  refine me_2f (pc' := 46) dm_X12_keep_43 rfl (by decide) rfl ?_
  refine me1 (pc' := 47) dm_X12_keep_46 rfl rfl rfl rfl ?_
  refine me3 (pc' := 50) dm_X12_keep_47 (g_get (v := .ref 114) (lu (n := 102) (j := 0) hn rfl) rfl rfl (Nat.le_of_ble_eq_true rfl)) rfl rfl rfl ?_
  refine me0 (pc' := 52) (S' := .int (80 : Int32) :: _) dm_X12_keep_50 rfl rfl rfl rfl ?_
  refine me1 (pc' := 53) dm_X12_keep_52 rfl rfl rfl rfl ?_
  refine me0 (pc' := 54) (S' := .int (80 : Int32) :: _) dm_X12_keep_53 rfl rfl rfl rfl ?_
  refine me1 (pc' := 55) dm_X12_keep_54 rfl rfl rfl rfl ?_
  refine me0 (pc' := 56) (S' := .int (111 : Int32) :: _) dm_X12_keep_55 rfl rfl rfl rfl ?_
  refine me1 (pc' := 57) dm_X12_keep_56 rfl rfl rfl rfl ?_
  refine me3 (pc' := 60) dm_X12_keep_57 (g_get (v := .ref 110) (lu (n := 102) (j := 0) hn rfl) rfl rfl (Nat.le_of_ble_eq_true rfl)) rfl rfl rfl ?_
  refine me1 (pc' := 61) dm_X12_keep_60 rfl rfl rfl rfl ?_
  refine me3 (pc' := 62) dm_X12_keep_61 (g_lald (v := (0 : Int64)) (lu (n := 102) (j := 8) hn rfl) rfl (by decide) rfl (Nat.le_of_ble_eq_true rfl)) rfl rfl rfl ?_
  refine me3 (pc' := 63) dm_X12_keep_62 (u_last (n := 102) (j := 12) hn rfl rfl (by decide) rfl (Nat.le_of_ble_eq_true rfl)) rfl rfl rfl ?_
  refine me1 (pc' := 64) dm_X12_keep_63 rfl rfl rfl rfl ?_
  refine me3 (pc' := 67) dm_X12_keep_64 (g_get (v := .ref 115) (lu (n := 102) (j := 0) hn rfl) rfl rfl (Nat.le_of_ble_eq_true rfl)) rfl rfl rfl ?_
  refine me0 (pc' := 69) (S' := .int (80 : Int32) :: _) dm_X12_keep_67 rfl rfl rfl rfl ?_
  refine me1 (pc' := 70) dm_X12_keep_69 rfl rfl rfl rfl ?_
  refine me0 (pc' := 71) (S' := .int (80 : Int32) :: _) dm_X12_keep_70 rfl rfl rfl rfl ?_
  refine me1 (pc' := 72) dm_X12_keep_71 rfl rfl rfl rfl ?_
  refine me0 (pc' := 73) (S' := .int (111 : Int32) :: _) dm_X12_keep_72 rfl rfl rfl rfl ?_
  refine me1 (pc' := 74) dm_X12_keep_73 rfl rfl rfl rfl ?_
  refine me3 (pc' := 77) dm_X12_keep_74 (g_get (v := .ref 112) (lu (n := 102) (j := 0) hn rfl) rfl rfl (Nat.le_of_ble_eq_true rfl)) rfl rfl rfl ?_
  refine me1 (pc' := 78) dm_X12_keep_77 rfl rfl rfl rfl ?_
  refine me3 (pc' := 79) dm_X12_keep_78 (g_iald (v := (0 : Int32)) (lu (n := 102) (j := 10) hn rfl) rfl (by decide) rfl (Nat.le_of_ble_eq_true rfl)) rfl rfl rfl ?_
  refine me3 (pc' := 80) dm_X12_keep_79 (u_iast (n := 102) (j := 13) hn rfl rfl (by decide) rfl (Nat.le_of_ble_eq_true rfl)) rfl rfl rfl ?_
  refine me1 (pc' := 81) dm_X12_keep_80 rfl rfl rfl rfl ?_
  refine me3 (pc' := 84) dm_X12_keep_81 (g_get (v := .ref 114) (lu (n := 102) (j := 0) hn rfl) rfl rfl (Nat.le_of_ble_eq_true rfl)) rfl rfl rfl ?_
  refine me0 (pc' := 86) (S' := .int (80 : Int32) :: _) dm_X12_keep_84 rfl rfl rfl rfl ?_
  refine me1 (pc' := 87) dm_X12_keep_86 rfl rfl rfl rfl ?_
  refine me0 (pc' := 88) (S' := .int (80 : Int32) :: _) dm_X12_keep_87 rfl rfl rfl rfl ?_
  refine me0 (pc' := 90) (S' := .int (40 : Int32) :: _) dm_X12_keep_88 rfl rfl rfl rfl ?_
  refine me0 (pc' := 91) (S' := .int (120 : Int32) :: _) dm_X12_keep_90 rfl rfl rfl rfl ?_
  refine me1 (pc' := 92) dm_X12_keep_91 rfl rfl rfl rfl ?_
  refine me0 (pc' := 93) (S' := .int (151 : Int32) :: _) dm_X12_keep_92 rfl rfl rfl rfl ?_
  refine me1 (pc' := 94) dm_X12_keep_93 rfl rfl rfl rfl ?_
  refine me3 (pc' := 97) dm_X12_keep_94 (g_get (v := .ref 111) (lu (n := 102) (j := 0) hn rfl) rfl rfl (Nat.le_of_ble_eq_true rfl)) rfl rfl rfl ?_
  refine me1 (pc' := 98) dm_X12_keep_97 rfl rfl rfl rfl ?_
  refine me3 (pc' := 99) dm_X12_keep_98 (g_lald (v := (0 : Int64)) (lu (n := 102) (j := 9) hn rfl) rfl (by decide) rfl (Nat.le_of_ble_eq_true rfl)) rfl rfl rfl ?_
  refine me3 (pc' := 100) dm_X12_keep_99 (u_last (n := 102) (j := 12) hn rfl rfl (by decide) rfl (Nat.le_of_ble_eq_true rfl)) rfl rfl rfl ?_
  refine me1 (pc' := 101) dm_X12_keep_100 rfl rfl rfl rfl ?_
  refine me3 (pc' := 104) dm_X12_keep_101 (g_get (v := .ref 115) (lu (n := 102) (j := 0) hn rfl) rfl rfl (Nat.le_of_ble_eq_true rfl)) rfl rfl rfl ?_
  refine me0 (pc' := 106) (S' := .int (80 : Int32) :: _) dm_X12_keep_104 rfl rfl rfl rfl ?_
  refine me1 (pc' := 107) dm_X12_keep_106 rfl rfl rfl rfl ?_
  refine me0 (pc' := 108) (S' := .int (80 : Int32) :: _) dm_X12_keep_107 rfl rfl rfl rfl ?_
  refine me0 (pc' := 110) (S' := .int (40 : Int32) :: _) dm_X12_keep_108 rfl rfl rfl rfl ?_
  refine me0 (pc' := 111) (S' := .int (120 : Int32) :: _) dm_X12_keep_110 rfl rfl rfl rfl ?_
  refine me1 (pc' := 112) dm_X12_keep_111 rfl rfl rfl rfl ?_
  refine me0 (pc' := 113) (S' := .int (151 : Int32) :: _) dm_X12_keep_112 rfl rfl rfl rfl ?_
  refine me1 (pc' := 114) dm_X12_keep_113 rfl rfl rfl rfl ?_
  refine me3 (pc' := 117) dm_X12_keep_114 (g_get (v := .ref 113) (lu (n := 102) (j := 0) hn rfl) rfl rfl (Nat.le_of_ble_eq_true rfl)) rfl rfl rfl ?_
  refine me1 (pc' := 118) dm_X12_keep_117 rfl rfl rfl rfl ?_
  refine me3 (pc' := 119) dm_X12_keep_118 (g_iald (v := (0 : Int32)) (lu (n := 102) (j := 11) hn rfl) rfl (by decide) rfl (Nat.le_of_ble_eq_true rfl)) rfl rfl rfl ?_
  refine me3 (pc' := 120) dm_X12_keep_119 (u_iast (n := 102) (j := 13) hn rfl rfl (by decide) rfl (Nat.le_of_ble_eq_true rfl)) rfl rfl rfl ?_
  refine me1 (pc' := 123) (L' := [(2, .int (32 : Int32)), (0, .ref 102), (1, .int (1 : Int32))]) dm_X12_keep_120 rfl rfl rfl rfl ?_
  refine me2 (pc' := 40) dm_X12_keep_123 rfl rfl rfl ?_
  refine me1 (pc' := 41) dm_X12_keep_40 rfl rfl rfl rfl ?_
  refine me0 (pc' := 43) (S' := .int (40 : Int32) :: _) dm_X12_keep_41 rfl rfl rfl rfl ?_
  refine me_2f (pc' := 46) dm_X12_keep_43 rfl (by decide) rfl ?_
  refine me1 (pc' := 47) dm_X12_keep_46 rfl rfl rfl rfl ?_
  refine me3 (pc' := 50) dm_X12_keep_47 (g_get (v := .ref 114) (lu (n := 102) (j := 0) hn rfl) rfl rfl (Nat.le_of_ble_eq_true rfl)) rfl rfl rfl ?_
  refine me0 (pc' := 52) (S' := .int (80 : Int32) :: _) dm_X12_keep_50 rfl rfl rfl rfl ?_
  refine me1 (pc' := 53) dm_X12_keep_52 rfl rfl rfl rfl ?_
  refine me0 (pc' := 54) (S' := .int (80 : Int32) :: _) dm_X12_keep_53 rfl rfl rfl rfl ?_
  refine me1 (pc' := 55) dm_X12_keep_54 rfl rfl rfl rfl ?_
  refine me0 (pc' := 56) (S' := .int (112 : Int32) :: _) dm_X12_keep_55 rfl rfl rfl rfl ?_
  refine me1 (pc' := 57) dm_X12_keep_56 rfl rfl rfl rfl ?_
  refine me3 (pc' := 60) dm_X12_keep_57 (g_get (v := .ref 110) (lu (n := 102) (j := 0) hn rfl) rfl rfl (Nat.le_of_ble_eq_true rfl)) rfl rfl rfl ?_
  refine me1 (pc' := 61) dm_X12_keep_60 rfl rfl rfl rfl ?_
  refine me3 (pc' := 62) dm_X12_keep_61 (g_lald (v := (0 : Int64)) (lu (n := 102) (j := 8) hn rfl) rfl (by decide) rfl (Nat.le_of_ble_eq_true rfl)) rfl rfl rfl ?_
  refine me3 (pc' := 63) dm_X12_keep_62 (u_last (n := 102) (j := 12) hn rfl rfl (by decide) rfl (Nat.le_of_ble_eq_true rfl)) rfl rfl rfl ?_
  refine me1 (pc' := 64) dm_X12_keep_63 rfl rfl rfl rfl ?_
  refine me3 (pc' := 67) dm_X12_keep_64 (g_get (v := .ref 115) (lu (n := 102) (j := 0) hn rfl) rfl rfl (Nat.le_of_ble_eq_true rfl)) rfl rfl rfl ?_
  refine me0 (pc' := 69) (S' := .int (80 : Int32) :: _) dm_X12_keep_67 rfl rfl rfl rfl ?_
  refine me1 (pc' := 70) dm_X12_keep_69 rfl rfl rfl rfl ?_
  refine me0 (pc' := 71) (S' := .int (80 : Int32) :: _) dm_X12_keep_70 rfl rfl rfl rfl ?_
  refine me1 (pc' := 72) dm_X12_keep_71 rfl rfl rfl rfl ?_
  refine me0 (pc' := 73) (S' := .int (112 : Int32) :: _) dm_X12_keep_72 rfl rfl rfl rfl ?_
  refine me1 (pc' := 74) dm_X12_keep_73 rfl rfl rfl rfl ?_
  refine me3 (pc' := 77) dm_X12_keep_74 (g_get (v := .ref 112) (lu (n := 102) (j := 0) hn rfl) rfl rfl (Nat.le_of_ble_eq_true rfl)) rfl rfl rfl ?_
  refine me1 (pc' := 78) dm_X12_keep_77 rfl rfl rfl rfl ?_
  refine me3 (pc' := 79) dm_X12_keep_78 (g_iald (v := (0 : Int32)) (lu (n := 102) (j := 10) hn rfl) rfl (by decide) rfl (Nat.le_of_ble_eq_true rfl)) rfl rfl rfl ?_
  refine me3 (pc' := 80) dm_X12_keep_79 (u_iast (n := 102) (j := 13) hn rfl rfl (by decide) rfl (Nat.le_of_ble_eq_true rfl)) rfl rfl rfl ?_
  refine me1 (pc' := 81) dm_X12_keep_80 rfl rfl rfl rfl ?_
  refine me3 (pc' := 84) dm_X12_keep_81 (g_get (v := .ref 114) (lu (n := 102) (j := 0) hn rfl) rfl rfl (Nat.le_of_ble_eq_true rfl)) rfl rfl rfl ?_
  refine me0 (pc' := 86) (S' := .int (80 : Int32) :: _) dm_X12_keep_84 rfl rfl rfl rfl ?_
  refine me1 (pc' := 87) dm_X12_keep_86 rfl rfl rfl rfl ?_
  refine me0 (pc' := 88) (S' := .int (80 : Int32) :: _) dm_X12_keep_87 rfl rfl rfl rfl ?_
  refine me0 (pc' := 90) (S' := .int (40 : Int32) :: _) dm_X12_keep_88 rfl rfl rfl rfl ?_
  refine me0 (pc' := 91) (S' := .int (120 : Int32) :: _) dm_X12_keep_90 rfl rfl rfl rfl ?_
  refine me1 (pc' := 92) dm_X12_keep_91 rfl rfl rfl rfl ?_
  refine me0 (pc' := 93) (S' := .int (152 : Int32) :: _) dm_X12_keep_92 rfl rfl rfl rfl ?_
  refine me1 (pc' := 94) dm_X12_keep_93 rfl rfl rfl rfl ?_
  refine me3 (pc' := 97) dm_X12_keep_94 (g_get (v := .ref 111) (lu (n := 102) (j := 0) hn rfl) rfl rfl (Nat.le_of_ble_eq_true rfl)) rfl rfl rfl ?_
  refine me1 (pc' := 98) dm_X12_keep_97 rfl rfl rfl rfl ?_
  refine me3 (pc' := 99) dm_X12_keep_98 (g_lald (v := (0 : Int64)) (lu (n := 102) (j := 9) hn rfl) rfl (by decide) rfl (Nat.le_of_ble_eq_true rfl)) rfl rfl rfl ?_
  refine me3 (pc' := 100) dm_X12_keep_99 (u_last (n := 102) (j := 12) hn rfl rfl (by decide) rfl (Nat.le_of_ble_eq_true rfl)) rfl rfl rfl ?_
  refine me1 (pc' := 101) dm_X12_keep_100 rfl rfl rfl rfl ?_
  refine me3 (pc' := 104) dm_X12_keep_101 (g_get (v := .ref 115) (lu (n := 102) (j := 0) hn rfl) rfl rfl (Nat.le_of_ble_eq_true rfl)) rfl rfl rfl ?_
  refine me0 (pc' := 106) (S' := .int (80 : Int32) :: _) dm_X12_keep_104 rfl rfl rfl rfl ?_
  refine me1 (pc' := 107) dm_X12_keep_106 rfl rfl rfl rfl ?_
  refine me0 (pc' := 108) (S' := .int (80 : Int32) :: _) dm_X12_keep_107 rfl rfl rfl rfl ?_
  refine me0 (pc' := 110) (S' := .int (40 : Int32) :: _) dm_X12_keep_108 rfl rfl rfl rfl ?_
  refine me0 (pc' := 111) (S' := .int (120 : Int32) :: _) dm_X12_keep_110 rfl rfl rfl rfl ?_
  refine me1 (pc' := 112) dm_X12_keep_111 rfl rfl rfl rfl ?_
  refine me0 (pc' := 113) (S' := .int (152 : Int32) :: _) dm_X12_keep_112 rfl rfl rfl rfl ?_
  refine me1 (pc' := 114) dm_X12_keep_113 rfl rfl rfl rfl ?_
  refine me3 (pc' := 117) dm_X12_keep_114 (g_get (v := .ref 113) (lu (n := 102) (j := 0) hn rfl) rfl rfl (Nat.le_of_ble_eq_true rfl)) rfl rfl rfl ?_
  refine me1 (pc' := 118) dm_X12_keep_117 rfl rfl rfl rfl ?_
  refine me3 (pc' := 119) dm_X12_keep_118 (g_iald (v := (0 : Int32)) (lu (n := 102) (j := 11) hn rfl) rfl (by decide) rfl (Nat.le_of_ble_eq_true rfl)) rfl rfl rfl ?_
  refine me3 (pc' := 120) dm_X12_keep_119 (u_iast (n := 102) (j := 13) hn rfl rfl (by decide) rfl (Nat.le_of_ble_eq_true rfl)) rfl rfl rfl ?_
  refine me1 (pc' := 123) (L' := [(2, .int (33 : Int32)), (0, .ref 102), (1, .int (1 : Int32))]) dm_X12_keep_120 rfl rfl rfl rfl ?_
  refine me2 (pc' := 40) dm_X12_keep_123 rfl rfl rfl ?_
  refine me1 (pc' := 41) dm_X12_keep_40 rfl rfl rfl rfl ?_
  refine me0 (pc' := 43) (S' := .int (40 : Int32) :: _) dm_X12_keep_41 rfl rfl rfl rfl ?_
  refine me_2f (pc' := 46) dm_X12_keep_43 rfl (by decide) rfl ?_
  refine me1 (pc' := 47) dm_X12_keep_46 rfl rfl rfl rfl ?_
  refine me3 (pc' := 50) dm_X12_keep_47 (g_get (v := .ref 114) (lu (n := 102) (j := 0) hn rfl) rfl rfl (Nat.le_of_ble_eq_true rfl)) rfl rfl rfl ?_
  refine me0 (pc' := 52) (S' := .int (80 : Int32) :: _) dm_X12_keep_50 rfl rfl rfl rfl ?_
  refine me1 (pc' := 53) dm_X12_keep_52 rfl rfl rfl rfl ?_
  refine me0 (pc' := 54) (S' := .int (80 : Int32) :: _) dm_X12_keep_53 rfl rfl rfl rfl ?_
  refine me1 (pc' := 55) dm_X12_keep_54 rfl rfl rfl rfl ?_
  refine me0 (pc' := 56) (S' := .int (113 : Int32) :: _) dm_X12_keep_55 rfl rfl rfl rfl ?_
  refine me1 (pc' := 57) dm_X12_keep_56 rfl rfl rfl rfl ?_
  refine me3 (pc' := 60) dm_X12_keep_57 (g_get (v := .ref 110) (lu (n := 102) (j := 0) hn rfl) rfl rfl (Nat.le_of_ble_eq_true rfl)) rfl rfl rfl ?_
  refine me1 (pc' := 61) dm_X12_keep_60 rfl rfl rfl rfl ?_
  refine me3 (pc' := 62) dm_X12_keep_61 (g_lald (v := (0 : Int64)) (lu (n := 102) (j := 8) hn rfl) rfl (by decide) rfl (Nat.le_of_ble_eq_true rfl)) rfl rfl rfl ?_
  refine me3 (pc' := 63) dm_X12_keep_62 (u_last (n := 102) (j := 12) hn rfl rfl (by decide) rfl (Nat.le_of_ble_eq_true rfl)) rfl rfl rfl ?_
  refine me1 (pc' := 64) dm_X12_keep_63 rfl rfl rfl rfl ?_
  refine me3 (pc' := 67) dm_X12_keep_64 (g_get (v := .ref 115) (lu (n := 102) (j := 0) hn rfl) rfl rfl (Nat.le_of_ble_eq_true rfl)) rfl rfl rfl ?_
  refine me0 (pc' := 69) (S' := .int (80 : Int32) :: _) dm_X12_keep_67 rfl rfl rfl rfl ?_
  refine me1 (pc' := 70) dm_X12_keep_69 rfl rfl rfl rfl ?_
  refine me0 (pc' := 71) (S' := .int (80 : Int32) :: _) dm_X12_keep_70 rfl rfl rfl rfl ?_
  refine me1 (pc' := 72) dm_X12_keep_71 rfl rfl rfl rfl ?_
  refine me0 (pc' := 73) (S' := .int (113 : Int32) :: _) dm_X12_keep_72 rfl rfl rfl rfl ?_
  refine me1 (pc' := 74) dm_X12_keep_73 rfl rfl rfl rfl ?_
  refine me3 (pc' := 77) dm_X12_keep_74 (g_get (v := .ref 112) (lu (n := 102) (j := 0) hn rfl) rfl rfl (Nat.le_of_ble_eq_true rfl)) rfl rfl rfl ?_
  refine me1 (pc' := 78) dm_X12_keep_77 rfl rfl rfl rfl ?_
  refine me3 (pc' := 79) dm_X12_keep_78 (g_iald (v := (0 : Int32)) (lu (n := 102) (j := 10) hn rfl) rfl (by decide) rfl (Nat.le_of_ble_eq_true rfl)) rfl rfl rfl ?_
  refine me3 (pc' := 80) dm_X12_keep_79 (u_iast (n := 102) (j := 13) hn rfl rfl (by decide) rfl (Nat.le_of_ble_eq_true rfl)) rfl rfl rfl ?_
  refine me1 (pc' := 81) dm_X12_keep_80 rfl rfl rfl rfl ?_
  refine me3 (pc' := 84) dm_X12_keep_81 (g_get (v := .ref 114) (lu (n := 102) (j := 0) hn rfl) rfl rfl (Nat.le_of_ble_eq_true rfl)) rfl rfl rfl ?_
  refine me0 (pc' := 86) (S' := .int (80 : Int32) :: _) dm_X12_keep_84 rfl rfl rfl rfl ?_
  refine me1 (pc' := 87) dm_X12_keep_86 rfl rfl rfl rfl ?_
  refine me0 (pc' := 88) (S' := .int (80 : Int32) :: _) dm_X12_keep_87 rfl rfl rfl rfl ?_
  refine me0 (pc' := 90) (S' := .int (40 : Int32) :: _) dm_X12_keep_88 rfl rfl rfl rfl ?_
  refine me0 (pc' := 91) (S' := .int (120 : Int32) :: _) dm_X12_keep_90 rfl rfl rfl rfl ?_
  refine me1 (pc' := 92) dm_X12_keep_91 rfl rfl rfl rfl ?_
  refine me0 (pc' := 93) (S' := .int (153 : Int32) :: _) dm_X12_keep_92 rfl rfl rfl rfl ?_
  refine me1 (pc' := 94) dm_X12_keep_93 rfl rfl rfl rfl ?_
  refine me3 (pc' := 97) dm_X12_keep_94 (g_get (v := .ref 111) (lu (n := 102) (j := 0) hn rfl) rfl rfl (Nat.le_of_ble_eq_true rfl)) rfl rfl rfl ?_
  refine me1 (pc' := 98) dm_X12_keep_97 rfl rfl rfl rfl ?_
  refine me3 (pc' := 99) dm_X12_keep_98 (g_lald (v := (0 : Int64)) (lu (n := 102) (j := 9) hn rfl) rfl (by decide) rfl (Nat.le_of_ble_eq_true rfl)) rfl rfl rfl ?_
  refine me3 (pc' := 100) dm_X12_keep_99 (u_last (n := 102) (j := 12) hn rfl rfl (by decide) rfl (Nat.le_of_ble_eq_true rfl)) rfl rfl rfl ?_
  refine me1 (pc' := 101) dm_X12_keep_100 rfl rfl rfl rfl ?_
  refine me3 (pc' := 104) dm_X12_keep_101 (g_get (v := .ref 115) (lu (n := 102) (j := 0) hn rfl) rfl rfl (Nat.le_of_ble_eq_true rfl)) rfl rfl rfl ?_
  refine me0 (pc' := 106) (S' := .int (80 : Int32) :: _) dm_X12_keep_104 rfl rfl rfl rfl ?_
  refine me1 (pc' := 107) dm_X12_keep_106 rfl rfl rfl rfl ?_
  refine me0 (pc' := 108) (S' := .int (80 : Int32) :: _) dm_X12_keep_107 rfl rfl rfl rfl ?_
  refine me0 (pc' := 110) (S' := .int (40 : Int32) :: _) dm_X12_keep_108 rfl rfl rfl rfl ?_
  refine me0 (pc' := 111) (S' := .int (120 : Int32) :: _) dm_X12_keep_110 rfl rfl rfl rfl ?_
  refine me1 (pc' := 112) dm_X12_keep_111 rfl rfl rfl rfl ?_
  refine me0 (pc' := 113) (S' := .int (153 : Int32) :: _) dm_X12_keep_112 rfl rfl rfl rfl ?_
  refine me1 (pc' := 114) dm_X12_keep_113 rfl rfl rfl rfl ?_
  refine me3 (pc' := 117) dm_X12_keep_114 (g_get (v := .ref 113) (lu (n := 102) (j := 0) hn rfl) rfl rfl (Nat.le_of_ble_eq_true rfl)) rfl rfl rfl ?_
  refine me1 (pc' := 118) dm_X12_keep_117 rfl rfl rfl rfl ?_
  refine me3 (pc' := 119) dm_X12_keep_118 (g_iald (v := (0 : Int32)) (lu (n := 102) (j := 11) hn rfl) rfl (by decide) rfl (Nat.le_of_ble_eq_true rfl)) rfl rfl rfl ?_
  refine me3 (pc' := 120) dm_X12_keep_119 (u_iast (n := 102) (j := 13) hn rfl rfl (by decide) rfl (Nat.le_of_ble_eq_true rfl)) rfl rfl rfl ?_
  refine me1 (pc' := 123) (L' := [(2, .int (34 : Int32)), (0, .ref 102), (1, .int (1 : Int32))]) dm_X12_keep_120 rfl rfl rfl rfl ?_
  refine me2 (pc' := 40) dm_X12_keep_123 rfl rfl rfl ?_
  refine me1 (pc' := 41) dm_X12_keep_40 rfl rfl rfl rfl ?_
  refine me0 (pc' := 43) (S' := .int (40 : Int32) :: _) dm_X12_keep_41 rfl rfl rfl rfl ?_
  refine me_2f (pc' := 46) dm_X12_keep_43 rfl (by decide) rfl ?_
  refine me1 (pc' := 47) dm_X12_keep_46 rfl rfl rfl rfl ?_
  refine me3 (pc' := 50) dm_X12_keep_47 (g_get (v := .ref 114) (lu (n := 102) (j := 0) hn rfl) rfl rfl (Nat.le_of_ble_eq_true rfl)) rfl rfl rfl ?_
  refine me0 (pc' := 52) (S' := .int (80 : Int32) :: _) dm_X12_keep_50 rfl rfl rfl rfl ?_
  refine me1 (pc' := 53) dm_X12_keep_52 rfl rfl rfl rfl ?_
  refine me0 (pc' := 54) (S' := .int (80 : Int32) :: _) dm_X12_keep_53 rfl rfl rfl rfl ?_
  refine me1 (pc' := 55) dm_X12_keep_54 rfl rfl rfl rfl ?_
  refine me0 (pc' := 56) (S' := .int (114 : Int32) :: _) dm_X12_keep_55 rfl rfl rfl rfl ?_
  refine me1 (pc' := 57) dm_X12_keep_56 rfl rfl rfl rfl ?_
  refine me3 (pc' := 60) dm_X12_keep_57 (g_get (v := .ref 110) (lu (n := 102) (j := 0) hn rfl) rfl rfl (Nat.le_of_ble_eq_true rfl)) rfl rfl rfl ?_
  refine me1 (pc' := 61) dm_X12_keep_60 rfl rfl rfl rfl ?_
  refine me3 (pc' := 62) dm_X12_keep_61 (g_lald (v := (0 : Int64)) (lu (n := 102) (j := 8) hn rfl) rfl (by decide) rfl (Nat.le_of_ble_eq_true rfl)) rfl rfl rfl ?_
  refine me3 (pc' := 63) dm_X12_keep_62 (u_last (n := 102) (j := 12) hn rfl rfl (by decide) rfl (Nat.le_of_ble_eq_true rfl)) rfl rfl rfl ?_
  refine me1 (pc' := 64) dm_X12_keep_63 rfl rfl rfl rfl ?_
  refine me3 (pc' := 67) dm_X12_keep_64 (g_get (v := .ref 115) (lu (n := 102) (j := 0) hn rfl) rfl rfl (Nat.le_of_ble_eq_true rfl)) rfl rfl rfl ?_
  refine me0 (pc' := 69) (S' := .int (80 : Int32) :: _) dm_X12_keep_67 rfl rfl rfl rfl ?_
  refine me1 (pc' := 70) dm_X12_keep_69 rfl rfl rfl rfl ?_
  refine me0 (pc' := 71) (S' := .int (80 : Int32) :: _) dm_X12_keep_70 rfl rfl rfl rfl ?_
  refine me1 (pc' := 72) dm_X12_keep_71 rfl rfl rfl rfl ?_
  refine me0 (pc' := 73) (S' := .int (114 : Int32) :: _) dm_X12_keep_72 rfl rfl rfl rfl ?_
  refine me1 (pc' := 74) dm_X12_keep_73 rfl rfl rfl rfl ?_
  refine me3 (pc' := 77) dm_X12_keep_74 (g_get (v := .ref 112) (lu (n := 102) (j := 0) hn rfl) rfl rfl (Nat.le_of_ble_eq_true rfl)) rfl rfl rfl ?_
  refine me1 (pc' := 78) dm_X12_keep_77 rfl rfl rfl rfl ?_
  refine me3 (pc' := 79) dm_X12_keep_78 (g_iald (v := (0 : Int32)) (lu (n := 102) (j := 10) hn rfl) rfl (by decide) rfl (Nat.le_of_ble_eq_true rfl)) rfl rfl rfl ?_
  refine me3 (pc' := 80) dm_X12_keep_79 (u_iast (n := 102) (j := 13) hn rfl rfl (by decide) rfl (Nat.le_of_ble_eq_true rfl)) rfl rfl rfl ?_
  refine me1 (pc' := 81) dm_X12_keep_80 rfl rfl rfl rfl ?_
  refine me3 (pc' := 84) dm_X12_keep_81 (g_get (v := .ref 114) (lu (n := 102) (j := 0) hn rfl) rfl rfl (Nat.le_of_ble_eq_true rfl)) rfl rfl rfl ?_
  refine me0 (pc' := 86) (S' := .int (80 : Int32) :: _) dm_X12_keep_84 rfl rfl rfl rfl ?_
  refine me1 (pc' := 87) dm_X12_keep_86 rfl rfl rfl rfl ?_
  refine me0 (pc' := 88) (S' := .int (80 : Int32) :: _) dm_X12_keep_87 rfl rfl rfl rfl ?_
  refine me0 (pc' := 90) (S' := .int (40 : Int32) :: _) dm_X12_keep_88 rfl rfl rfl rfl ?_
  refine me0 (pc' := 91) (S' := .int (120 : Int32) :: _) dm_X12_keep_90 rfl rfl rfl rfl ?_
  refine me1 (pc' := 92) dm_X12_keep_91 rfl rfl rfl rfl ?_
  refine me0 (pc' := 93) (S' := .int (154 : Int32) :: _) dm_X12_keep_92 rfl rfl rfl rfl ?_
  refine me1 (pc' := 94) dm_X12_keep_93 rfl rfl rfl rfl ?_
  refine me3 (pc' := 97) dm_X12_keep_94 (g_get (v := .ref 111) (lu (n := 102) (j := 0) hn rfl) rfl rfl (Nat.le_of_ble_eq_true rfl)) rfl rfl rfl ?_
  refine me1 (pc' := 98) dm_X12_keep_97 rfl rfl rfl rfl ?_
  refine me3 (pc' := 99) dm_X12_keep_98 (g_lald (v := (0 : Int64)) (lu (n := 102) (j := 9) hn rfl) rfl (by decide) rfl (Nat.le_of_ble_eq_true rfl)) rfl rfl rfl ?_
  refine me3 (pc' := 100) dm_X12_keep_99 (u_last (n := 102) (j := 12) hn rfl rfl (by decide) rfl (Nat.le_of_ble_eq_true rfl)) rfl rfl rfl ?_
  refine me1 (pc' := 101) dm_X12_keep_100 rfl rfl rfl rfl ?_
  refine me3 (pc' := 104) dm_X12_keep_101 (g_get (v := .ref 115) (lu (n := 102) (j := 0) hn rfl) rfl rfl (Nat.le_of_ble_eq_true rfl)) rfl rfl rfl ?_
  refine me0 (pc' := 106) (S' := .int (80 : Int32) :: _) dm_X12_keep_104 rfl rfl rfl rfl ?_
  refine me1 (pc' := 107) dm_X12_keep_106 rfl rfl rfl rfl ?_
  refine me0 (pc' := 108) (S' := .int (80 : Int32) :: _) dm_X12_keep_107 rfl rfl rfl rfl ?_
  refine me0 (pc' := 110) (S' := .int (40 : Int32) :: _) dm_X12_keep_108 rfl rfl rfl rfl ?_
  refine me0 (pc' := 111) (S' := .int (120 : Int32) :: _) dm_X12_keep_110 rfl rfl rfl rfl ?_
  refine me1 (pc' := 112) dm_X12_keep_111 rfl rfl rfl rfl ?_
  refine me0 (pc' := 113) (S' := .int (154 : Int32) :: _) dm_X12_keep_112 rfl rfl rfl rfl ?_
  refine me1 (pc' := 114) dm_X12_keep_113 rfl rfl rfl rfl ?_
  refine me3 (pc' := 117) dm_X12_keep_114 (g_get (v := .ref 113) (lu (n := 102) (j := 0) hn rfl) rfl rfl (Nat.le_of_ble_eq_true rfl)) rfl rfl rfl ?_
  refine me1 (pc' := 118) dm_X12_keep_117 rfl rfl rfl rfl ?_
  refine me3 (pc' := 119) dm_X12_keep_118 (g_iald (v := (0 : Int32)) (lu (n := 102) (j := 11) hn rfl) rfl (by decide) rfl (Nat.le_of_ble_eq_true rfl)) rfl rfl rfl ?_
  refine me3 (pc' := 120) dm_X12_keep_119 (u_iast (n := 102) (j := 13) hn rfl rfl (by decide) rfl (Nat.le_of_ble_eq_true rfl)) rfl rfl rfl ?_
  refine me1 (pc' := 123) (L' := [(2, .int (35 : Int32)), (0, .ref 102), (1, .int (1 : Int32))]) dm_X12_keep_120 rfl rfl rfl rfl ?_
  refine me2 (pc' := 40) dm_X12_keep_123 rfl rfl rfl ?_
  refine me1 (pc' := 41) dm_X12_keep_40 rfl rfl rfl rfl ?_
  refine me0 (pc' := 43) (S' := .int (40 : Int32) :: _) dm_X12_keep_41 rfl rfl rfl rfl ?_
  refine me_2f (pc' := 46) dm_X12_keep_43 rfl (by decide) rfl ?_
  refine me1 (pc' := 47) dm_X12_keep_46 rfl rfl rfl rfl ?_
  refine me3 (pc' := 50) dm_X12_keep_47 (g_get (v := .ref 114) (lu (n := 102) (j := 0) hn rfl) rfl rfl (Nat.le_of_ble_eq_true rfl)) rfl rfl rfl ?_
  refine me0 (pc' := 52) (S' := .int (80 : Int32) :: _) dm_X12_keep_50 rfl rfl rfl rfl ?_
  refine me1 (pc' := 53) dm_X12_keep_52 rfl rfl rfl rfl ?_
  refine me0 (pc' := 54) (S' := .int (80 : Int32) :: _) dm_X12_keep_53 rfl rfl rfl rfl ?_
  refine me1 (pc' := 55) dm_X12_keep_54 rfl rfl rfl rfl ?_
  refine me0 (pc' := 56) (S' := .int (115 : Int32) :: _) dm_X12_keep_55 rfl rfl rfl rfl ?_
  refine me1 (pc' := 57) dm_X12_keep_56 rfl rfl rfl rfl ?_
  refine me3 (pc' := 60) dm_X12_keep_57 (g_get (v := .ref 110) (lu (n := 102) (j := 0) hn rfl) rfl rfl (Nat.le_of_ble_eq_true rfl)) rfl rfl rfl ?_
  refine me1 (pc' := 61) dm_X12_keep_60 rfl rfl rfl rfl ?_
  refine me3 (pc' := 62) dm_X12_keep_61 (g_lald (v := (0 : Int64)) (lu (n := 102) (j := 8) hn rfl) rfl (by decide) rfl (Nat.le_of_ble_eq_true rfl)) rfl rfl rfl ?_
  refine me3 (pc' := 63) dm_X12_keep_62 (u_last (n := 102) (j := 12) hn rfl rfl (by decide) rfl (Nat.le_of_ble_eq_true rfl)) rfl rfl rfl ?_
  refine me1 (pc' := 64) dm_X12_keep_63 rfl rfl rfl rfl ?_
  refine me3 (pc' := 67) dm_X12_keep_64 (g_get (v := .ref 115) (lu (n := 102) (j := 0) hn rfl) rfl rfl (Nat.le_of_ble_eq_true rfl)) rfl rfl rfl ?_
  refine me0 (pc' := 69) (S' := .int (80 : Int32) :: _) dm_X12_keep_67 rfl rfl rfl rfl ?_
  refine me1 (pc' := 70) dm_X12_keep_69 rfl rfl rfl rfl ?_
  refine me0 (pc' := 71) (S' := .int (80 : Int32) :: _) dm_X12_keep_70 rfl rfl rfl rfl ?_
  refine me1 (pc' := 72) dm_X12_keep_71 rfl rfl rfl rfl ?_
  refine me0 (pc' := 73) (S' := .int (115 : Int32) :: _) dm_X12_keep_72 rfl rfl rfl rfl ?_
  refine me1 (pc' := 74) dm_X12_keep_73 rfl rfl rfl rfl ?_
  refine me3 (pc' := 77) dm_X12_keep_74 (g_get (v := .ref 112) (lu (n := 102) (j := 0) hn rfl) rfl rfl (Nat.le_of_ble_eq_true rfl)) rfl rfl rfl ?_
  refine me1 (pc' := 78) dm_X12_keep_77 rfl rfl rfl rfl ?_
  refine me3 (pc' := 79) dm_X12_keep_78 (g_iald (v := (0 : Int32)) (lu (n := 102) (j := 10) hn rfl) rfl (by decide) rfl (Nat.le_of_ble_eq_true rfl)) rfl rfl rfl ?_
  refine me3 (pc' := 80) dm_X12_keep_79 (u_iast (n := 102) (j := 13) hn rfl rfl (by decide) rfl (Nat.le_of_ble_eq_true rfl)) rfl rfl rfl ?_
  refine me1 (pc' := 81) dm_X12_keep_80 rfl rfl rfl rfl ?_
  refine me3 (pc' := 84) dm_X12_keep_81 (g_get (v := .ref 114) (lu (n := 102) (j := 0) hn rfl) rfl rfl (Nat.le_of_ble_eq_true rfl)) rfl rfl rfl ?_
  refine me0 (pc' := 86) (S' := .int (80 : Int32) :: _) dm_X12_keep_84 rfl rfl rfl rfl ?_
  refine me1 (pc' := 87) dm_X12_keep_86 rfl rfl rfl rfl ?_
  refine me0 (pc' := 88) (S' := .int (80 : Int32) :: _) dm_X12_keep_87 rfl rfl rfl rfl ?_
  refine me0 (pc' := 90) (S' := .int (40 : Int32) :: _) dm_X12_keep_88 rfl rfl rfl rfl ?_
  refine me0 (pc' := 91) (S' := .int (120 : Int32) :: _) dm_X12_keep_90 rfl rfl rfl rfl ?_
  refine me1 (pc' := 92) dm_X12_keep_91 rfl rfl rfl rfl ?_
  refine me0 (pc' := 93) (S' := .int (155 : Int32) :: _) dm_X12_keep_92 rfl rfl rfl rfl ?_
  refine me1 (pc' := 94) dm_X12_keep_93 rfl rfl rfl rfl ?_
  refine me3 (pc' := 97) dm_X12_keep_94 (g_get (v := .ref 111) (lu (n := 102) (j := 0) hn rfl) rfl rfl (Nat.le_of_ble_eq_true rfl)) rfl rfl rfl ?_
  refine me1 (pc' := 98) dm_X12_keep_97 rfl rfl rfl rfl ?_
  refine me3 (pc' := 99) dm_X12_keep_98 (g_lald (v := (0 : Int64)) (lu (n := 102) (j := 9) hn rfl) rfl (by decide) rfl (Nat.le_of_ble_eq_true rfl)) rfl rfl rfl ?_
  refine me3 (pc' := 100) dm_X12_keep_99 (u_last (n := 102) (j := 12) hn rfl rfl (by decide) rfl (Nat.le_of_ble_eq_true rfl)) rfl rfl rfl ?_
  refine me1 (pc' := 101) dm_X12_keep_100 rfl rfl rfl rfl ?_
  refine me3 (pc' := 104) dm_X12_keep_101 (g_get (v := .ref 115) (lu (n := 102) (j := 0) hn rfl) rfl rfl (Nat.le_of_ble_eq_true rfl)) rfl rfl rfl ?_
  refine me0 (pc' := 106) (S' := .int (80 : Int32) :: _) dm_X12_keep_104 rfl rfl rfl rfl ?_
  refine me1 (pc' := 107) dm_X12_keep_106 rfl rfl rfl rfl ?_
  refine me0 (pc' := 108) (S' := .int (80 : Int32) :: _) dm_X12_keep_107 rfl rfl rfl rfl ?_
  refine me0 (pc' := 110) (S' := .int (40 : Int32) :: _) dm_X12_keep_108 rfl rfl rfl rfl ?_
  refine me0 (pc' := 111) (S' := .int (120 : Int32) :: _) dm_X12_keep_110 rfl rfl rfl rfl ?_
  refine me1 (pc' := 112) dm_X12_keep_111 rfl rfl rfl rfl ?_
  refine me0 (pc' := 113) (S' := .int (155 : Int32) :: _) dm_X12_keep_112 rfl rfl rfl rfl ?_
  refine me1 (pc' := 114) dm_X12_keep_113 rfl rfl rfl rfl ?_
  refine me3 (pc' := 117) dm_X12_keep_114 (g_get (v := .ref 113) (lu (n := 102) (j := 0) hn rfl) rfl rfl (Nat.le_of_ble_eq_true rfl)) rfl rfl rfl ?_
  refine me1 (pc' := 118) dm_X12_keep_117 rfl rfl rfl rfl ?_
  refine me3 (pc' := 119) dm_X12_keep_118 (g_iald (v := (0 : Int32)) (lu (n := 102) (j := 11) hn rfl) rfl (by decide) rfl (Nat.le_of_ble_eq_true rfl)) rfl rfl rfl ?_
  refine me3 (pc' := 120) dm_X12_keep_119 (u_iast (n := 102) (j := 13) hn rfl rfl (by decide) rfl (Nat.le_of_ble_eq_true rfl)) rfl rfl rfl ?_
  refine me1 (pc' := 123) (L' := [(2, .int (36 : Int32)), (0, .ref 102), (1, .int (1 : Int32))]) dm_X12_keep_120 rfl rfl rfl rfl ?_
  refine me2 (pc' := 40) dm_X12_keep_123 rfl rfl rfl ?_
  refine me1 (pc' := 41) dm_X12_keep_40 rfl rfl rfl rfl ?_
  refine me0 (pc' := 43) (S' := .int (40 : Int32) :: _) dm_X12_keep_41 rfl rfl rfl rfl ?_
  refine me_2f (pc' := 46) dm_X12_keep_43 rfl (by decide) rfl ?_
  refine me1 (pc' := 47) dm_X12_keep_46 rfl rfl rfl rfl ?_
  refine me3 (pc' := 50) dm_X12_keep_47 (g_get (v := .ref 114) (lu (n := 102) (j := 0) hn rfl) rfl rfl (Nat.le_of_ble_eq_true rfl)) rfl rfl rfl ?_
  refine me0 (pc' := 52) (S' := .int (80 : Int32) :: _) dm_X12_keep_50 rfl rfl rfl rfl ?_
  refine me1 (pc' := 53) dm_X12_keep_52 rfl rfl rfl rfl ?_
  refine me0 (pc' := 54) (S' := .int (80 : Int32) :: _) dm_X12_keep_53 rfl rfl rfl rfl ?_
  refine me1 (pc' := 55) dm_X12_keep_54 rfl rfl rfl rfl ?_
  refine me0 (pc' := 56) (S' := .int (116 : Int32) :: _) dm_X12_keep_55 rfl rfl rfl rfl ?_
  refine me1 (pc' := 57) dm_X12_keep_56 rfl rfl rfl rfl ?_
  refine me3 (pc' := 60) dm_X12_keep_57 (g_get (v := .ref 110) (lu (n := 102) (j := 0) hn rfl) rfl rfl (Nat.le_of_ble_eq_true rfl)) rfl rfl rfl ?_
  refine me1 (pc' := 61) dm_X12_keep_60 rfl rfl rfl rfl ?_
  refine me3 (pc' := 62) dm_X12_keep_61 (g_lald (v := (0 : Int64)) (lu (n := 102) (j := 8) hn rfl) rfl (by decide) rfl (Nat.le_of_ble_eq_true rfl)) rfl rfl rfl ?_
  refine me3 (pc' := 63) dm_X12_keep_62 (u_last (n := 102) (j := 12) hn rfl rfl (by decide) rfl (Nat.le_of_ble_eq_true rfl)) rfl rfl rfl ?_
  refine me1 (pc' := 64) dm_X12_keep_63 rfl rfl rfl rfl ?_
  refine me3 (pc' := 67) dm_X12_keep_64 (g_get (v := .ref 115) (lu (n := 102) (j := 0) hn rfl) rfl rfl (Nat.le_of_ble_eq_true rfl)) rfl rfl rfl ?_
  refine me0 (pc' := 69) (S' := .int (80 : Int32) :: _) dm_X12_keep_67 rfl rfl rfl rfl ?_
  refine me1 (pc' := 70) dm_X12_keep_69 rfl rfl rfl rfl ?_
  refine me0 (pc' := 71) (S' := .int (80 : Int32) :: _) dm_X12_keep_70 rfl rfl rfl rfl ?_
  refine me1 (pc' := 72) dm_X12_keep_71 rfl rfl rfl rfl ?_
  refine me0 (pc' := 73) (S' := .int (116 : Int32) :: _) dm_X12_keep_72 rfl rfl rfl rfl ?_
  refine me1 (pc' := 74) dm_X12_keep_73 rfl rfl rfl rfl ?_
  refine me3 (pc' := 77) dm_X12_keep_74 (g_get (v := .ref 112) (lu (n := 102) (j := 0) hn rfl) rfl rfl (Nat.le_of_ble_eq_true rfl)) rfl rfl rfl ?_
  refine me1 (pc' := 78) dm_X12_keep_77 rfl rfl rfl rfl ?_
  refine me3 (pc' := 79) dm_X12_keep_78 (g_iald (v := (0 : Int32)) (lu (n := 102) (j := 10) hn rfl) rfl (by decide) rfl (Nat.le_of_ble_eq_true rfl)) rfl rfl rfl ?_
  refine me3 (pc' := 80) dm_X12_keep_79 (u_iast (n := 102) (j := 13) hn rfl rfl (by decide) rfl (Nat.le_of_ble_eq_true rfl)) rfl rfl rfl ?_
  refine me1 (pc' := 81) dm_X12_keep_80 rfl rfl rfl rfl ?_
  refine me3 (pc' := 84) dm_X12_keep_81 (g_get (v := .ref 114) (lu (n := 102) (j := 0) hn rfl) rfl rfl (Nat.le_of_ble_eq_true rfl)) rfl rfl rfl ?_
  refine me0 (pc' := 86) (S' := .int (80 : Int32) :: _) dm_X12_keep_84 rfl rfl rfl rfl ?_
  refine me1 (pc' := 87) dm_X12_keep_86 rfl rfl rfl rfl ?_
  refine me0 (pc' := 88) (S' := .int (80 : Int32) :: _) dm_X12_keep_87 rfl rfl rfl rfl ?_
  refine me0 (pc' := 90) (S' := .int (40 : Int32) :: _) dm_X12_keep_88 rfl rfl rfl rfl ?_
  refine me0 (pc' := 91) (S' := .int (120 : Int32) :: _) dm_X12_keep_90 rfl rfl rfl rfl ?_
  refine me1 (pc' := 92) dm_X12_keep_91 rfl rfl rfl rfl ?_
  refine me0 (pc' := 93) (S' := .int (156 : Int32) :: _) dm_X12_keep_92 rfl rfl rfl rfl ?_
  refine me1 (pc' := 94) dm_X12_keep_93 rfl rfl rfl rfl ?_
  refine me3 (pc' := 97) dm_X12_keep_94 (g_get (v := .ref 111) (lu (n := 102) (j := 0) hn rfl) rfl rfl (Nat.le_of_ble_eq_true rfl)) rfl rfl rfl ?_
  refine me1 (pc' := 98) dm_X12_keep_97 rfl rfl rfl rfl ?_
  refine me3 (pc' := 99) dm_X12_keep_98 (g_lald (v := (0 : Int64)) (lu (n := 102) (j := 9) hn rfl) rfl (by decide) rfl (Nat.le_of_ble_eq_true rfl)) rfl rfl rfl ?_
  refine me3 (pc' := 100) dm_X12_keep_99 (u_last (n := 102) (j := 12) hn rfl rfl (by decide) rfl (Nat.le_of_ble_eq_true rfl)) rfl rfl rfl ?_
  refine me1 (pc' := 101) dm_X12_keep_100 rfl rfl rfl rfl ?_
  refine me3 (pc' := 104) dm_X12_keep_101 (g_get (v := .ref 115) (lu (n := 102) (j := 0) hn rfl) rfl rfl (Nat.le_of_ble_eq_true rfl)) rfl rfl rfl ?_
  refine me0 (pc' := 106) (S' := .int (80 : Int32) :: _) dm_X12_keep_104 rfl rfl rfl rfl ?_
  refine me1 (pc' := 107) dm_X12_keep_106 rfl rfl rfl rfl ?_
  refine me0 (pc' := 108) (S' := .int (80 : Int32) :: _) dm_X12_keep_107 rfl rfl rfl rfl ?_
  refine me0 (pc' := 110) (S' := .int (40 : Int32) :: _) dm_X12_keep_108 rfl rfl rfl rfl ?_
  refine me0 (pc' := 111) (S' := .int (120 : Int32) :: _) dm_X12_keep_110 rfl rfl rfl rfl ?_
  refine me1 (pc' := 112) dm_X12_keep_111 rfl rfl rfl rfl ?_
  refine me0 (pc' := 113) (S' := .int (156 : Int32) :: _) dm_X12_keep_112 rfl rfl rfl rfl ?_
  refine me1 (pc' := 114) dm_X12_keep_113 rfl rfl rfl rfl ?_
  refine me3 (pc' := 117) dm_X12_keep_114 (g_get (v := .ref 113) (lu (n := 102) (j := 0) hn rfl) rfl rfl (Nat.le_of_ble_eq_true rfl)) rfl rfl rfl ?_
  refine me1 (pc' := 118) dm_X12_keep_117 rfl rfl rfl rfl ?_
  refine me3 (pc' := 119) dm_X12_keep_118 (g_iald (v := (0 : Int32)) (lu (n := 102) (j := 11) hn rfl) rfl (by decide) rfl (Nat.le_of_ble_eq_true rfl)) rfl rfl rfl ?_
  refine me3 (pc' := 120) dm_X12_keep_119 (u_iast (n := 102) (j := 13) hn rfl rfl (by decide) rfl (Nat.le_of_ble_eq_true rfl)) rfl rfl rfl ?_
  refine me1 (pc' := 123) (L' := [(2, .int (37 : Int32)), (0, .ref 102), (1, .int (1 : Int32))]) dm_X12_keep_120 rfl rfl rfl rfl ?_
  refine me2 (pc' := 40) dm_X12_keep_123 rfl rfl rfl ?_
  refine me1 (pc' := 41) dm_X12_keep_40 rfl rfl rfl rfl ?_
  refine me0 (pc' := 43) (S' := .int (40 : Int32) :: _) dm_X12_keep_41 rfl rfl rfl rfl ?_
  refine me_2f (pc' := 46) dm_X12_keep_43 rfl (by decide) rfl ?_
  refine me1 (pc' := 47) dm_X12_keep_46 rfl rfl rfl rfl ?_
  refine me3 (pc' := 50) dm_X12_keep_47 (g_get (v := .ref 114) (lu (n := 102) (j := 0) hn rfl) rfl rfl (Nat.le_of_ble_eq_true rfl)) rfl rfl rfl ?_
  refine me0 (pc' := 52) (S' := .int (80 : Int32) :: _) dm_X12_keep_50 rfl rfl rfl rfl ?_
  refine me1 (pc' := 53) dm_X12_keep_52 rfl rfl rfl rfl ?_
  refine me0 (pc' := 54) (S' := .int (80 : Int32) :: _) dm_X12_keep_53 rfl rfl rfl rfl ?_
  refine me1 (pc' := 55) dm_X12_keep_54 rfl rfl rfl rfl ?_
  refine me0 (pc' := 56) (S' := .int (117 : Int32) :: _) dm_X12_keep_55 rfl rfl rfl rfl ?_
  refine me1 (pc' := 57) dm_X12_keep_56 rfl rfl rfl rfl ?_
  refine me3 (pc' := 60) dm_X12_keep_57 (g_get (v := .ref 110) (lu (n := 102) (j := 0) hn rfl) rfl rfl (Nat.le_of_ble_eq_true rfl)) rfl rfl rfl ?_
  refine me1 (pc' := 61) dm_X12_keep_60 rfl rfl rfl rfl ?_
  refine me3 (pc' := 62) dm_X12_keep_61 (g_lald (v := (0 : Int64)) (lu (n := 102) (j := 8) hn rfl) rfl (by decide) rfl (Nat.le_of_ble_eq_true rfl)) rfl rfl rfl ?_
  refine me3 (pc' := 63) dm_X12_keep_62 (u_last (n := 102) (j := 12) hn rfl rfl (by decide) rfl (Nat.le_of_ble_eq_true rfl)) rfl rfl rfl ?_
  refine me1 (pc' := 64) dm_X12_keep_63 rfl rfl rfl rfl ?_
  refine me3 (pc' := 67) dm_X12_keep_64 (g_get (v := .ref 115) (lu (n := 102) (j := 0) hn rfl) rfl rfl (Nat.le_of_ble_eq_true rfl)) rfl rfl rfl ?_
  refine me0 (pc' := 69) (S' := .int (80 : Int32) :: _) dm_X12_keep_67 rfl rfl rfl rfl ?_
  refine me1 (pc' := 70) dm_X12_keep_69 rfl rfl rfl rfl ?_
  refine me0 (pc' := 71) (S' := .int (80 : Int32) :: _) dm_X12_keep_70 rfl rfl rfl rfl ?_
  refine me1 (pc' := 72) dm_X12_keep_71 rfl rfl rfl rfl ?_
  refine me0 (pc' := 73) (S' := .int (117 : Int32) :: _) dm_X12_keep_72 rfl rfl rfl rfl ?_
  refine me1 (pc' := 74) dm_X12_keep_73 rfl rfl rfl rfl ?_
  refine me3 (pc' := 77) dm_X12_keep_74 (g_get (v := .ref 112) (lu (n := 102) (j := 0) hn rfl) rfl rfl (Nat.le_of_ble_eq_true rfl)) rfl rfl rfl ?_
  refine me1 (pc' := 78) dm_X12_keep_77 rfl rfl rfl rfl ?_
  refine me3 (pc' := 79) dm_X12_keep_78 (g_iald (v := (0 : Int32)) (lu (n := 102) (j := 10) hn rfl) rfl (by decide) rfl (Nat.le_of_ble_eq_true rfl)) rfl rfl rfl ?_
  refine me3 (pc' := 80) dm_X12_keep_79 (u_iast (n := 102) (j := 13) hn rfl rfl (by decide) rfl (Nat.le_of_ble_eq_true rfl)) rfl rfl rfl ?_
  refine me1 (pc' := 81) dm_X12_keep_80 rfl rfl rfl rfl ?_
  refine me3 (pc' := 84) dm_X12_keep_81 (g_get (v := .ref 114) (lu (n := 102) (j := 0) hn rfl) rfl rfl (Nat.le_of_ble_eq_true rfl)) rfl rfl rfl ?_
  refine me0 (pc' := 86) (S' := .int (80 : Int32) :: _) dm_X12_keep_84 rfl rfl rfl rfl ?_
  refine me1 (pc' := 87) dm_X12_keep_86 rfl rfl rfl rfl ?_
  refine me0 (pc' := 88) (S' := .int (80 : Int32) :: _) dm_X12_keep_87 rfl rfl rfl rfl ?_
  refine me0 (pc' := 90) (S' := .int (40 : Int32) :: _) dm_X12_keep_88 rfl rfl rfl rfl ?_
  refine me0 (pc' := 91) (S' := .int (120 : Int32) :: _) dm_X12_keep_90 rfl rfl rfl rfl ?_
  refine me1 (pc' := 92) dm_X12_keep_91 rfl rfl rfl rfl ?_
  refine me0 (pc' := 93) (S' := .int (157 : Int32) :: _) dm_X12_keep_92 rfl rfl rfl rfl ?_
  refine me1 (pc' := 94) dm_X12_keep_93 rfl rfl rfl rfl ?_
  refine me3 (pc' := 97) dm_X12_keep_94 (g_get (v := .ref 111) (lu (n := 102) (j := 0) hn rfl) rfl rfl (Nat.le_of_ble_eq_true rfl)) rfl rfl rfl ?_
  refine me1 (pc' := 98) dm_X12_keep_97 rfl rfl rfl rfl ?_
  refine me3 (pc' := 99) dm_X12_keep_98 (g_lald (v := (0 : Int64)) (lu (n := 102) (j := 9) hn rfl) rfl (by decide) rfl (Nat.le_of_ble_eq_true rfl)) rfl rfl rfl ?_
  refine me3 (pc' := 100) dm_X12_keep_99 (u_last (n := 102) (j := 12) hn rfl rfl (by decide) rfl (Nat.le_of_ble_eq_true rfl)) rfl rfl rfl ?_
  refine me1 (pc' := 101) dm_X12_keep_100 rfl rfl rfl rfl ?_
  refine me3 (pc' := 104) dm_X12_keep_101 (g_get (v := .ref 115) (lu (n := 102) (j := 0) hn rfl) rfl rfl (Nat.le_of_ble_eq_true rfl)) rfl rfl rfl ?_
  refine me0 (pc' := 106) (S' := .int (80 : Int32) :: _) dm_X12_keep_104 rfl rfl rfl rfl ?_
  refine me1 (pc' := 107) dm_X12_keep_106 rfl rfl rfl rfl ?_
  refine me0 (pc' := 108) (S' := .int (80 : Int32) :: _) dm_X12_keep_107 rfl rfl rfl rfl ?_
  refine me0 (pc' := 110) (S' := .int (40 : Int32) :: _) dm_X12_keep_108 rfl rfl rfl rfl ?_
  refine me0 (pc' := 111) (S' := .int (120 : Int32) :: _) dm_X12_keep_110 rfl rfl rfl rfl ?_
  refine me1 (pc' := 112) dm_X12_keep_111 rfl rfl rfl rfl ?_
  refine me0 (pc' := 113) (S' := .int (157 : Int32) :: _) dm_X12_keep_112 rfl rfl rfl rfl ?_
  refine me1 (pc' := 114) dm_X12_keep_113 rfl rfl rfl rfl ?_
  refine me3 (pc' := 117) dm_X12_keep_114 (g_get (v := .ref 113) (lu (n := 102) (j := 0) hn rfl) rfl rfl (Nat.le_of_ble_eq_true rfl)) rfl rfl rfl ?_
  refine me1 (pc' := 118) dm_X12_keep_117 rfl rfl rfl rfl ?_
  refine me3 (pc' := 119) dm_X12_keep_118 (g_iald (v := (0 : Int32)) (lu (n := 102) (j := 11) hn rfl) rfl (by decide) rfl (Nat.le_of_ble_eq_true rfl)) rfl rfl rfl ?_
  refine me3 (pc' := 120) dm_X12_keep_119 (u_iast (n := 102) (j := 13) hn rfl rfl (by decide) rfl (Nat.le_of_ble_eq_true rfl)) rfl rfl rfl ?_
  refine me1 (pc' := 123) (L' := [(2, .int (38 : Int32)), (0, .ref 102), (1, .int (1 : Int32))]) dm_X12_keep_120 rfl rfl rfl rfl ?_
  refine me2 (pc' := 40) dm_X12_keep_123 rfl rfl rfl ?_
  refine me1 (pc' := 41) dm_X12_keep_40 rfl rfl rfl rfl ?_
  refine me0 (pc' := 43) (S' := .int (40 : Int32) :: _) dm_X12_keep_41 rfl rfl rfl rfl ?_
  refine me_2f (pc' := 46) dm_X12_keep_43 rfl (by decide) rfl ?_
  refine me1 (pc' := 47) dm_X12_keep_46 rfl rfl rfl rfl ?_
  refine me3 (pc' := 50) dm_X12_keep_47 (g_get (v := .ref 114) (lu (n := 102) (j := 0) hn rfl) rfl rfl (Nat.le_of_ble_eq_true rfl)) rfl rfl rfl ?_
  refine me0 (pc' := 52) (S' := .int (80 : Int32) :: _) dm_X12_keep_50 rfl rfl rfl rfl ?_
  refine me1 (pc' := 53) dm_X12_keep_52 rfl rfl rfl rfl ?_
  refine me0 (pc' := 54) (S' := .int (80 : Int32) :: _) dm_X12_keep_53 rfl rfl rfl rfl ?_
  refine me1 (pc' := 55) dm_X12_keep_54 rfl rfl rfl rfl ?_
  refine me0 (pc' := 56) (S' := .int (118 : Int32) :: _) dm_X12_keep_55 rfl rfl rfl rfl ?_
  refine me1 (pc' := 57) dm_X12_keep_56 rfl rfl rfl rfl ?_
  refine me3 (pc' := 60) dm_X12_keep_57 (g_get (v := .ref 110) (lu (n := 102) (j := 0) hn rfl) rfl rfl (Nat.le_of_ble_eq_true rfl)) rfl rfl rfl ?_
  refine me1 (pc' := 61) dm_X12_keep_60 rfl rfl rfl rfl ?_
  refine me3 (pc' := 62) dm_X12_keep_61 (g_lald (v := (0 : Int64)) (lu (n := 102) (j := 8) hn rfl) rfl (by decide) rfl (Nat.le_of_ble_eq_true rfl)) rfl rfl rfl ?_
  refine me3 (pc' := 63) dm_X12_keep_62 (u_last (n := 102) (j := 12) hn rfl rfl (by decide) rfl (Nat.le_of_ble_eq_true rfl)) rfl rfl rfl ?_
  refine me1 (pc' := 64) dm_X12_keep_63 rfl rfl rfl rfl ?_
  refine me3 (pc' := 67) dm_X12_keep_64 (g_get (v := .ref 115) (lu (n := 102) (j := 0) hn rfl) rfl rfl (Nat.le_of_ble_eq_true rfl)) rfl rfl rfl ?_
  refine me0 (pc' := 69) (S' := .int (80 : Int32) :: _) dm_X12_keep_67 rfl rfl rfl rfl ?_
  refine me1 (pc' := 70) dm_X12_keep_69 rfl rfl rfl rfl ?_
  refine me0 (pc' := 71) (S' := .int (80 : Int32) :: _) dm_X12_keep_70 rfl rfl rfl rfl ?_
  refine me1 (pc' := 72) dm_X12_keep_71 rfl rfl rfl rfl ?_
  refine me0 (pc' := 73) (S' := .int (118 : Int32) :: _) dm_X12_keep_72 rfl rfl rfl rfl ?_
  refine me1 (pc' := 74) dm_X12_keep_73 rfl rfl rfl rfl ?_
  refine me3 (pc' := 77) dm_X12_keep_74 (g_get (v := .ref 112) (lu (n := 102) (j := 0) hn rfl) rfl rfl (Nat.le_of_ble_eq_true rfl)) rfl rfl rfl ?_
  refine me1 (pc' := 78) dm_X12_keep_77 rfl rfl rfl rfl ?_
  refine me3 (pc' := 79) dm_X12_keep_78 (g_iald (v := (0 : Int32)) (lu (n := 102) (j := 10) hn rfl) rfl (by decide) rfl (Nat.le_of_ble_eq_true rfl)) rfl rfl rfl ?_
  refine me3 (pc' := 80) dm_X12_keep_79 (u_iast (n := 102) (j := 13) hn rfl rfl (by decide) rfl (Nat.le_of_ble_eq_true rfl)) rfl rfl rfl ?_
  refine me1 (pc' := 81) dm_X12_keep_80 rfl rfl rfl rfl ?_
  refine me3 (pc' := 84) dm_X12_keep_81 (g_get (v := .ref 114) (lu (n := 102) (j := 0) hn rfl) rfl rfl (Nat.le_of_ble_eq_true rfl)) rfl rfl rfl ?_
  refine me0 (pc' := 86) (S' := .int (80 : Int32) :: _) dm_X12_keep_84 rfl rfl rfl rfl ?_
  refine me1 (pc' := 87) dm_X12_keep_86 rfl rfl rfl rfl ?_
  refine me0 (pc' := 88) (S' := .int (80 : Int32) :: _) dm_X12_keep_87 rfl rfl rfl rfl ?_
  refine me0 (pc' := 90) (S' := .int (40 : Int32) :: _) dm_X12_keep_88 rfl rfl rfl rfl ?_
  refine me0 (pc' := 91) (S' := .int (120 : Int32) :: _) dm_X12_keep_90 rfl rfl rfl rfl ?_
  refine me1 (pc' := 92) dm_X12_keep_91 rfl rfl rfl rfl ?_
  refine me0 (pc' := 93) (S' := .int (158 : Int32) :: _) dm_X12_keep_92 rfl rfl rfl rfl ?_
  refine me1 (pc' := 94) dm_X12_keep_93 rfl rfl rfl rfl ?_
  refine me3 (pc' := 97) dm_X12_keep_94 (g_get (v := .ref 111) (lu (n := 102) (j := 0) hn rfl) rfl rfl (Nat.le_of_ble_eq_true rfl)) rfl rfl rfl ?_
  refine me1 (pc' := 98) dm_X12_keep_97 rfl rfl rfl rfl ?_
  refine me3 (pc' := 99) dm_X12_keep_98 (g_lald (v := (0 : Int64)) (lu (n := 102) (j := 9) hn rfl) rfl (by decide) rfl (Nat.le_of_ble_eq_true rfl)) rfl rfl rfl ?_
  refine me3 (pc' := 100) dm_X12_keep_99 (u_last (n := 102) (j := 12) hn rfl rfl (by decide) rfl (Nat.le_of_ble_eq_true rfl)) rfl rfl rfl ?_
  refine me1 (pc' := 101) dm_X12_keep_100 rfl rfl rfl rfl ?_
  refine me3 (pc' := 104) dm_X12_keep_101 (g_get (v := .ref 115) (lu (n := 102) (j := 0) hn rfl) rfl rfl (Nat.le_of_ble_eq_true rfl)) rfl rfl rfl ?_
  refine me0 (pc' := 106) (S' := .int (80 : Int32) :: _) dm_X12_keep_104 rfl rfl rfl rfl ?_
  refine me1 (pc' := 107) dm_X12_keep_106 rfl rfl rfl rfl ?_
  refine me0 (pc' := 108) (S' := .int (80 : Int32) :: _) dm_X12_keep_107 rfl rfl rfl rfl ?_
  refine me0 (pc' := 110) (S' := .int (40 : Int32) :: _) dm_X12_keep_108 rfl rfl rfl rfl ?_
  refine me0 (pc' := 111) (S' := .int (120 : Int32) :: _) dm_X12_keep_110 rfl rfl rfl rfl ?_
  refine me1 (pc' := 112) dm_X12_keep_111 rfl rfl rfl rfl ?_
  refine me0 (pc' := 113) (S' := .int (158 : Int32) :: _) dm_X12_keep_112 rfl rfl rfl rfl ?_
  refine me1 (pc' := 114) dm_X12_keep_113 rfl rfl rfl rfl ?_
  refine me3 (pc' := 117) dm_X12_keep_114 (g_get (v := .ref 113) (lu (n := 102) (j := 0) hn rfl) rfl rfl (Nat.le_of_ble_eq_true rfl)) rfl rfl rfl ?_
  refine me1 (pc' := 118) dm_X12_keep_117 rfl rfl rfl rfl ?_
  refine me3 (pc' := 119) dm_X12_keep_118 (g_iald (v := (0 : Int32)) (lu (n := 102) (j := 11) hn rfl) rfl (by decide) rfl (Nat.le_of_ble_eq_true rfl)) rfl rfl rfl ?_
  refine me3 (pc' := 120) dm_X12_keep_119 (u_iast (n := 102) (j := 13) hn rfl rfl (by decide) rfl (Nat.le_of_ble_eq_true rfl)) rfl rfl rfl ?_
  refine me1 (pc' := 123) (L' := [(2, .int (39 : Int32)), (0, .ref 102), (1, .int (1 : Int32))]) dm_X12_keep_120 rfl rfl rfl rfl ?_
  refine me2 (pc' := 40) dm_X12_keep_123 rfl rfl rfl ?_
  refine me1 (pc' := 41) dm_X12_keep_40 rfl rfl rfl rfl ?_
  refine me0 (pc' := 43) (S' := .int (40 : Int32) :: _) dm_X12_keep_41 rfl rfl rfl rfl ?_
  refine me_2f (pc' := 46) dm_X12_keep_43 rfl (by decide) rfl ?_
  refine me1 (pc' := 47) dm_X12_keep_46 rfl rfl rfl rfl ?_
  refine me3 (pc' := 50) dm_X12_keep_47 (g_get (v := .ref 114) (lu (n := 102) (j := 0) hn rfl) rfl rfl (Nat.le_of_ble_eq_true rfl)) rfl rfl rfl ?_
  refine me0 (pc' := 52) (S' := .int (80 : Int32) :: _) dm_X12_keep_50 rfl rfl rfl rfl ?_
  refine me1 (pc' := 53) dm_X12_keep_52 rfl rfl rfl rfl ?_
  refine me0 (pc' := 54) (S' := .int (80 : Int32) :: _) dm_X12_keep_53 rfl rfl rfl rfl ?_
  refine me1 (pc' := 55) dm_X12_keep_54 rfl rfl rfl rfl ?_
  refine me0 (pc' := 56) (S' := .int (119 : Int32) :: _) dm_X12_keep_55 rfl rfl rfl rfl ?_
  refine me1 (pc' := 57) dm_X12_keep_56 rfl rfl rfl rfl ?_
  refine me3 (pc' := 60) dm_X12_keep_57 (g_get (v := .ref 110) (lu (n := 102) (j := 0) hn rfl) rfl rfl (Nat.le_of_ble_eq_true rfl)) rfl rfl rfl ?_
  refine me1 (pc' := 61) dm_X12_keep_60 rfl rfl rfl rfl ?_
  refine me3 (pc' := 62) dm_X12_keep_61 (g_lald (v := (0 : Int64)) (lu (n := 102) (j := 8) hn rfl) rfl (by decide) rfl (Nat.le_of_ble_eq_true rfl)) rfl rfl rfl ?_
  refine me3 (pc' := 63) dm_X12_keep_62 (u_last (n := 102) (j := 12) hn rfl rfl (by decide) rfl (Nat.le_of_ble_eq_true rfl)) rfl rfl rfl ?_
  refine me1 (pc' := 64) dm_X12_keep_63 rfl rfl rfl rfl ?_
  refine me3 (pc' := 67) dm_X12_keep_64 (g_get (v := .ref 115) (lu (n := 102) (j := 0) hn rfl) rfl rfl (Nat.le_of_ble_eq_true rfl)) rfl rfl rfl ?_
  refine me0 (pc' := 69) (S' := .int (80 : Int32) :: _) dm_X12_keep_67 rfl rfl rfl rfl ?_
  refine me1 (pc' := 70) dm_X12_keep_69 rfl rfl rfl rfl ?_
  refine me0 (pc' := 71) (S' := .int (80 : Int32) :: _) dm_X12_keep_70 rfl rfl rfl rfl ?_
  refine me1 (pc' := 72) dm_X12_keep_71 rfl rfl rfl rfl ?_
  refine me0 (pc' := 73) (S' := .int (119 : Int32) :: _) dm_X12_keep_72 rfl rfl rfl rfl ?_
  refine me1 (pc' := 74) dm_X12_keep_73 rfl rfl rfl rfl ?_
  refine me3 (pc' := 77) dm_X12_keep_74 (g_get (v := .ref 112) (lu (n := 102) (j := 0) hn rfl) rfl rfl (Nat.le_of_ble_eq_true rfl)) rfl rfl rfl ?_
  refine me1 (pc' := 78) dm_X12_keep_77 rfl rfl rfl rfl ?_
  refine me3 (pc' := 79) dm_X12_keep_78 (g_iald (v := (0 : Int32)) (lu (n := 102) (j := 10) hn rfl) rfl (by decide) rfl (Nat.le_of_ble_eq_true rfl)) rfl rfl rfl ?_
  refine me3 (pc' := 80) dm_X12_keep_79 (u_iast (n := 102) (j := 13) hn rfl rfl (by decide) rfl (Nat.le_of_ble_eq_true rfl)) rfl rfl rfl ?_
  refine me1 (pc' := 81) dm_X12_keep_80 rfl rfl rfl rfl ?_
  refine me3 (pc' := 84) dm_X12_keep_81 (g_get (v := .ref 114) (lu (n := 102) (j := 0) hn rfl) rfl rfl (Nat.le_of_ble_eq_true rfl)) rfl rfl rfl ?_
  refine me0 (pc' := 86) (S' := .int (80 : Int32) :: _) dm_X12_keep_84 rfl rfl rfl rfl ?_
  refine me1 (pc' := 87) dm_X12_keep_86 rfl rfl rfl rfl ?_
  refine me0 (pc' := 88) (S' := .int (80 : Int32) :: _) dm_X12_keep_87 rfl rfl rfl rfl ?_
  refine me0 (pc' := 90) (S' := .int (40 : Int32) :: _) dm_X12_keep_88 rfl rfl rfl rfl ?_
  refine me0 (pc' := 91) (S' := .int (120 : Int32) :: _) dm_X12_keep_90 rfl rfl rfl rfl ?_
  refine me1 (pc' := 92) dm_X12_keep_91 rfl rfl rfl rfl ?_
  refine me0 (pc' := 93) (S' := .int (159 : Int32) :: _) dm_X12_keep_92 rfl rfl rfl rfl ?_
  refine me1 (pc' := 94) dm_X12_keep_93 rfl rfl rfl rfl ?_
  refine me3 (pc' := 97) dm_X12_keep_94 (g_get (v := .ref 111) (lu (n := 102) (j := 0) hn rfl) rfl rfl (Nat.le_of_ble_eq_true rfl)) rfl rfl rfl ?_
  refine me1 (pc' := 98) dm_X12_keep_97 rfl rfl rfl rfl ?_
  refine me3 (pc' := 99) dm_X12_keep_98 (g_lald (v := (0 : Int64)) (lu (n := 102) (j := 9) hn rfl) rfl (by decide) rfl (Nat.le_of_ble_eq_true rfl)) rfl rfl rfl ?_
  refine me3 (pc' := 100) dm_X12_keep_99 (u_last (n := 102) (j := 12) hn rfl rfl (by decide) rfl (Nat.le_of_ble_eq_true rfl)) rfl rfl rfl ?_
  refine me1 (pc' := 101) dm_X12_keep_100 rfl rfl rfl rfl ?_
  refine me3 (pc' := 104) dm_X12_keep_101 (g_get (v := .ref 115) (lu (n := 102) (j := 0) hn rfl) rfl rfl (Nat.le_of_ble_eq_true rfl)) rfl rfl rfl ?_
  refine me0 (pc' := 106) (S' := .int (80 : Int32) :: _) dm_X12_keep_104 rfl rfl rfl rfl ?_
  refine me1 (pc' := 107) dm_X12_keep_106 rfl rfl rfl rfl ?_
  refine me0 (pc' := 108) (S' := .int (80 : Int32) :: _) dm_X12_keep_107 rfl rfl rfl rfl ?_
  refine me0 (pc' := 110) (S' := .int (40 : Int32) :: _) dm_X12_keep_108 rfl rfl rfl rfl ?_
  refine me0 (pc' := 111) (S' := .int (120 : Int32) :: _) dm_X12_keep_110 rfl rfl rfl rfl ?_
  refine me1 (pc' := 112) dm_X12_keep_111 rfl rfl rfl rfl ?_
  refine me0 (pc' := 113) (S' := .int (159 : Int32) :: _) dm_X12_keep_112 rfl rfl rfl rfl ?_
  refine me1 (pc' := 114) dm_X12_keep_113 rfl rfl rfl rfl ?_
  refine me3 (pc' := 117) dm_X12_keep_114 (g_get (v := .ref 113) (lu (n := 102) (j := 0) hn rfl) rfl rfl (Nat.le_of_ble_eq_true rfl)) rfl rfl rfl ?_
  refine me1 (pc' := 118) dm_X12_keep_117 rfl rfl rfl rfl ?_
  refine me3 (pc' := 119) dm_X12_keep_118 (g_iald (v := (0 : Int32)) (lu (n := 102) (j := 11) hn rfl) rfl (by decide) rfl (Nat.le_of_ble_eq_true rfl)) rfl rfl rfl ?_
  refine me3 (pc' := 120) dm_X12_keep_119 (u_iast (n := 102) (j := 13) hn rfl rfl (by decide) rfl (Nat.le_of_ble_eq_true rfl)) rfl rfl rfl ?_
  refine me1 (pc' := 123) (L' := [(2, .int (40 : Int32)), (0, .ref 102), (1, .int (1 : Int32))]) dm_X12_keep_120 rfl rfl rfl rfl ?_
  refine me2 (pc' := 40) dm_X12_keep_123 rfl rfl rfl ?_
  refine me1 (pc' := 41) dm_X12_keep_40 rfl rfl rfl rfl ?_
  refine me0 (pc' := 43) (S' := .int (40 : Int32) :: _) dm_X12_keep_41 rfl rfl rfl rfl ?_
  refine me_2t (pc' := 126) dm_X12_keep_43 rfl rfl ?_
  refine me0 (pc' := 127) (S' := .int (1 : Int32) :: _) dm_X12_keep_126 rfl rfl rfl rfl ?_
  refine me5 dm_X12_keep_127 rfl rfl rfl ?_
  exact k _ rfl (Nat.le_of_ble_eq_true rfl)
set_option maxRecDepth 100000 in
set_option maxHeartbeats 40000000 in
theorem r_keep_v2 {xt : mj_X} {d : Nat} {h W : mj_H} (hn : h.length = 102) {P : Option Value → mj_H → Prop}  (k : ∀ U, U.length = 25 → mj_sl U ≤ 3000000 → P (some (.int (1 : Int32))) (h ++ (U ++ W))) : pgE xt (d + 20) 12 3 false (Option.some FieldType.boolean) (mj_dec prog_14_method_119_code) 0 [(0, .ref 102), (1, .int (2 : Int32))] [] (h ++ (rT ++ W)) P := by
  refine me1 (pc' := 1) dm_X12_keep_0 rfl rfl rfl rfl ?_
  refine me_1f (pc' := 4) dm_X12_keep_1 rfl (by decide) rfl ?_
  refine me1 (pc' := 5) dm_X12_keep_4 rfl rfl rfl rfl ?_
  refine me0 (pc' := 6) (S' := .int (3 : Int32) :: _) dm_X12_keep_5 rfl rfl rfl rfl ?_
  refine me_2t (pc' := 11) dm_X12_keep_6 rfl rfl ?_
  refine me1 (pc' := 12) dm_X12_keep_11 rfl rfl rfl rfl ?_
  refine me3 (pc' := 15) dm_X12_keep_12 (g_get (v := .ref 118) (lu (n := 102) (j := 0) hn rfl) rfl rfl (Nat.le_of_ble_eq_true rfl)) rfl rfl rfl ?_
  refine me1 (pc' := 16) dm_X12_keep_15 rfl rfl rfl rfl ?_
  refine me0 (pc' := 17) (S' := .int (1 : Int32) :: _) dm_X12_keep_16 rfl rfl rfl rfl ?_
  refine me3 (pc' := 18) dm_X12_keep_17 (u_zast (n := 102) (j := 16) hn rfl rfl (by decide) rfl (Nat.le_of_ble_eq_true rfl)) rfl rfl rfl ?_
  refine me1 (pc' := 19) dm_X12_keep_18 rfl rfl rfl rfl ?_
  refine me3 (pc' := 22) dm_X12_keep_19 (g_get (v := .ref 116) (lu (n := 102) (j := 0) hn rfl) rfl rfl (Nat.le_of_ble_eq_true rfl)) rfl rfl rfl ?_
  refine me1 (pc' := 23) dm_X12_keep_22 rfl rfl rfl rfl ?_
  refine me1 (pc' := 24) dm_X12_keep_23 rfl rfl rfl rfl ?_
  refine me3 (pc' := 27) dm_X12_keep_24 (g_get (v := .int (0 : Int32)) (lu (n := 102) (j := 0) hn rfl) rfl rfl (Nat.le_of_ble_eq_true rfl)) rfl rfl rfl ?_
  refine me3 (pc' := 28) dm_X12_keep_27 (u_iast (n := 102) (j := 14) hn rfl rfl (by decide) rfl (Nat.le_of_ble_eq_true rfl)) rfl rfl rfl ?_
  refine me1 (pc' := 29) dm_X12_keep_28 rfl rfl rfl rfl ?_
  refine me3 (pc' := 32) dm_X12_keep_29 (g_get (v := .ref 117) (lu (n := 102) (j := 0) hn rfl) rfl rfl (Nat.le_of_ble_eq_true rfl)) rfl rfl rfl ?_
  refine me1 (pc' := 33) dm_X12_keep_32 rfl rfl rfl rfl ?_
  refine me1 (pc' := 34) dm_X12_keep_33 rfl rfl rfl rfl ?_
  refine me3 (pc' := 37) dm_X12_keep_34 (g_get (v := .int (0 : Int32)) (lu (n := 102) (j := 0) hn rfl) rfl rfl (Nat.le_of_ble_eq_true rfl)) rfl rfl rfl ?_
  refine me3 (pc' := 38) dm_X12_keep_37 (u_iast (n := 102) (j := 15) hn rfl rfl (by decide) rfl (Nat.le_of_ble_eq_true rfl)) rfl rfl rfl ?_
  refine me0 (pc' := 39) (S' := .int (0 : Int32) :: _) dm_X12_keep_38 rfl rfl rfl rfl ?_
  refine me1 (pc' := 40) (L' := [(2, .int (0 : Int32)), (0, .ref 102), (1, .int (2 : Int32))]) dm_X12_keep_39 rfl rfl rfl rfl ?_
  refine me1 (pc' := 41) dm_X12_keep_40 rfl rfl rfl rfl ?_
  refine me0 (pc' := 43) (S' := .int (40 : Int32) :: _) dm_X12_keep_41 rfl rfl rfl rfl ?_
  refine me_2f (pc' := 46) dm_X12_keep_43 rfl (by decide) rfl ?_
  refine me1 (pc' := 47) dm_X12_keep_46 rfl rfl rfl rfl ?_
  refine me3 (pc' := 50) dm_X12_keep_47 (g_get (v := .ref 114) (lu (n := 102) (j := 0) hn rfl) rfl rfl (Nat.le_of_ble_eq_true rfl)) rfl rfl rfl ?_
  refine me0 (pc' := 52) (S' := .int (80 : Int32) :: _) dm_X12_keep_50 rfl rfl rfl rfl ?_
  refine me1 (pc' := 53) dm_X12_keep_52 rfl rfl rfl rfl ?_
  refine me0 (pc' := 54) (S' := .int (160 : Int32) :: _) dm_X12_keep_53 rfl rfl rfl rfl ?_
  refine me1 (pc' := 55) dm_X12_keep_54 rfl rfl rfl rfl ?_
  refine me0 (pc' := 56) (S' := .int (160 : Int32) :: _) dm_X12_keep_55 rfl rfl rfl rfl ?_
  refine me1 (pc' := 57) dm_X12_keep_56 rfl rfl rfl rfl ?_
  refine me3 (pc' := 60) dm_X12_keep_57 (g_get (v := .ref 110) (lu (n := 102) (j := 0) hn rfl) rfl rfl (Nat.le_of_ble_eq_true rfl)) rfl rfl rfl ?_
  refine me1 (pc' := 61) dm_X12_keep_60 rfl rfl rfl rfl ?_
  refine me3 (pc' := 62) dm_X12_keep_61 (g_lald (v := (0 : Int64)) (lu (n := 102) (j := 8) hn rfl) rfl (by decide) rfl (Nat.le_of_ble_eq_true rfl)) rfl rfl rfl ?_
  refine me3 (pc' := 63) dm_X12_keep_62 (u_last (n := 102) (j := 12) hn rfl rfl (by decide) rfl (Nat.le_of_ble_eq_true rfl)) rfl rfl rfl ?_
  refine me1 (pc' := 64) dm_X12_keep_63 rfl rfl rfl rfl ?_
  refine me3 (pc' := 67) dm_X12_keep_64 (g_get (v := .ref 115) (lu (n := 102) (j := 0) hn rfl) rfl rfl (Nat.le_of_ble_eq_true rfl)) rfl rfl rfl ?_
  refine me0 (pc' := 69) (S' := .int (80 : Int32) :: _) dm_X12_keep_67 rfl rfl rfl rfl ?_
  refine me1 (pc' := 70) dm_X12_keep_69 rfl rfl rfl rfl ?_
  refine me0 (pc' := 71) (S' := .int (160 : Int32) :: _) dm_X12_keep_70 rfl rfl rfl rfl ?_
  refine me1 (pc' := 72) dm_X12_keep_71 rfl rfl rfl rfl ?_
  refine me0 (pc' := 73) (S' := .int (160 : Int32) :: _) dm_X12_keep_72 rfl rfl rfl rfl ?_
  refine me1 (pc' := 74) dm_X12_keep_73 rfl rfl rfl rfl ?_
  refine me3 (pc' := 77) dm_X12_keep_74 (g_get (v := .ref 112) (lu (n := 102) (j := 0) hn rfl) rfl rfl (Nat.le_of_ble_eq_true rfl)) rfl rfl rfl ?_
  refine me1 (pc' := 78) dm_X12_keep_77 rfl rfl rfl rfl ?_
  refine me3 (pc' := 79) dm_X12_keep_78 (g_iald (v := (0 : Int32)) (lu (n := 102) (j := 10) hn rfl) rfl (by decide) rfl (Nat.le_of_ble_eq_true rfl)) rfl rfl rfl ?_
  refine me3 (pc' := 80) dm_X12_keep_79 (u_iast (n := 102) (j := 13) hn rfl rfl (by decide) rfl (Nat.le_of_ble_eq_true rfl)) rfl rfl rfl ?_
  refine me1 (pc' := 81) dm_X12_keep_80 rfl rfl rfl rfl ?_
  refine me3 (pc' := 84) dm_X12_keep_81 (g_get (v := .ref 114) (lu (n := 102) (j := 0) hn rfl) rfl rfl (Nat.le_of_ble_eq_true rfl)) rfl rfl rfl ?_
  refine me0 (pc' := 86) (S' := .int (80 : Int32) :: _) dm_X12_keep_84 rfl rfl rfl rfl ?_
  refine me1 (pc' := 87) dm_X12_keep_86 rfl rfl rfl rfl ?_
  refine me0 (pc' := 88) (S' := .int (160 : Int32) :: _) dm_X12_keep_87 rfl rfl rfl rfl ?_
  refine me0 (pc' := 90) (S' := .int (40 : Int32) :: _) dm_X12_keep_88 rfl rfl rfl rfl ?_
  refine me0 (pc' := 91) (S' := .int (200 : Int32) :: _) dm_X12_keep_90 rfl rfl rfl rfl ?_
  refine me1 (pc' := 92) dm_X12_keep_91 rfl rfl rfl rfl ?_
  refine me0 (pc' := 93) (S' := .int (200 : Int32) :: _) dm_X12_keep_92 rfl rfl rfl rfl ?_
  refine me1 (pc' := 94) dm_X12_keep_93 rfl rfl rfl rfl ?_
  refine me3 (pc' := 97) dm_X12_keep_94 (g_get (v := .ref 111) (lu (n := 102) (j := 0) hn rfl) rfl rfl (Nat.le_of_ble_eq_true rfl)) rfl rfl rfl ?_
  refine me1 (pc' := 98) dm_X12_keep_97 rfl rfl rfl rfl ?_
  refine me3 (pc' := 99) dm_X12_keep_98 (g_lald (v := (0 : Int64)) (lu (n := 102) (j := 9) hn rfl) rfl (by decide) rfl (Nat.le_of_ble_eq_true rfl)) rfl rfl rfl ?_
  refine me3 (pc' := 100) dm_X12_keep_99 (u_last (n := 102) (j := 12) hn rfl rfl (by decide) rfl (Nat.le_of_ble_eq_true rfl)) rfl rfl rfl ?_
  refine me1 (pc' := 101) dm_X12_keep_100 rfl rfl rfl rfl ?_
  refine me3 (pc' := 104) dm_X12_keep_101 (g_get (v := .ref 115) (lu (n := 102) (j := 0) hn rfl) rfl rfl (Nat.le_of_ble_eq_true rfl)) rfl rfl rfl ?_
  refine me0 (pc' := 106) (S' := .int (80 : Int32) :: _) dm_X12_keep_104 rfl rfl rfl rfl ?_
  refine me1 (pc' := 107) dm_X12_keep_106 rfl rfl rfl rfl ?_
  refine me0 (pc' := 108) (S' := .int (160 : Int32) :: _) dm_X12_keep_107 rfl rfl rfl rfl ?_
  refine me0 (pc' := 110) (S' := .int (40 : Int32) :: _) dm_X12_keep_108 rfl rfl rfl rfl ?_
  refine me0 (pc' := 111) (S' := .int (200 : Int32) :: _) dm_X12_keep_110 rfl rfl rfl rfl ?_
  refine me1 (pc' := 112) dm_X12_keep_111 rfl rfl rfl rfl ?_
  refine me0 (pc' := 113) (S' := .int (200 : Int32) :: _) dm_X12_keep_112 rfl rfl rfl rfl ?_
  refine me1 (pc' := 114) dm_X12_keep_113 rfl rfl rfl rfl ?_
  refine me3 (pc' := 117) dm_X12_keep_114 (g_get (v := .ref 113) (lu (n := 102) (j := 0) hn rfl) rfl rfl (Nat.le_of_ble_eq_true rfl)) rfl rfl rfl ?_
  refine me1 (pc' := 118) dm_X12_keep_117 rfl rfl rfl rfl ?_
  refine me3 (pc' := 119) dm_X12_keep_118 (g_iald (v := (0 : Int32)) (lu (n := 102) (j := 11) hn rfl) rfl (by decide) rfl (Nat.le_of_ble_eq_true rfl)) rfl rfl rfl ?_
  refine me3 (pc' := 120) dm_X12_keep_119 (u_iast (n := 102) (j := 13) hn rfl rfl (by decide) rfl (Nat.le_of_ble_eq_true rfl)) rfl rfl rfl ?_
  refine me1 (pc' := 123) (L' := [(2, .int (1 : Int32)), (0, .ref 102), (1, .int (2 : Int32))]) dm_X12_keep_120 rfl rfl rfl rfl ?_
  refine me2 (pc' := 40) dm_X12_keep_123 rfl rfl rfl ?_
  refine me1 (pc' := 41) dm_X12_keep_40 rfl rfl rfl rfl ?_
  refine me0 (pc' := 43) (S' := .int (40 : Int32) :: _) dm_X12_keep_41 rfl rfl rfl rfl ?_
  refine me_2f (pc' := 46) dm_X12_keep_43 rfl (by decide) rfl ?_
  refine me1 (pc' := 47) dm_X12_keep_46 rfl rfl rfl rfl ?_
  refine me3 (pc' := 50) dm_X12_keep_47 (g_get (v := .ref 114) (lu (n := 102) (j := 0) hn rfl) rfl rfl (Nat.le_of_ble_eq_true rfl)) rfl rfl rfl ?_
  refine me0 (pc' := 52) (S' := .int (80 : Int32) :: _) dm_X12_keep_50 rfl rfl rfl rfl ?_
  refine me1 (pc' := 53) dm_X12_keep_52 rfl rfl rfl rfl ?_
  refine me0 (pc' := 54) (S' := .int (160 : Int32) :: _) dm_X12_keep_53 rfl rfl rfl rfl ?_
  refine me1 (pc' := 55) dm_X12_keep_54 rfl rfl rfl rfl ?_
  refine me0 (pc' := 56) (S' := .int (161 : Int32) :: _) dm_X12_keep_55 rfl rfl rfl rfl ?_
  refine me1 (pc' := 57) dm_X12_keep_56 rfl rfl rfl rfl ?_
  refine me3 (pc' := 60) dm_X12_keep_57 (g_get (v := .ref 110) (lu (n := 102) (j := 0) hn rfl) rfl rfl (Nat.le_of_ble_eq_true rfl)) rfl rfl rfl ?_
  refine me1 (pc' := 61) dm_X12_keep_60 rfl rfl rfl rfl ?_
  refine me3 (pc' := 62) dm_X12_keep_61 (g_lald (v := (0 : Int64)) (lu (n := 102) (j := 8) hn rfl) rfl (by decide) rfl (Nat.le_of_ble_eq_true rfl)) rfl rfl rfl ?_
  refine me3 (pc' := 63) dm_X12_keep_62 (u_last (n := 102) (j := 12) hn rfl rfl (by decide) rfl (Nat.le_of_ble_eq_true rfl)) rfl rfl rfl ?_
  refine me1 (pc' := 64) dm_X12_keep_63 rfl rfl rfl rfl ?_
  refine me3 (pc' := 67) dm_X12_keep_64 (g_get (v := .ref 115) (lu (n := 102) (j := 0) hn rfl) rfl rfl (Nat.le_of_ble_eq_true rfl)) rfl rfl rfl ?_
  refine me0 (pc' := 69) (S' := .int (80 : Int32) :: _) dm_X12_keep_67 rfl rfl rfl rfl ?_
  refine me1 (pc' := 70) dm_X12_keep_69 rfl rfl rfl rfl ?_
  refine me0 (pc' := 71) (S' := .int (160 : Int32) :: _) dm_X12_keep_70 rfl rfl rfl rfl ?_
  refine me1 (pc' := 72) dm_X12_keep_71 rfl rfl rfl rfl ?_
  refine me0 (pc' := 73) (S' := .int (161 : Int32) :: _) dm_X12_keep_72 rfl rfl rfl rfl ?_
  refine me1 (pc' := 74) dm_X12_keep_73 rfl rfl rfl rfl ?_
  refine me3 (pc' := 77) dm_X12_keep_74 (g_get (v := .ref 112) (lu (n := 102) (j := 0) hn rfl) rfl rfl (Nat.le_of_ble_eq_true rfl)) rfl rfl rfl ?_
  refine me1 (pc' := 78) dm_X12_keep_77 rfl rfl rfl rfl ?_
  refine me3 (pc' := 79) dm_X12_keep_78 (g_iald (v := (0 : Int32)) (lu (n := 102) (j := 10) hn rfl) rfl (by decide) rfl (Nat.le_of_ble_eq_true rfl)) rfl rfl rfl ?_
  refine me3 (pc' := 80) dm_X12_keep_79 (u_iast (n := 102) (j := 13) hn rfl rfl (by decide) rfl (Nat.le_of_ble_eq_true rfl)) rfl rfl rfl ?_
  refine me1 (pc' := 81) dm_X12_keep_80 rfl rfl rfl rfl ?_
  refine me3 (pc' := 84) dm_X12_keep_81 (g_get (v := .ref 114) (lu (n := 102) (j := 0) hn rfl) rfl rfl (Nat.le_of_ble_eq_true rfl)) rfl rfl rfl ?_
  refine me0 (pc' := 86) (S' := .int (80 : Int32) :: _) dm_X12_keep_84 rfl rfl rfl rfl ?_
  refine me1 (pc' := 87) dm_X12_keep_86 rfl rfl rfl rfl ?_
  refine me0 (pc' := 88) (S' := .int (160 : Int32) :: _) dm_X12_keep_87 rfl rfl rfl rfl ?_
  refine me0 (pc' := 90) (S' := .int (40 : Int32) :: _) dm_X12_keep_88 rfl rfl rfl rfl ?_
  refine me0 (pc' := 91) (S' := .int (200 : Int32) :: _) dm_X12_keep_90 rfl rfl rfl rfl ?_
  refine me1 (pc' := 92) dm_X12_keep_91 rfl rfl rfl rfl ?_
  refine me0 (pc' := 93) (S' := .int (201 : Int32) :: _) dm_X12_keep_92 rfl rfl rfl rfl ?_
  refine me1 (pc' := 94) dm_X12_keep_93 rfl rfl rfl rfl ?_
  refine me3 (pc' := 97) dm_X12_keep_94 (g_get (v := .ref 111) (lu (n := 102) (j := 0) hn rfl) rfl rfl (Nat.le_of_ble_eq_true rfl)) rfl rfl rfl ?_
  refine me1 (pc' := 98) dm_X12_keep_97 rfl rfl rfl rfl ?_
  refine me3 (pc' := 99) dm_X12_keep_98 (g_lald (v := (0 : Int64)) (lu (n := 102) (j := 9) hn rfl) rfl (by decide) rfl (Nat.le_of_ble_eq_true rfl)) rfl rfl rfl ?_
  refine me3 (pc' := 100) dm_X12_keep_99 (u_last (n := 102) (j := 12) hn rfl rfl (by decide) rfl (Nat.le_of_ble_eq_true rfl)) rfl rfl rfl ?_
  refine me1 (pc' := 101) dm_X12_keep_100 rfl rfl rfl rfl ?_
  refine me3 (pc' := 104) dm_X12_keep_101 (g_get (v := .ref 115) (lu (n := 102) (j := 0) hn rfl) rfl rfl (Nat.le_of_ble_eq_true rfl)) rfl rfl rfl ?_
  refine me0 (pc' := 106) (S' := .int (80 : Int32) :: _) dm_X12_keep_104 rfl rfl rfl rfl ?_
  refine me1 (pc' := 107) dm_X12_keep_106 rfl rfl rfl rfl ?_
  refine me0 (pc' := 108) (S' := .int (160 : Int32) :: _) dm_X12_keep_107 rfl rfl rfl rfl ?_
  refine me0 (pc' := 110) (S' := .int (40 : Int32) :: _) dm_X12_keep_108 rfl rfl rfl rfl ?_
  refine me0 (pc' := 111) (S' := .int (200 : Int32) :: _) dm_X12_keep_110 rfl rfl rfl rfl ?_
  refine me1 (pc' := 112) dm_X12_keep_111 rfl rfl rfl rfl ?_
  refine me0 (pc' := 113) (S' := .int (201 : Int32) :: _) dm_X12_keep_112 rfl rfl rfl rfl ?_
  refine me1 (pc' := 114) dm_X12_keep_113 rfl rfl rfl rfl ?_
  refine me3 (pc' := 117) dm_X12_keep_114 (g_get (v := .ref 113) (lu (n := 102) (j := 0) hn rfl) rfl rfl (Nat.le_of_ble_eq_true rfl)) rfl rfl rfl ?_
  refine me1 (pc' := 118) dm_X12_keep_117 rfl rfl rfl rfl ?_
  refine me3 (pc' := 119) dm_X12_keep_118 (g_iald (v := (0 : Int32)) (lu (n := 102) (j := 11) hn rfl) rfl (by decide) rfl (Nat.le_of_ble_eq_true rfl)) rfl rfl rfl ?_
  refine me3 (pc' := 120) dm_X12_keep_119 (u_iast (n := 102) (j := 13) hn rfl rfl (by decide) rfl (Nat.le_of_ble_eq_true rfl)) rfl rfl rfl ?_
  refine me1 (pc' := 123) (L' := [(2, .int (2 : Int32)), (0, .ref 102), (1, .int (2 : Int32))]) dm_X12_keep_120 rfl rfl rfl rfl ?_
  refine me2 (pc' := 40) dm_X12_keep_123 rfl rfl rfl ?_
  refine me1 (pc' := 41) dm_X12_keep_40 rfl rfl rfl rfl ?_
  refine me0 (pc' := 43) (S' := .int (40 : Int32) :: _) dm_X12_keep_41 rfl rfl rfl rfl ?_
  refine me_2f (pc' := 46) dm_X12_keep_43 rfl (by decide) rfl ?_
  refine me1 (pc' := 47) dm_X12_keep_46 rfl rfl rfl rfl ?_
  refine me3 (pc' := 50) dm_X12_keep_47 (g_get (v := .ref 114) (lu (n := 102) (j := 0) hn rfl) rfl rfl (Nat.le_of_ble_eq_true rfl)) rfl rfl rfl ?_
  refine me0 (pc' := 52) (S' := .int (80 : Int32) :: _) dm_X12_keep_50 rfl rfl rfl rfl ?_
  refine me1 (pc' := 53) dm_X12_keep_52 rfl rfl rfl rfl ?_
  refine me0 (pc' := 54) (S' := .int (160 : Int32) :: _) dm_X12_keep_53 rfl rfl rfl rfl ?_
  refine me1 (pc' := 55) dm_X12_keep_54 rfl rfl rfl rfl ?_
  refine me0 (pc' := 56) (S' := .int (162 : Int32) :: _) dm_X12_keep_55 rfl rfl rfl rfl ?_
  refine me1 (pc' := 57) dm_X12_keep_56 rfl rfl rfl rfl ?_
  refine me3 (pc' := 60) dm_X12_keep_57 (g_get (v := .ref 110) (lu (n := 102) (j := 0) hn rfl) rfl rfl (Nat.le_of_ble_eq_true rfl)) rfl rfl rfl ?_
  refine me1 (pc' := 61) dm_X12_keep_60 rfl rfl rfl rfl ?_
  refine me3 (pc' := 62) dm_X12_keep_61 (g_lald (v := (0 : Int64)) (lu (n := 102) (j := 8) hn rfl) rfl (by decide) rfl (Nat.le_of_ble_eq_true rfl)) rfl rfl rfl ?_
  refine me3 (pc' := 63) dm_X12_keep_62 (u_last (n := 102) (j := 12) hn rfl rfl (by decide) rfl (Nat.le_of_ble_eq_true rfl)) rfl rfl rfl ?_
  refine me1 (pc' := 64) dm_X12_keep_63 rfl rfl rfl rfl ?_
  refine me3 (pc' := 67) dm_X12_keep_64 (g_get (v := .ref 115) (lu (n := 102) (j := 0) hn rfl) rfl rfl (Nat.le_of_ble_eq_true rfl)) rfl rfl rfl ?_
  refine me0 (pc' := 69) (S' := .int (80 : Int32) :: _) dm_X12_keep_67 rfl rfl rfl rfl ?_
  refine me1 (pc' := 70) dm_X12_keep_69 rfl rfl rfl rfl ?_
  refine me0 (pc' := 71) (S' := .int (160 : Int32) :: _) dm_X12_keep_70 rfl rfl rfl rfl ?_
  refine me1 (pc' := 72) dm_X12_keep_71 rfl rfl rfl rfl ?_
  refine me0 (pc' := 73) (S' := .int (162 : Int32) :: _) dm_X12_keep_72 rfl rfl rfl rfl ?_
  refine me1 (pc' := 74) dm_X12_keep_73 rfl rfl rfl rfl ?_
  refine me3 (pc' := 77) dm_X12_keep_74 (g_get (v := .ref 112) (lu (n := 102) (j := 0) hn rfl) rfl rfl (Nat.le_of_ble_eq_true rfl)) rfl rfl rfl ?_
  refine me1 (pc' := 78) dm_X12_keep_77 rfl rfl rfl rfl ?_
  refine me3 (pc' := 79) dm_X12_keep_78 (g_iald (v := (0 : Int32)) (lu (n := 102) (j := 10) hn rfl) rfl (by decide) rfl (Nat.le_of_ble_eq_true rfl)) rfl rfl rfl ?_
  refine me3 (pc' := 80) dm_X12_keep_79 (u_iast (n := 102) (j := 13) hn rfl rfl (by decide) rfl (Nat.le_of_ble_eq_true rfl)) rfl rfl rfl ?_
  refine me1 (pc' := 81) dm_X12_keep_80 rfl rfl rfl rfl ?_
  refine me3 (pc' := 84) dm_X12_keep_81 (g_get (v := .ref 114) (lu (n := 102) (j := 0) hn rfl) rfl rfl (Nat.le_of_ble_eq_true rfl)) rfl rfl rfl ?_
  refine me0 (pc' := 86) (S' := .int (80 : Int32) :: _) dm_X12_keep_84 rfl rfl rfl rfl ?_
  refine me1 (pc' := 87) dm_X12_keep_86 rfl rfl rfl rfl ?_
  refine me0 (pc' := 88) (S' := .int (160 : Int32) :: _) dm_X12_keep_87 rfl rfl rfl rfl ?_
  refine me0 (pc' := 90) (S' := .int (40 : Int32) :: _) dm_X12_keep_88 rfl rfl rfl rfl ?_
  refine me0 (pc' := 91) (S' := .int (200 : Int32) :: _) dm_X12_keep_90 rfl rfl rfl rfl ?_
  refine me1 (pc' := 92) dm_X12_keep_91 rfl rfl rfl rfl ?_
  refine me0 (pc' := 93) (S' := .int (202 : Int32) :: _) dm_X12_keep_92 rfl rfl rfl rfl ?_
  refine me1 (pc' := 94) dm_X12_keep_93 rfl rfl rfl rfl ?_
  refine me3 (pc' := 97) dm_X12_keep_94 (g_get (v := .ref 111) (lu (n := 102) (j := 0) hn rfl) rfl rfl (Nat.le_of_ble_eq_true rfl)) rfl rfl rfl ?_
  refine me1 (pc' := 98) dm_X12_keep_97 rfl rfl rfl rfl ?_
  refine me3 (pc' := 99) dm_X12_keep_98 (g_lald (v := (0 : Int64)) (lu (n := 102) (j := 9) hn rfl) rfl (by decide) rfl (Nat.le_of_ble_eq_true rfl)) rfl rfl rfl ?_
  refine me3 (pc' := 100) dm_X12_keep_99 (u_last (n := 102) (j := 12) hn rfl rfl (by decide) rfl (Nat.le_of_ble_eq_true rfl)) rfl rfl rfl ?_
  refine me1 (pc' := 101) dm_X12_keep_100 rfl rfl rfl rfl ?_
  refine me3 (pc' := 104) dm_X12_keep_101 (g_get (v := .ref 115) (lu (n := 102) (j := 0) hn rfl) rfl rfl (Nat.le_of_ble_eq_true rfl)) rfl rfl rfl ?_
  refine me0 (pc' := 106) (S' := .int (80 : Int32) :: _) dm_X12_keep_104 rfl rfl rfl rfl ?_
  refine me1 (pc' := 107) dm_X12_keep_106 rfl rfl rfl rfl ?_
  refine me0 (pc' := 108) (S' := .int (160 : Int32) :: _) dm_X12_keep_107 rfl rfl rfl rfl ?_
  refine me0 (pc' := 110) (S' := .int (40 : Int32) :: _) dm_X12_keep_108 rfl rfl rfl rfl ?_
  refine me0 (pc' := 111) (S' := .int (200 : Int32) :: _) dm_X12_keep_110 rfl rfl rfl rfl ?_
  refine me1 (pc' := 112) dm_X12_keep_111 rfl rfl rfl rfl ?_
  refine me0 (pc' := 113) (S' := .int (202 : Int32) :: _) dm_X12_keep_112 rfl rfl rfl rfl ?_
  refine me1 (pc' := 114) dm_X12_keep_113 rfl rfl rfl rfl ?_
  refine me3 (pc' := 117) dm_X12_keep_114 (g_get (v := .ref 113) (lu (n := 102) (j := 0) hn rfl) rfl rfl (Nat.le_of_ble_eq_true rfl)) rfl rfl rfl ?_
  refine me1 (pc' := 118) dm_X12_keep_117 rfl rfl rfl rfl ?_
  refine me3 (pc' := 119) dm_X12_keep_118 (g_iald (v := (0 : Int32)) (lu (n := 102) (j := 11) hn rfl) rfl (by decide) rfl (Nat.le_of_ble_eq_true rfl)) rfl rfl rfl ?_
  refine me3 (pc' := 120) dm_X12_keep_119 (u_iast (n := 102) (j := 13) hn rfl rfl (by decide) rfl (Nat.le_of_ble_eq_true rfl)) rfl rfl rfl ?_
  refine me1 (pc' := 123) (L' := [(2, .int (3 : Int32)), (0, .ref 102), (1, .int (2 : Int32))]) dm_X12_keep_120 rfl rfl rfl rfl ?_
  refine me2 (pc' := 40) dm_X12_keep_123 rfl rfl rfl ?_
  refine me1 (pc' := 41) dm_X12_keep_40 rfl rfl rfl rfl ?_
  refine me0 (pc' := 43) (S' := .int (40 : Int32) :: _) dm_X12_keep_41 rfl rfl rfl rfl ?_
  refine me_2f (pc' := 46) dm_X12_keep_43 rfl (by decide) rfl ?_
  refine me1 (pc' := 47) dm_X12_keep_46 rfl rfl rfl rfl ?_
  refine me3 (pc' := 50) dm_X12_keep_47 (g_get (v := .ref 114) (lu (n := 102) (j := 0) hn rfl) rfl rfl (Nat.le_of_ble_eq_true rfl)) rfl rfl rfl ?_
  refine me0 (pc' := 52) (S' := .int (80 : Int32) :: _) dm_X12_keep_50 rfl rfl rfl rfl ?_
  refine me1 (pc' := 53) dm_X12_keep_52 rfl rfl rfl rfl ?_
  refine me0 (pc' := 54) (S' := .int (160 : Int32) :: _) dm_X12_keep_53 rfl rfl rfl rfl ?_
  refine me1 (pc' := 55) dm_X12_keep_54 rfl rfl rfl rfl ?_
  refine me0 (pc' := 56) (S' := .int (163 : Int32) :: _) dm_X12_keep_55 rfl rfl rfl rfl ?_
  refine me1 (pc' := 57) dm_X12_keep_56 rfl rfl rfl rfl ?_
  refine me3 (pc' := 60) dm_X12_keep_57 (g_get (v := .ref 110) (lu (n := 102) (j := 0) hn rfl) rfl rfl (Nat.le_of_ble_eq_true rfl)) rfl rfl rfl ?_
  refine me1 (pc' := 61) dm_X12_keep_60 rfl rfl rfl rfl ?_
  refine me3 (pc' := 62) dm_X12_keep_61 (g_lald (v := (0 : Int64)) (lu (n := 102) (j := 8) hn rfl) rfl (by decide) rfl (Nat.le_of_ble_eq_true rfl)) rfl rfl rfl ?_
  refine me3 (pc' := 63) dm_X12_keep_62 (u_last (n := 102) (j := 12) hn rfl rfl (by decide) rfl (Nat.le_of_ble_eq_true rfl)) rfl rfl rfl ?_
  refine me1 (pc' := 64) dm_X12_keep_63 rfl rfl rfl rfl ?_
  refine me3 (pc' := 67) dm_X12_keep_64 (g_get (v := .ref 115) (lu (n := 102) (j := 0) hn rfl) rfl rfl (Nat.le_of_ble_eq_true rfl)) rfl rfl rfl ?_
  refine me0 (pc' := 69) (S' := .int (80 : Int32) :: _) dm_X12_keep_67 rfl rfl rfl rfl ?_
  refine me1 (pc' := 70) dm_X12_keep_69 rfl rfl rfl rfl ?_
  refine me0 (pc' := 71) (S' := .int (160 : Int32) :: _) dm_X12_keep_70 rfl rfl rfl rfl ?_
  refine me1 (pc' := 72) dm_X12_keep_71 rfl rfl rfl rfl ?_
  refine me0 (pc' := 73) (S' := .int (163 : Int32) :: _) dm_X12_keep_72 rfl rfl rfl rfl ?_
  refine me1 (pc' := 74) dm_X12_keep_73 rfl rfl rfl rfl ?_
  refine me3 (pc' := 77) dm_X12_keep_74 (g_get (v := .ref 112) (lu (n := 102) (j := 0) hn rfl) rfl rfl (Nat.le_of_ble_eq_true rfl)) rfl rfl rfl ?_
  refine me1 (pc' := 78) dm_X12_keep_77 rfl rfl rfl rfl ?_
  refine me3 (pc' := 79) dm_X12_keep_78 (g_iald (v := (0 : Int32)) (lu (n := 102) (j := 10) hn rfl) rfl (by decide) rfl (Nat.le_of_ble_eq_true rfl)) rfl rfl rfl ?_
  refine me3 (pc' := 80) dm_X12_keep_79 (u_iast (n := 102) (j := 13) hn rfl rfl (by decide) rfl (Nat.le_of_ble_eq_true rfl)) rfl rfl rfl ?_
  refine me1 (pc' := 81) dm_X12_keep_80 rfl rfl rfl rfl ?_
  refine me3 (pc' := 84) dm_X12_keep_81 (g_get (v := .ref 114) (lu (n := 102) (j := 0) hn rfl) rfl rfl (Nat.le_of_ble_eq_true rfl)) rfl rfl rfl ?_
  refine me0 (pc' := 86) (S' := .int (80 : Int32) :: _) dm_X12_keep_84 rfl rfl rfl rfl ?_
  refine me1 (pc' := 87) dm_X12_keep_86 rfl rfl rfl rfl ?_
  refine me0 (pc' := 88) (S' := .int (160 : Int32) :: _) dm_X12_keep_87 rfl rfl rfl rfl ?_
  refine me0 (pc' := 90) (S' := .int (40 : Int32) :: _) dm_X12_keep_88 rfl rfl rfl rfl ?_
  refine me0 (pc' := 91) (S' := .int (200 : Int32) :: _) dm_X12_keep_90 rfl rfl rfl rfl ?_
  refine me1 (pc' := 92) dm_X12_keep_91 rfl rfl rfl rfl ?_
  refine me0 (pc' := 93) (S' := .int (203 : Int32) :: _) dm_X12_keep_92 rfl rfl rfl rfl ?_
  refine me1 (pc' := 94) dm_X12_keep_93 rfl rfl rfl rfl ?_
  refine me3 (pc' := 97) dm_X12_keep_94 (g_get (v := .ref 111) (lu (n := 102) (j := 0) hn rfl) rfl rfl (Nat.le_of_ble_eq_true rfl)) rfl rfl rfl ?_
  refine me1 (pc' := 98) dm_X12_keep_97 rfl rfl rfl rfl ?_
  refine me3 (pc' := 99) dm_X12_keep_98 (g_lald (v := (0 : Int64)) (lu (n := 102) (j := 9) hn rfl) rfl (by decide) rfl (Nat.le_of_ble_eq_true rfl)) rfl rfl rfl ?_
  refine me3 (pc' := 100) dm_X12_keep_99 (u_last (n := 102) (j := 12) hn rfl rfl (by decide) rfl (Nat.le_of_ble_eq_true rfl)) rfl rfl rfl ?_
  refine me1 (pc' := 101) dm_X12_keep_100 rfl rfl rfl rfl ?_
  refine me3 (pc' := 104) dm_X12_keep_101 (g_get (v := .ref 115) (lu (n := 102) (j := 0) hn rfl) rfl rfl (Nat.le_of_ble_eq_true rfl)) rfl rfl rfl ?_
  refine me0 (pc' := 106) (S' := .int (80 : Int32) :: _) dm_X12_keep_104 rfl rfl rfl rfl ?_
  refine me1 (pc' := 107) dm_X12_keep_106 rfl rfl rfl rfl ?_
  refine me0 (pc' := 108) (S' := .int (160 : Int32) :: _) dm_X12_keep_107 rfl rfl rfl rfl ?_
  refine me0 (pc' := 110) (S' := .int (40 : Int32) :: _) dm_X12_keep_108 rfl rfl rfl rfl ?_
  refine me0 (pc' := 111) (S' := .int (200 : Int32) :: _) dm_X12_keep_110 rfl rfl rfl rfl ?_
  refine me1 (pc' := 112) dm_X12_keep_111 rfl rfl rfl rfl ?_
  refine me0 (pc' := 113) (S' := .int (203 : Int32) :: _) dm_X12_keep_112 rfl rfl rfl rfl ?_
  refine me1 (pc' := 114) dm_X12_keep_113 rfl rfl rfl rfl ?_
  refine me3 (pc' := 117) dm_X12_keep_114 (g_get (v := .ref 113) (lu (n := 102) (j := 0) hn rfl) rfl rfl (Nat.le_of_ble_eq_true rfl)) rfl rfl rfl ?_
  refine me1 (pc' := 118) dm_X12_keep_117 rfl rfl rfl rfl ?_
  refine me3 (pc' := 119) dm_X12_keep_118 (g_iald (v := (0 : Int32)) (lu (n := 102) (j := 11) hn rfl) rfl (by decide) rfl (Nat.le_of_ble_eq_true rfl)) rfl rfl rfl ?_
  refine me3 (pc' := 120) dm_X12_keep_119 (u_iast (n := 102) (j := 13) hn rfl rfl (by decide) rfl (Nat.le_of_ble_eq_true rfl)) rfl rfl rfl ?_
  refine me1 (pc' := 123) (L' := [(2, .int (4 : Int32)), (0, .ref 102), (1, .int (2 : Int32))]) dm_X12_keep_120 rfl rfl rfl rfl ?_
  refine me2 (pc' := 40) dm_X12_keep_123 rfl rfl rfl ?_
  refine me1 (pc' := 41) dm_X12_keep_40 rfl rfl rfl rfl ?_
  refine me0 (pc' := 43) (S' := .int (40 : Int32) :: _) dm_X12_keep_41 rfl rfl rfl rfl ?_
  refine me_2f (pc' := 46) dm_X12_keep_43 rfl (by decide) rfl ?_
  refine me1 (pc' := 47) dm_X12_keep_46 rfl rfl rfl rfl ?_
  refine me3 (pc' := 50) dm_X12_keep_47 (g_get (v := .ref 114) (lu (n := 102) (j := 0) hn rfl) rfl rfl (Nat.le_of_ble_eq_true rfl)) rfl rfl rfl ?_
  refine me0 (pc' := 52) (S' := .int (80 : Int32) :: _) dm_X12_keep_50 rfl rfl rfl rfl ?_
  refine me1 (pc' := 53) dm_X12_keep_52 rfl rfl rfl rfl ?_
  refine me0 (pc' := 54) (S' := .int (160 : Int32) :: _) dm_X12_keep_53 rfl rfl rfl rfl ?_
  refine me1 (pc' := 55) dm_X12_keep_54 rfl rfl rfl rfl ?_
  refine me0 (pc' := 56) (S' := .int (164 : Int32) :: _) dm_X12_keep_55 rfl rfl rfl rfl ?_
  refine me1 (pc' := 57) dm_X12_keep_56 rfl rfl rfl rfl ?_
  refine me3 (pc' := 60) dm_X12_keep_57 (g_get (v := .ref 110) (lu (n := 102) (j := 0) hn rfl) rfl rfl (Nat.le_of_ble_eq_true rfl)) rfl rfl rfl ?_
  refine me1 (pc' := 61) dm_X12_keep_60 rfl rfl rfl rfl ?_
  refine me3 (pc' := 62) dm_X12_keep_61 (g_lald (v := (0 : Int64)) (lu (n := 102) (j := 8) hn rfl) rfl (by decide) rfl (Nat.le_of_ble_eq_true rfl)) rfl rfl rfl ?_
  refine me3 (pc' := 63) dm_X12_keep_62 (u_last (n := 102) (j := 12) hn rfl rfl (by decide) rfl (Nat.le_of_ble_eq_true rfl)) rfl rfl rfl ?_
  refine me1 (pc' := 64) dm_X12_keep_63 rfl rfl rfl rfl ?_
  refine me3 (pc' := 67) dm_X12_keep_64 (g_get (v := .ref 115) (lu (n := 102) (j := 0) hn rfl) rfl rfl (Nat.le_of_ble_eq_true rfl)) rfl rfl rfl ?_
  refine me0 (pc' := 69) (S' := .int (80 : Int32) :: _) dm_X12_keep_67 rfl rfl rfl rfl ?_
  refine me1 (pc' := 70) dm_X12_keep_69 rfl rfl rfl rfl ?_
  refine me0 (pc' := 71) (S' := .int (160 : Int32) :: _) dm_X12_keep_70 rfl rfl rfl rfl ?_
  refine me1 (pc' := 72) dm_X12_keep_71 rfl rfl rfl rfl ?_
  refine me0 (pc' := 73) (S' := .int (164 : Int32) :: _) dm_X12_keep_72 rfl rfl rfl rfl ?_
  refine me1 (pc' := 74) dm_X12_keep_73 rfl rfl rfl rfl ?_
  refine me3 (pc' := 77) dm_X12_keep_74 (g_get (v := .ref 112) (lu (n := 102) (j := 0) hn rfl) rfl rfl (Nat.le_of_ble_eq_true rfl)) rfl rfl rfl ?_
  refine me1 (pc' := 78) dm_X12_keep_77 rfl rfl rfl rfl ?_
  refine me3 (pc' := 79) dm_X12_keep_78 (g_iald (v := (0 : Int32)) (lu (n := 102) (j := 10) hn rfl) rfl (by decide) rfl (Nat.le_of_ble_eq_true rfl)) rfl rfl rfl ?_
  refine me3 (pc' := 80) dm_X12_keep_79 (u_iast (n := 102) (j := 13) hn rfl rfl (by decide) rfl (Nat.le_of_ble_eq_true rfl)) rfl rfl rfl ?_
  refine me1 (pc' := 81) dm_X12_keep_80 rfl rfl rfl rfl ?_
  refine me3 (pc' := 84) dm_X12_keep_81 (g_get (v := .ref 114) (lu (n := 102) (j := 0) hn rfl) rfl rfl (Nat.le_of_ble_eq_true rfl)) rfl rfl rfl ?_
  refine me0 (pc' := 86) (S' := .int (80 : Int32) :: _) dm_X12_keep_84 rfl rfl rfl rfl ?_
  refine me1 (pc' := 87) dm_X12_keep_86 rfl rfl rfl rfl ?_
  refine me0 (pc' := 88) (S' := .int (160 : Int32) :: _) dm_X12_keep_87 rfl rfl rfl rfl ?_
  refine me0 (pc' := 90) (S' := .int (40 : Int32) :: _) dm_X12_keep_88 rfl rfl rfl rfl ?_
  refine me0 (pc' := 91) (S' := .int (200 : Int32) :: _) dm_X12_keep_90 rfl rfl rfl rfl ?_
  refine me1 (pc' := 92) dm_X12_keep_91 rfl rfl rfl rfl ?_
  refine me0 (pc' := 93) (S' := .int (204 : Int32) :: _) dm_X12_keep_92 rfl rfl rfl rfl ?_
  refine me1 (pc' := 94) dm_X12_keep_93 rfl rfl rfl rfl ?_
  refine me3 (pc' := 97) dm_X12_keep_94 (g_get (v := .ref 111) (lu (n := 102) (j := 0) hn rfl) rfl rfl (Nat.le_of_ble_eq_true rfl)) rfl rfl rfl ?_
  refine me1 (pc' := 98) dm_X12_keep_97 rfl rfl rfl rfl ?_
  refine me3 (pc' := 99) dm_X12_keep_98 (g_lald (v := (0 : Int64)) (lu (n := 102) (j := 9) hn rfl) rfl (by decide) rfl (Nat.le_of_ble_eq_true rfl)) rfl rfl rfl ?_
  refine me3 (pc' := 100) dm_X12_keep_99 (u_last (n := 102) (j := 12) hn rfl rfl (by decide) rfl (Nat.le_of_ble_eq_true rfl)) rfl rfl rfl ?_
  refine me1 (pc' := 101) dm_X12_keep_100 rfl rfl rfl rfl ?_
  refine me3 (pc' := 104) dm_X12_keep_101 (g_get (v := .ref 115) (lu (n := 102) (j := 0) hn rfl) rfl rfl (Nat.le_of_ble_eq_true rfl)) rfl rfl rfl ?_
  refine me0 (pc' := 106) (S' := .int (80 : Int32) :: _) dm_X12_keep_104 rfl rfl rfl rfl ?_
  refine me1 (pc' := 107) dm_X12_keep_106 rfl rfl rfl rfl ?_
  refine me0 (pc' := 108) (S' := .int (160 : Int32) :: _) dm_X12_keep_107 rfl rfl rfl rfl ?_
  refine me0 (pc' := 110) (S' := .int (40 : Int32) :: _) dm_X12_keep_108 rfl rfl rfl rfl ?_
  refine me0 (pc' := 111) (S' := .int (200 : Int32) :: _) dm_X12_keep_110 rfl rfl rfl rfl ?_
  refine me1 (pc' := 112) dm_X12_keep_111 rfl rfl rfl rfl ?_
  refine me0 (pc' := 113) (S' := .int (204 : Int32) :: _) dm_X12_keep_112 rfl rfl rfl rfl ?_
  refine me1 (pc' := 114) dm_X12_keep_113 rfl rfl rfl rfl ?_
  refine me3 (pc' := 117) dm_X12_keep_114 (g_get (v := .ref 113) (lu (n := 102) (j := 0) hn rfl) rfl rfl (Nat.le_of_ble_eq_true rfl)) rfl rfl rfl ?_
  refine me1 (pc' := 118) dm_X12_keep_117 rfl rfl rfl rfl ?_
  refine me3 (pc' := 119) dm_X12_keep_118 (g_iald (v := (0 : Int32)) (lu (n := 102) (j := 11) hn rfl) rfl (by decide) rfl (Nat.le_of_ble_eq_true rfl)) rfl rfl rfl ?_
  refine me3 (pc' := 120) dm_X12_keep_119 (u_iast (n := 102) (j := 13) hn rfl rfl (by decide) rfl (Nat.le_of_ble_eq_true rfl)) rfl rfl rfl ?_
  refine me1 (pc' := 123) (L' := [(2, .int (5 : Int32)), (0, .ref 102), (1, .int (2 : Int32))]) dm_X12_keep_120 rfl rfl rfl rfl ?_
  refine me2 (pc' := 40) dm_X12_keep_123 rfl rfl rfl ?_
  refine me1 (pc' := 41) dm_X12_keep_40 rfl rfl rfl rfl ?_
  refine me0 (pc' := 43) (S' := .int (40 : Int32) :: _) dm_X12_keep_41 rfl rfl rfl rfl ?_
  refine me_2f (pc' := 46) dm_X12_keep_43 rfl (by decide) rfl ?_
  refine me1 (pc' := 47) dm_X12_keep_46 rfl rfl rfl rfl ?_
  refine me3 (pc' := 50) dm_X12_keep_47 (g_get (v := .ref 114) (lu (n := 102) (j := 0) hn rfl) rfl rfl (Nat.le_of_ble_eq_true rfl)) rfl rfl rfl ?_
  refine me0 (pc' := 52) (S' := .int (80 : Int32) :: _) dm_X12_keep_50 rfl rfl rfl rfl ?_
  refine me1 (pc' := 53) dm_X12_keep_52 rfl rfl rfl rfl ?_
  refine me0 (pc' := 54) (S' := .int (160 : Int32) :: _) dm_X12_keep_53 rfl rfl rfl rfl ?_
  refine me1 (pc' := 55) dm_X12_keep_54 rfl rfl rfl rfl ?_
  refine me0 (pc' := 56) (S' := .int (165 : Int32) :: _) dm_X12_keep_55 rfl rfl rfl rfl ?_
  refine me1 (pc' := 57) dm_X12_keep_56 rfl rfl rfl rfl ?_
  refine me3 (pc' := 60) dm_X12_keep_57 (g_get (v := .ref 110) (lu (n := 102) (j := 0) hn rfl) rfl rfl (Nat.le_of_ble_eq_true rfl)) rfl rfl rfl ?_
  refine me1 (pc' := 61) dm_X12_keep_60 rfl rfl rfl rfl ?_
  refine me3 (pc' := 62) dm_X12_keep_61 (g_lald (v := (0 : Int64)) (lu (n := 102) (j := 8) hn rfl) rfl (by decide) rfl (Nat.le_of_ble_eq_true rfl)) rfl rfl rfl ?_
  refine me3 (pc' := 63) dm_X12_keep_62 (u_last (n := 102) (j := 12) hn rfl rfl (by decide) rfl (Nat.le_of_ble_eq_true rfl)) rfl rfl rfl ?_
  refine me1 (pc' := 64) dm_X12_keep_63 rfl rfl rfl rfl ?_
  refine me3 (pc' := 67) dm_X12_keep_64 (g_get (v := .ref 115) (lu (n := 102) (j := 0) hn rfl) rfl rfl (Nat.le_of_ble_eq_true rfl)) rfl rfl rfl ?_
  refine me0 (pc' := 69) (S' := .int (80 : Int32) :: _) dm_X12_keep_67 rfl rfl rfl rfl ?_
  refine me1 (pc' := 70) dm_X12_keep_69 rfl rfl rfl rfl ?_
  refine me0 (pc' := 71) (S' := .int (160 : Int32) :: _) dm_X12_keep_70 rfl rfl rfl rfl ?_
  refine me1 (pc' := 72) dm_X12_keep_71 rfl rfl rfl rfl ?_
  refine me0 (pc' := 73) (S' := .int (165 : Int32) :: _) dm_X12_keep_72 rfl rfl rfl rfl ?_
  refine me1 (pc' := 74) dm_X12_keep_73 rfl rfl rfl rfl ?_
  refine me3 (pc' := 77) dm_X12_keep_74 (g_get (v := .ref 112) (lu (n := 102) (j := 0) hn rfl) rfl rfl (Nat.le_of_ble_eq_true rfl)) rfl rfl rfl ?_
  refine me1 (pc' := 78) dm_X12_keep_77 rfl rfl rfl rfl ?_
  refine me3 (pc' := 79) dm_X12_keep_78 (g_iald (v := (0 : Int32)) (lu (n := 102) (j := 10) hn rfl) rfl (by decide) rfl (Nat.le_of_ble_eq_true rfl)) rfl rfl rfl ?_
  refine me3 (pc' := 80) dm_X12_keep_79 (u_iast (n := 102) (j := 13) hn rfl rfl (by decide) rfl (Nat.le_of_ble_eq_true rfl)) rfl rfl rfl ?_
  refine me1 (pc' := 81) dm_X12_keep_80 rfl rfl rfl rfl ?_
  refine me3 (pc' := 84) dm_X12_keep_81 (g_get (v := .ref 114) (lu (n := 102) (j := 0) hn rfl) rfl rfl (Nat.le_of_ble_eq_true rfl)) rfl rfl rfl ?_
  refine me0 (pc' := 86) (S' := .int (80 : Int32) :: _) dm_X12_keep_84 rfl rfl rfl rfl ?_
  refine me1 (pc' := 87) dm_X12_keep_86 rfl rfl rfl rfl ?_
  refine me0 (pc' := 88) (S' := .int (160 : Int32) :: _) dm_X12_keep_87 rfl rfl rfl rfl ?_
  refine me0 (pc' := 90) (S' := .int (40 : Int32) :: _) dm_X12_keep_88 rfl rfl rfl rfl ?_
  refine me0 (pc' := 91) (S' := .int (200 : Int32) :: _) dm_X12_keep_90 rfl rfl rfl rfl ?_
  refine me1 (pc' := 92) dm_X12_keep_91 rfl rfl rfl rfl ?_
  refine me0 (pc' := 93) (S' := .int (205 : Int32) :: _) dm_X12_keep_92 rfl rfl rfl rfl ?_
  refine me1 (pc' := 94) dm_X12_keep_93 rfl rfl rfl rfl ?_
  refine me3 (pc' := 97) dm_X12_keep_94 (g_get (v := .ref 111) (lu (n := 102) (j := 0) hn rfl) rfl rfl (Nat.le_of_ble_eq_true rfl)) rfl rfl rfl ?_
  refine me1 (pc' := 98) dm_X12_keep_97 rfl rfl rfl rfl ?_
  refine me3 (pc' := 99) dm_X12_keep_98 (g_lald (v := (0 : Int64)) (lu (n := 102) (j := 9) hn rfl) rfl (by decide) rfl (Nat.le_of_ble_eq_true rfl)) rfl rfl rfl ?_
  refine me3 (pc' := 100) dm_X12_keep_99 (u_last (n := 102) (j := 12) hn rfl rfl (by decide) rfl (Nat.le_of_ble_eq_true rfl)) rfl rfl rfl ?_
  refine me1 (pc' := 101) dm_X12_keep_100 rfl rfl rfl rfl ?_
  refine me3 (pc' := 104) dm_X12_keep_101 (g_get (v := .ref 115) (lu (n := 102) (j := 0) hn rfl) rfl rfl (Nat.le_of_ble_eq_true rfl)) rfl rfl rfl ?_
  refine me0 (pc' := 106) (S' := .int (80 : Int32) :: _) dm_X12_keep_104 rfl rfl rfl rfl ?_
  refine me1 (pc' := 107) dm_X12_keep_106 rfl rfl rfl rfl ?_
  refine me0 (pc' := 108) (S' := .int (160 : Int32) :: _) dm_X12_keep_107 rfl rfl rfl rfl ?_
  refine me0 (pc' := 110) (S' := .int (40 : Int32) :: _) dm_X12_keep_108 rfl rfl rfl rfl ?_
  refine me0 (pc' := 111) (S' := .int (200 : Int32) :: _) dm_X12_keep_110 rfl rfl rfl rfl ?_
  refine me1 (pc' := 112) dm_X12_keep_111 rfl rfl rfl rfl ?_
  refine me0 (pc' := 113) (S' := .int (205 : Int32) :: _) dm_X12_keep_112 rfl rfl rfl rfl ?_
  refine me1 (pc' := 114) dm_X12_keep_113 rfl rfl rfl rfl ?_
  refine me3 (pc' := 117) dm_X12_keep_114 (g_get (v := .ref 113) (lu (n := 102) (j := 0) hn rfl) rfl rfl (Nat.le_of_ble_eq_true rfl)) rfl rfl rfl ?_
  refine me1 (pc' := 118) dm_X12_keep_117 rfl rfl rfl rfl ?_
  refine me3 (pc' := 119) dm_X12_keep_118 (g_iald (v := (0 : Int32)) (lu (n := 102) (j := 11) hn rfl) rfl (by decide) rfl (Nat.le_of_ble_eq_true rfl)) rfl rfl rfl ?_
  refine me3 (pc' := 120) dm_X12_keep_119 (u_iast (n := 102) (j := 13) hn rfl rfl (by decide) rfl (Nat.le_of_ble_eq_true rfl)) rfl rfl rfl ?_
  refine me1 (pc' := 123) (L' := [(2, .int (6 : Int32)), (0, .ref 102), (1, .int (2 : Int32))]) dm_X12_keep_120 rfl rfl rfl rfl ?_
  refine me2 (pc' := 40) dm_X12_keep_123 rfl rfl rfl ?_
  refine me1 (pc' := 41) dm_X12_keep_40 rfl rfl rfl rfl ?_
  refine me0 (pc' := 43) (S' := .int (40 : Int32) :: _) dm_X12_keep_41 rfl rfl rfl rfl ?_
  refine me_2f (pc' := 46) dm_X12_keep_43 rfl (by decide) rfl ?_
  refine me1 (pc' := 47) dm_X12_keep_46 rfl rfl rfl rfl ?_
  refine me3 (pc' := 50) dm_X12_keep_47 (g_get (v := .ref 114) (lu (n := 102) (j := 0) hn rfl) rfl rfl (Nat.le_of_ble_eq_true rfl)) rfl rfl rfl ?_
  refine me0 (pc' := 52) (S' := .int (80 : Int32) :: _) dm_X12_keep_50 rfl rfl rfl rfl ?_
  refine me1 (pc' := 53) dm_X12_keep_52 rfl rfl rfl rfl ?_
  refine me0 (pc' := 54) (S' := .int (160 : Int32) :: _) dm_X12_keep_53 rfl rfl rfl rfl ?_
  refine me1 (pc' := 55) dm_X12_keep_54 rfl rfl rfl rfl ?_
  refine me0 (pc' := 56) (S' := .int (166 : Int32) :: _) dm_X12_keep_55 rfl rfl rfl rfl ?_
  refine me1 (pc' := 57) dm_X12_keep_56 rfl rfl rfl rfl ?_
  refine me3 (pc' := 60) dm_X12_keep_57 (g_get (v := .ref 110) (lu (n := 102) (j := 0) hn rfl) rfl rfl (Nat.le_of_ble_eq_true rfl)) rfl rfl rfl ?_
  refine me1 (pc' := 61) dm_X12_keep_60 rfl rfl rfl rfl ?_
  refine me3 (pc' := 62) dm_X12_keep_61 (g_lald (v := (0 : Int64)) (lu (n := 102) (j := 8) hn rfl) rfl (by decide) rfl (Nat.le_of_ble_eq_true rfl)) rfl rfl rfl ?_
  refine me3 (pc' := 63) dm_X12_keep_62 (u_last (n := 102) (j := 12) hn rfl rfl (by decide) rfl (Nat.le_of_ble_eq_true rfl)) rfl rfl rfl ?_
  refine me1 (pc' := 64) dm_X12_keep_63 rfl rfl rfl rfl ?_
  refine me3 (pc' := 67) dm_X12_keep_64 (g_get (v := .ref 115) (lu (n := 102) (j := 0) hn rfl) rfl rfl (Nat.le_of_ble_eq_true rfl)) rfl rfl rfl ?_
  refine me0 (pc' := 69) (S' := .int (80 : Int32) :: _) dm_X12_keep_67 rfl rfl rfl rfl ?_
  refine me1 (pc' := 70) dm_X12_keep_69 rfl rfl rfl rfl ?_
  refine me0 (pc' := 71) (S' := .int (160 : Int32) :: _) dm_X12_keep_70 rfl rfl rfl rfl ?_
  refine me1 (pc' := 72) dm_X12_keep_71 rfl rfl rfl rfl ?_
  refine me0 (pc' := 73) (S' := .int (166 : Int32) :: _) dm_X12_keep_72 rfl rfl rfl rfl ?_
  refine me1 (pc' := 74) dm_X12_keep_73 rfl rfl rfl rfl ?_
  refine me3 (pc' := 77) dm_X12_keep_74 (g_get (v := .ref 112) (lu (n := 102) (j := 0) hn rfl) rfl rfl (Nat.le_of_ble_eq_true rfl)) rfl rfl rfl ?_
  refine me1 (pc' := 78) dm_X12_keep_77 rfl rfl rfl rfl ?_
  refine me3 (pc' := 79) dm_X12_keep_78 (g_iald (v := (0 : Int32)) (lu (n := 102) (j := 10) hn rfl) rfl (by decide) rfl (Nat.le_of_ble_eq_true rfl)) rfl rfl rfl ?_
  refine me3 (pc' := 80) dm_X12_keep_79 (u_iast (n := 102) (j := 13) hn rfl rfl (by decide) rfl (Nat.le_of_ble_eq_true rfl)) rfl rfl rfl ?_
  refine me1 (pc' := 81) dm_X12_keep_80 rfl rfl rfl rfl ?_
  refine me3 (pc' := 84) dm_X12_keep_81 (g_get (v := .ref 114) (lu (n := 102) (j := 0) hn rfl) rfl rfl (Nat.le_of_ble_eq_true rfl)) rfl rfl rfl ?_
  refine me0 (pc' := 86) (S' := .int (80 : Int32) :: _) dm_X12_keep_84 rfl rfl rfl rfl ?_
  refine me1 (pc' := 87) dm_X12_keep_86 rfl rfl rfl rfl ?_
  refine me0 (pc' := 88) (S' := .int (160 : Int32) :: _) dm_X12_keep_87 rfl rfl rfl rfl ?_
  refine me0 (pc' := 90) (S' := .int (40 : Int32) :: _) dm_X12_keep_88 rfl rfl rfl rfl ?_
  refine me0 (pc' := 91) (S' := .int (200 : Int32) :: _) dm_X12_keep_90 rfl rfl rfl rfl ?_
  refine me1 (pc' := 92) dm_X12_keep_91 rfl rfl rfl rfl ?_
  refine me0 (pc' := 93) (S' := .int (206 : Int32) :: _) dm_X12_keep_92 rfl rfl rfl rfl ?_
  refine me1 (pc' := 94) dm_X12_keep_93 rfl rfl rfl rfl ?_
  refine me3 (pc' := 97) dm_X12_keep_94 (g_get (v := .ref 111) (lu (n := 102) (j := 0) hn rfl) rfl rfl (Nat.le_of_ble_eq_true rfl)) rfl rfl rfl ?_
  refine me1 (pc' := 98) dm_X12_keep_97 rfl rfl rfl rfl ?_
  refine me3 (pc' := 99) dm_X12_keep_98 (g_lald (v := (0 : Int64)) (lu (n := 102) (j := 9) hn rfl) rfl (by decide) rfl (Nat.le_of_ble_eq_true rfl)) rfl rfl rfl ?_
  refine me3 (pc' := 100) dm_X12_keep_99 (u_last (n := 102) (j := 12) hn rfl rfl (by decide) rfl (Nat.le_of_ble_eq_true rfl)) rfl rfl rfl ?_
  refine me1 (pc' := 101) dm_X12_keep_100 rfl rfl rfl rfl ?_
  refine me3 (pc' := 104) dm_X12_keep_101 (g_get (v := .ref 115) (lu (n := 102) (j := 0) hn rfl) rfl rfl (Nat.le_of_ble_eq_true rfl)) rfl rfl rfl ?_
  refine me0 (pc' := 106) (S' := .int (80 : Int32) :: _) dm_X12_keep_104 rfl rfl rfl rfl ?_
  refine me1 (pc' := 107) dm_X12_keep_106 rfl rfl rfl rfl ?_
  refine me0 (pc' := 108) (S' := .int (160 : Int32) :: _) dm_X12_keep_107 rfl rfl rfl rfl ?_
  refine me0 (pc' := 110) (S' := .int (40 : Int32) :: _) dm_X12_keep_108 rfl rfl rfl rfl ?_
  refine me0 (pc' := 111) (S' := .int (200 : Int32) :: _) dm_X12_keep_110 rfl rfl rfl rfl ?_
  refine me1 (pc' := 112) dm_X12_keep_111 rfl rfl rfl rfl ?_
  refine me0 (pc' := 113) (S' := .int (206 : Int32) :: _) dm_X12_keep_112 rfl rfl rfl rfl ?_
  refine me1 (pc' := 114) dm_X12_keep_113 rfl rfl rfl rfl ?_
  refine me3 (pc' := 117) dm_X12_keep_114 (g_get (v := .ref 113) (lu (n := 102) (j := 0) hn rfl) rfl rfl (Nat.le_of_ble_eq_true rfl)) rfl rfl rfl ?_
  refine me1 (pc' := 118) dm_X12_keep_117 rfl rfl rfl rfl ?_
  refine me3 (pc' := 119) dm_X12_keep_118 (g_iald (v := (0 : Int32)) (lu (n := 102) (j := 11) hn rfl) rfl (by decide) rfl (Nat.le_of_ble_eq_true rfl)) rfl rfl rfl ?_
  refine me3 (pc' := 120) dm_X12_keep_119 (u_iast (n := 102) (j := 13) hn rfl rfl (by decide) rfl (Nat.le_of_ble_eq_true rfl)) rfl rfl rfl ?_
  refine me1 (pc' := 123) (L' := [(2, .int (7 : Int32)), (0, .ref 102), (1, .int (2 : Int32))]) dm_X12_keep_120 rfl rfl rfl rfl ?_
  refine me2 (pc' := 40) dm_X12_keep_123 rfl rfl rfl ?_
  refine me1 (pc' := 41) dm_X12_keep_40 rfl rfl rfl rfl ?_
  refine me0 (pc' := 43) (S' := .int (40 : Int32) :: _) dm_X12_keep_41 rfl rfl rfl rfl ?_
  refine me_2f (pc' := 46) dm_X12_keep_43 rfl (by decide) rfl ?_
  refine me1 (pc' := 47) dm_X12_keep_46 rfl rfl rfl rfl ?_
  refine me3 (pc' := 50) dm_X12_keep_47 (g_get (v := .ref 114) (lu (n := 102) (j := 0) hn rfl) rfl rfl (Nat.le_of_ble_eq_true rfl)) rfl rfl rfl ?_
  refine me0 (pc' := 52) (S' := .int (80 : Int32) :: _) dm_X12_keep_50 rfl rfl rfl rfl ?_
  refine me1 (pc' := 53) dm_X12_keep_52 rfl rfl rfl rfl ?_
  refine me0 (pc' := 54) (S' := .int (160 : Int32) :: _) dm_X12_keep_53 rfl rfl rfl rfl ?_
  refine me1 (pc' := 55) dm_X12_keep_54 rfl rfl rfl rfl ?_
  refine me0 (pc' := 56) (S' := .int (167 : Int32) :: _) dm_X12_keep_55 rfl rfl rfl rfl ?_
  refine me1 (pc' := 57) dm_X12_keep_56 rfl rfl rfl rfl ?_
  refine me3 (pc' := 60) dm_X12_keep_57 (g_get (v := .ref 110) (lu (n := 102) (j := 0) hn rfl) rfl rfl (Nat.le_of_ble_eq_true rfl)) rfl rfl rfl ?_
  refine me1 (pc' := 61) dm_X12_keep_60 rfl rfl rfl rfl ?_
  refine me3 (pc' := 62) dm_X12_keep_61 (g_lald (v := (0 : Int64)) (lu (n := 102) (j := 8) hn rfl) rfl (by decide) rfl (Nat.le_of_ble_eq_true rfl)) rfl rfl rfl ?_
  refine me3 (pc' := 63) dm_X12_keep_62 (u_last (n := 102) (j := 12) hn rfl rfl (by decide) rfl (Nat.le_of_ble_eq_true rfl)) rfl rfl rfl ?_
  refine me1 (pc' := 64) dm_X12_keep_63 rfl rfl rfl rfl ?_
  refine me3 (pc' := 67) dm_X12_keep_64 (g_get (v := .ref 115) (lu (n := 102) (j := 0) hn rfl) rfl rfl (Nat.le_of_ble_eq_true rfl)) rfl rfl rfl ?_
  refine me0 (pc' := 69) (S' := .int (80 : Int32) :: _) dm_X12_keep_67 rfl rfl rfl rfl ?_
  refine me1 (pc' := 70) dm_X12_keep_69 rfl rfl rfl rfl ?_
  refine me0 (pc' := 71) (S' := .int (160 : Int32) :: _) dm_X12_keep_70 rfl rfl rfl rfl ?_
  refine me1 (pc' := 72) dm_X12_keep_71 rfl rfl rfl rfl ?_
  refine me0 (pc' := 73) (S' := .int (167 : Int32) :: _) dm_X12_keep_72 rfl rfl rfl rfl ?_
  refine me1 (pc' := 74) dm_X12_keep_73 rfl rfl rfl rfl ?_
  refine me3 (pc' := 77) dm_X12_keep_74 (g_get (v := .ref 112) (lu (n := 102) (j := 0) hn rfl) rfl rfl (Nat.le_of_ble_eq_true rfl)) rfl rfl rfl ?_
  refine me1 (pc' := 78) dm_X12_keep_77 rfl rfl rfl rfl ?_
  refine me3 (pc' := 79) dm_X12_keep_78 (g_iald (v := (0 : Int32)) (lu (n := 102) (j := 10) hn rfl) rfl (by decide) rfl (Nat.le_of_ble_eq_true rfl)) rfl rfl rfl ?_
  refine me3 (pc' := 80) dm_X12_keep_79 (u_iast (n := 102) (j := 13) hn rfl rfl (by decide) rfl (Nat.le_of_ble_eq_true rfl)) rfl rfl rfl ?_
  refine me1 (pc' := 81) dm_X12_keep_80 rfl rfl rfl rfl ?_
  refine me3 (pc' := 84) dm_X12_keep_81 (g_get (v := .ref 114) (lu (n := 102) (j := 0) hn rfl) rfl rfl (Nat.le_of_ble_eq_true rfl)) rfl rfl rfl ?_
  refine me0 (pc' := 86) (S' := .int (80 : Int32) :: _) dm_X12_keep_84 rfl rfl rfl rfl ?_
  refine me1 (pc' := 87) dm_X12_keep_86 rfl rfl rfl rfl ?_
  refine me0 (pc' := 88) (S' := .int (160 : Int32) :: _) dm_X12_keep_87 rfl rfl rfl rfl ?_
  refine me0 (pc' := 90) (S' := .int (40 : Int32) :: _) dm_X12_keep_88 rfl rfl rfl rfl ?_
  refine me0 (pc' := 91) (S' := .int (200 : Int32) :: _) dm_X12_keep_90 rfl rfl rfl rfl ?_
  refine me1 (pc' := 92) dm_X12_keep_91 rfl rfl rfl rfl ?_
  refine me0 (pc' := 93) (S' := .int (207 : Int32) :: _) dm_X12_keep_92 rfl rfl rfl rfl ?_
  refine me1 (pc' := 94) dm_X12_keep_93 rfl rfl rfl rfl ?_
  refine me3 (pc' := 97) dm_X12_keep_94 (g_get (v := .ref 111) (lu (n := 102) (j := 0) hn rfl) rfl rfl (Nat.le_of_ble_eq_true rfl)) rfl rfl rfl ?_
  refine me1 (pc' := 98) dm_X12_keep_97 rfl rfl rfl rfl ?_
  refine me3 (pc' := 99) dm_X12_keep_98 (g_lald (v := (0 : Int64)) (lu (n := 102) (j := 9) hn rfl) rfl (by decide) rfl (Nat.le_of_ble_eq_true rfl)) rfl rfl rfl ?_
  refine me3 (pc' := 100) dm_X12_keep_99 (u_last (n := 102) (j := 12) hn rfl rfl (by decide) rfl (Nat.le_of_ble_eq_true rfl)) rfl rfl rfl ?_
  refine me1 (pc' := 101) dm_X12_keep_100 rfl rfl rfl rfl ?_
  refine me3 (pc' := 104) dm_X12_keep_101 (g_get (v := .ref 115) (lu (n := 102) (j := 0) hn rfl) rfl rfl (Nat.le_of_ble_eq_true rfl)) rfl rfl rfl ?_
  refine me0 (pc' := 106) (S' := .int (80 : Int32) :: _) dm_X12_keep_104 rfl rfl rfl rfl ?_
  refine me1 (pc' := 107) dm_X12_keep_106 rfl rfl rfl rfl ?_
  refine me0 (pc' := 108) (S' := .int (160 : Int32) :: _) dm_X12_keep_107 rfl rfl rfl rfl ?_
  refine me0 (pc' := 110) (S' := .int (40 : Int32) :: _) dm_X12_keep_108 rfl rfl rfl rfl ?_
  refine me0 (pc' := 111) (S' := .int (200 : Int32) :: _) dm_X12_keep_110 rfl rfl rfl rfl ?_
  refine me1 (pc' := 112) dm_X12_keep_111 rfl rfl rfl rfl ?_
  refine me0 (pc' := 113) (S' := .int (207 : Int32) :: _) dm_X12_keep_112 rfl rfl rfl rfl ?_
  refine me1 (pc' := 114) dm_X12_keep_113 rfl rfl rfl rfl ?_
  refine me3 (pc' := 117) dm_X12_keep_114 (g_get (v := .ref 113) (lu (n := 102) (j := 0) hn rfl) rfl rfl (Nat.le_of_ble_eq_true rfl)) rfl rfl rfl ?_
  refine me1 (pc' := 118) dm_X12_keep_117 rfl rfl rfl rfl ?_
  refine me3 (pc' := 119) dm_X12_keep_118 (g_iald (v := (0 : Int32)) (lu (n := 102) (j := 11) hn rfl) rfl (by decide) rfl (Nat.le_of_ble_eq_true rfl)) rfl rfl rfl ?_
  refine me3 (pc' := 120) dm_X12_keep_119 (u_iast (n := 102) (j := 13) hn rfl rfl (by decide) rfl (Nat.le_of_ble_eq_true rfl)) rfl rfl rfl ?_
  refine me1 (pc' := 123) (L' := [(2, .int (8 : Int32)), (0, .ref 102), (1, .int (2 : Int32))]) dm_X12_keep_120 rfl rfl rfl rfl ?_
  refine me2 (pc' := 40) dm_X12_keep_123 rfl rfl rfl ?_
  refine me1 (pc' := 41) dm_X12_keep_40 rfl rfl rfl rfl ?_
  refine me0 (pc' := 43) (S' := .int (40 : Int32) :: _) dm_X12_keep_41 rfl rfl rfl rfl ?_
  refine me_2f (pc' := 46) dm_X12_keep_43 rfl (by decide) rfl ?_
  refine me1 (pc' := 47) dm_X12_keep_46 rfl rfl rfl rfl ?_
  refine me3 (pc' := 50) dm_X12_keep_47 (g_get (v := .ref 114) (lu (n := 102) (j := 0) hn rfl) rfl rfl (Nat.le_of_ble_eq_true rfl)) rfl rfl rfl ?_
  refine me0 (pc' := 52) (S' := .int (80 : Int32) :: _) dm_X12_keep_50 rfl rfl rfl rfl ?_
  refine me1 (pc' := 53) dm_X12_keep_52 rfl rfl rfl rfl ?_
  refine me0 (pc' := 54) (S' := .int (160 : Int32) :: _) dm_X12_keep_53 rfl rfl rfl rfl ?_
  refine me1 (pc' := 55) dm_X12_keep_54 rfl rfl rfl rfl ?_
  refine me0 (pc' := 56) (S' := .int (168 : Int32) :: _) dm_X12_keep_55 rfl rfl rfl rfl ?_
  refine me1 (pc' := 57) dm_X12_keep_56 rfl rfl rfl rfl ?_
  refine me3 (pc' := 60) dm_X12_keep_57 (g_get (v := .ref 110) (lu (n := 102) (j := 0) hn rfl) rfl rfl (Nat.le_of_ble_eq_true rfl)) rfl rfl rfl ?_
  refine me1 (pc' := 61) dm_X12_keep_60 rfl rfl rfl rfl ?_
  refine me3 (pc' := 62) dm_X12_keep_61 (g_lald (v := (0 : Int64)) (lu (n := 102) (j := 8) hn rfl) rfl (by decide) rfl (Nat.le_of_ble_eq_true rfl)) rfl rfl rfl ?_
  refine me3 (pc' := 63) dm_X12_keep_62 (u_last (n := 102) (j := 12) hn rfl rfl (by decide) rfl (Nat.le_of_ble_eq_true rfl)) rfl rfl rfl ?_
  refine me1 (pc' := 64) dm_X12_keep_63 rfl rfl rfl rfl ?_
  refine me3 (pc' := 67) dm_X12_keep_64 (g_get (v := .ref 115) (lu (n := 102) (j := 0) hn rfl) rfl rfl (Nat.le_of_ble_eq_true rfl)) rfl rfl rfl ?_
  refine me0 (pc' := 69) (S' := .int (80 : Int32) :: _) dm_X12_keep_67 rfl rfl rfl rfl ?_
  refine me1 (pc' := 70) dm_X12_keep_69 rfl rfl rfl rfl ?_
  refine me0 (pc' := 71) (S' := .int (160 : Int32) :: _) dm_X12_keep_70 rfl rfl rfl rfl ?_
  refine me1 (pc' := 72) dm_X12_keep_71 rfl rfl rfl rfl ?_
  refine me0 (pc' := 73) (S' := .int (168 : Int32) :: _) dm_X12_keep_72 rfl rfl rfl rfl ?_
  refine me1 (pc' := 74) dm_X12_keep_73 rfl rfl rfl rfl ?_
  refine me3 (pc' := 77) dm_X12_keep_74 (g_get (v := .ref 112) (lu (n := 102) (j := 0) hn rfl) rfl rfl (Nat.le_of_ble_eq_true rfl)) rfl rfl rfl ?_
  refine me1 (pc' := 78) dm_X12_keep_77 rfl rfl rfl rfl ?_
  refine me3 (pc' := 79) dm_X12_keep_78 (g_iald (v := (0 : Int32)) (lu (n := 102) (j := 10) hn rfl) rfl (by decide) rfl (Nat.le_of_ble_eq_true rfl)) rfl rfl rfl ?_
  refine me3 (pc' := 80) dm_X12_keep_79 (u_iast (n := 102) (j := 13) hn rfl rfl (by decide) rfl (Nat.le_of_ble_eq_true rfl)) rfl rfl rfl ?_
  refine me1 (pc' := 81) dm_X12_keep_80 rfl rfl rfl rfl ?_
  refine me3 (pc' := 84) dm_X12_keep_81 (g_get (v := .ref 114) (lu (n := 102) (j := 0) hn rfl) rfl rfl (Nat.le_of_ble_eq_true rfl)) rfl rfl rfl ?_
  refine me0 (pc' := 86) (S' := .int (80 : Int32) :: _) dm_X12_keep_84 rfl rfl rfl rfl ?_
  refine me1 (pc' := 87) dm_X12_keep_86 rfl rfl rfl rfl ?_
  refine me0 (pc' := 88) (S' := .int (160 : Int32) :: _) dm_X12_keep_87 rfl rfl rfl rfl ?_
  refine me0 (pc' := 90) (S' := .int (40 : Int32) :: _) dm_X12_keep_88 rfl rfl rfl rfl ?_
  refine me0 (pc' := 91) (S' := .int (200 : Int32) :: _) dm_X12_keep_90 rfl rfl rfl rfl ?_
  refine me1 (pc' := 92) dm_X12_keep_91 rfl rfl rfl rfl ?_
  refine me0 (pc' := 93) (S' := .int (208 : Int32) :: _) dm_X12_keep_92 rfl rfl rfl rfl ?_
  refine me1 (pc' := 94) dm_X12_keep_93 rfl rfl rfl rfl ?_
  refine me3 (pc' := 97) dm_X12_keep_94 (g_get (v := .ref 111) (lu (n := 102) (j := 0) hn rfl) rfl rfl (Nat.le_of_ble_eq_true rfl)) rfl rfl rfl ?_
  refine me1 (pc' := 98) dm_X12_keep_97 rfl rfl rfl rfl ?_
  refine me3 (pc' := 99) dm_X12_keep_98 (g_lald (v := (0 : Int64)) (lu (n := 102) (j := 9) hn rfl) rfl (by decide) rfl (Nat.le_of_ble_eq_true rfl)) rfl rfl rfl ?_
  refine me3 (pc' := 100) dm_X12_keep_99 (u_last (n := 102) (j := 12) hn rfl rfl (by decide) rfl (Nat.le_of_ble_eq_true rfl)) rfl rfl rfl ?_
  refine me1 (pc' := 101) dm_X12_keep_100 rfl rfl rfl rfl ?_
  refine me3 (pc' := 104) dm_X12_keep_101 (g_get (v := .ref 115) (lu (n := 102) (j := 0) hn rfl) rfl rfl (Nat.le_of_ble_eq_true rfl)) rfl rfl rfl ?_
  refine me0 (pc' := 106) (S' := .int (80 : Int32) :: _) dm_X12_keep_104 rfl rfl rfl rfl ?_
  refine me1 (pc' := 107) dm_X12_keep_106 rfl rfl rfl rfl ?_
  refine me0 (pc' := 108) (S' := .int (160 : Int32) :: _) dm_X12_keep_107 rfl rfl rfl rfl ?_
  refine me0 (pc' := 110) (S' := .int (40 : Int32) :: _) dm_X12_keep_108 rfl rfl rfl rfl ?_
  refine me0 (pc' := 111) (S' := .int (200 : Int32) :: _) dm_X12_keep_110 rfl rfl rfl rfl ?_
  refine me1 (pc' := 112) dm_X12_keep_111 rfl rfl rfl rfl ?_
  refine me0 (pc' := 113) (S' := .int (208 : Int32) :: _) dm_X12_keep_112 rfl rfl rfl rfl ?_
  refine me1 (pc' := 114) dm_X12_keep_113 rfl rfl rfl rfl ?_
  refine me3 (pc' := 117) dm_X12_keep_114 (g_get (v := .ref 113) (lu (n := 102) (j := 0) hn rfl) rfl rfl (Nat.le_of_ble_eq_true rfl)) rfl rfl rfl ?_
  refine me1 (pc' := 118) dm_X12_keep_117 rfl rfl rfl rfl ?_
  refine me3 (pc' := 119) dm_X12_keep_118 (g_iald (v := (0 : Int32)) (lu (n := 102) (j := 11) hn rfl) rfl (by decide) rfl (Nat.le_of_ble_eq_true rfl)) rfl rfl rfl ?_
  refine me3 (pc' := 120) dm_X12_keep_119 (u_iast (n := 102) (j := 13) hn rfl rfl (by decide) rfl (Nat.le_of_ble_eq_true rfl)) rfl rfl rfl ?_
  refine me1 (pc' := 123) (L' := [(2, .int (9 : Int32)), (0, .ref 102), (1, .int (2 : Int32))]) dm_X12_keep_120 rfl rfl rfl rfl ?_
  refine me2 (pc' := 40) dm_X12_keep_123 rfl rfl rfl ?_
  refine me1 (pc' := 41) dm_X12_keep_40 rfl rfl rfl rfl ?_
  refine me0 (pc' := 43) (S' := .int (40 : Int32) :: _) dm_X12_keep_41 rfl rfl rfl rfl ?_
  refine me_2f (pc' := 46) dm_X12_keep_43 rfl (by decide) rfl ?_
  refine me1 (pc' := 47) dm_X12_keep_46 rfl rfl rfl rfl ?_
  refine me3 (pc' := 50) dm_X12_keep_47 (g_get (v := .ref 114) (lu (n := 102) (j := 0) hn rfl) rfl rfl (Nat.le_of_ble_eq_true rfl)) rfl rfl rfl ?_
  refine me0 (pc' := 52) (S' := .int (80 : Int32) :: _) dm_X12_keep_50 rfl rfl rfl rfl ?_
  refine me1 (pc' := 53) dm_X12_keep_52 rfl rfl rfl rfl ?_
  refine me0 (pc' := 54) (S' := .int (160 : Int32) :: _) dm_X12_keep_53 rfl rfl rfl rfl ?_
  refine me1 (pc' := 55) dm_X12_keep_54 rfl rfl rfl rfl ?_
  refine me0 (pc' := 56) (S' := .int (169 : Int32) :: _) dm_X12_keep_55 rfl rfl rfl rfl ?_
  refine me1 (pc' := 57) dm_X12_keep_56 rfl rfl rfl rfl ?_
  refine me3 (pc' := 60) dm_X12_keep_57 (g_get (v := .ref 110) (lu (n := 102) (j := 0) hn rfl) rfl rfl (Nat.le_of_ble_eq_true rfl)) rfl rfl rfl ?_
  refine me1 (pc' := 61) dm_X12_keep_60 rfl rfl rfl rfl ?_
  refine me3 (pc' := 62) dm_X12_keep_61 (g_lald (v := (0 : Int64)) (lu (n := 102) (j := 8) hn rfl) rfl (by decide) rfl (Nat.le_of_ble_eq_true rfl)) rfl rfl rfl ?_
  refine me3 (pc' := 63) dm_X12_keep_62 (u_last (n := 102) (j := 12) hn rfl rfl (by decide) rfl (Nat.le_of_ble_eq_true rfl)) rfl rfl rfl ?_
  refine me1 (pc' := 64) dm_X12_keep_63 rfl rfl rfl rfl ?_
  refine me3 (pc' := 67) dm_X12_keep_64 (g_get (v := .ref 115) (lu (n := 102) (j := 0) hn rfl) rfl rfl (Nat.le_of_ble_eq_true rfl)) rfl rfl rfl ?_
  refine me0 (pc' := 69) (S' := .int (80 : Int32) :: _) dm_X12_keep_67 rfl rfl rfl rfl ?_
  refine me1 (pc' := 70) dm_X12_keep_69 rfl rfl rfl rfl ?_
  refine me0 (pc' := 71) (S' := .int (160 : Int32) :: _) dm_X12_keep_70 rfl rfl rfl rfl ?_
  refine me1 (pc' := 72) dm_X12_keep_71 rfl rfl rfl rfl ?_
  refine me0 (pc' := 73) (S' := .int (169 : Int32) :: _) dm_X12_keep_72 rfl rfl rfl rfl ?_
  refine me1 (pc' := 74) dm_X12_keep_73 rfl rfl rfl rfl ?_
  refine me3 (pc' := 77) dm_X12_keep_74 (g_get (v := .ref 112) (lu (n := 102) (j := 0) hn rfl) rfl rfl (Nat.le_of_ble_eq_true rfl)) rfl rfl rfl ?_
  refine me1 (pc' := 78) dm_X12_keep_77 rfl rfl rfl rfl ?_
  refine me3 (pc' := 79) dm_X12_keep_78 (g_iald (v := (0 : Int32)) (lu (n := 102) (j := 10) hn rfl) rfl (by decide) rfl (Nat.le_of_ble_eq_true rfl)) rfl rfl rfl ?_
  refine me3 (pc' := 80) dm_X12_keep_79 (u_iast (n := 102) (j := 13) hn rfl rfl (by decide) rfl (Nat.le_of_ble_eq_true rfl)) rfl rfl rfl ?_
  refine me1 (pc' := 81) dm_X12_keep_80 rfl rfl rfl rfl ?_
  refine me3 (pc' := 84) dm_X12_keep_81 (g_get (v := .ref 114) (lu (n := 102) (j := 0) hn rfl) rfl rfl (Nat.le_of_ble_eq_true rfl)) rfl rfl rfl ?_
  refine me0 (pc' := 86) (S' := .int (80 : Int32) :: _) dm_X12_keep_84 rfl rfl rfl rfl ?_
  refine me1 (pc' := 87) dm_X12_keep_86 rfl rfl rfl rfl ?_
  refine me0 (pc' := 88) (S' := .int (160 : Int32) :: _) dm_X12_keep_87 rfl rfl rfl rfl ?_
  refine me0 (pc' := 90) (S' := .int (40 : Int32) :: _) dm_X12_keep_88 rfl rfl rfl rfl ?_
  refine me0 (pc' := 91) (S' := .int (200 : Int32) :: _) dm_X12_keep_90 rfl rfl rfl rfl ?_
  refine me1 (pc' := 92) dm_X12_keep_91 rfl rfl rfl rfl ?_
  refine me0 (pc' := 93) (S' := .int (209 : Int32) :: _) dm_X12_keep_92 rfl rfl rfl rfl ?_
  refine me1 (pc' := 94) dm_X12_keep_93 rfl rfl rfl rfl ?_
  refine me3 (pc' := 97) dm_X12_keep_94 (g_get (v := .ref 111) (lu (n := 102) (j := 0) hn rfl) rfl rfl (Nat.le_of_ble_eq_true rfl)) rfl rfl rfl ?_
  refine me1 (pc' := 98) dm_X12_keep_97 rfl rfl rfl rfl ?_
  refine me3 (pc' := 99) dm_X12_keep_98 (g_lald (v := (0 : Int64)) (lu (n := 102) (j := 9) hn rfl) rfl (by decide) rfl (Nat.le_of_ble_eq_true rfl)) rfl rfl rfl ?_
  refine me3 (pc' := 100) dm_X12_keep_99 (u_last (n := 102) (j := 12) hn rfl rfl (by decide) rfl (Nat.le_of_ble_eq_true rfl)) rfl rfl rfl ?_
  refine me1 (pc' := 101) dm_X12_keep_100 rfl rfl rfl rfl ?_
  refine me3 (pc' := 104) dm_X12_keep_101 (g_get (v := .ref 115) (lu (n := 102) (j := 0) hn rfl) rfl rfl (Nat.le_of_ble_eq_true rfl)) rfl rfl rfl ?_
  refine me0 (pc' := 106) (S' := .int (80 : Int32) :: _) dm_X12_keep_104 rfl rfl rfl rfl ?_
  refine me1 (pc' := 107) dm_X12_keep_106 rfl rfl rfl rfl ?_
  refine me0 (pc' := 108) (S' := .int (160 : Int32) :: _) dm_X12_keep_107 rfl rfl rfl rfl ?_
  refine me0 (pc' := 110) (S' := .int (40 : Int32) :: _) dm_X12_keep_108 rfl rfl rfl rfl ?_
  refine me0 (pc' := 111) (S' := .int (200 : Int32) :: _) dm_X12_keep_110 rfl rfl rfl rfl ?_
  refine me1 (pc' := 112) dm_X12_keep_111 rfl rfl rfl rfl ?_
  refine me0 (pc' := 113) (S' := .int (209 : Int32) :: _) dm_X12_keep_112 rfl rfl rfl rfl ?_
  refine me1 (pc' := 114) dm_X12_keep_113 rfl rfl rfl rfl ?_
  refine me3 (pc' := 117) dm_X12_keep_114 (g_get (v := .ref 113) (lu (n := 102) (j := 0) hn rfl) rfl rfl (Nat.le_of_ble_eq_true rfl)) rfl rfl rfl ?_
  refine me1 (pc' := 118) dm_X12_keep_117 rfl rfl rfl rfl ?_
  refine me3 (pc' := 119) dm_X12_keep_118 (g_iald (v := (0 : Int32)) (lu (n := 102) (j := 11) hn rfl) rfl (by decide) rfl (Nat.le_of_ble_eq_true rfl)) rfl rfl rfl ?_
  refine me3 (pc' := 120) dm_X12_keep_119 (u_iast (n := 102) (j := 13) hn rfl rfl (by decide) rfl (Nat.le_of_ble_eq_true rfl)) rfl rfl rfl ?_
  refine me1 (pc' := 123) (L' := [(2, .int (10 : Int32)), (0, .ref 102), (1, .int (2 : Int32))]) dm_X12_keep_120 rfl rfl rfl rfl ?_
  refine me2 (pc' := 40) dm_X12_keep_123 rfl rfl rfl ?_
  refine me1 (pc' := 41) dm_X12_keep_40 rfl rfl rfl rfl ?_
  refine me0 (pc' := 43) (S' := .int (40 : Int32) :: _) dm_X12_keep_41 rfl rfl rfl rfl ?_
  refine me_2f (pc' := 46) dm_X12_keep_43 rfl (by decide) rfl ?_
  refine me1 (pc' := 47) dm_X12_keep_46 rfl rfl rfl rfl ?_
  refine me3 (pc' := 50) dm_X12_keep_47 (g_get (v := .ref 114) (lu (n := 102) (j := 0) hn rfl) rfl rfl (Nat.le_of_ble_eq_true rfl)) rfl rfl rfl ?_
  refine me0 (pc' := 52) (S' := .int (80 : Int32) :: _) dm_X12_keep_50 rfl rfl rfl rfl ?_
  refine me1 (pc' := 53) dm_X12_keep_52 rfl rfl rfl rfl ?_
  refine me0 (pc' := 54) (S' := .int (160 : Int32) :: _) dm_X12_keep_53 rfl rfl rfl rfl ?_
  refine me1 (pc' := 55) dm_X12_keep_54 rfl rfl rfl rfl ?_
  refine me0 (pc' := 56) (S' := .int (170 : Int32) :: _) dm_X12_keep_55 rfl rfl rfl rfl ?_
  refine me1 (pc' := 57) dm_X12_keep_56 rfl rfl rfl rfl ?_
  refine me3 (pc' := 60) dm_X12_keep_57 (g_get (v := .ref 110) (lu (n := 102) (j := 0) hn rfl) rfl rfl (Nat.le_of_ble_eq_true rfl)) rfl rfl rfl ?_
  refine me1 (pc' := 61) dm_X12_keep_60 rfl rfl rfl rfl ?_
  refine me3 (pc' := 62) dm_X12_keep_61 (g_lald (v := (0 : Int64)) (lu (n := 102) (j := 8) hn rfl) rfl (by decide) rfl (Nat.le_of_ble_eq_true rfl)) rfl rfl rfl ?_
  refine me3 (pc' := 63) dm_X12_keep_62 (u_last (n := 102) (j := 12) hn rfl rfl (by decide) rfl (Nat.le_of_ble_eq_true rfl)) rfl rfl rfl ?_
  refine me1 (pc' := 64) dm_X12_keep_63 rfl rfl rfl rfl ?_
  refine me3 (pc' := 67) dm_X12_keep_64 (g_get (v := .ref 115) (lu (n := 102) (j := 0) hn rfl) rfl rfl (Nat.le_of_ble_eq_true rfl)) rfl rfl rfl ?_
  refine me0 (pc' := 69) (S' := .int (80 : Int32) :: _) dm_X12_keep_67 rfl rfl rfl rfl ?_
  refine me1 (pc' := 70) dm_X12_keep_69 rfl rfl rfl rfl ?_
  refine me0 (pc' := 71) (S' := .int (160 : Int32) :: _) dm_X12_keep_70 rfl rfl rfl rfl ?_
  refine me1 (pc' := 72) dm_X12_keep_71 rfl rfl rfl rfl ?_
  refine me0 (pc' := 73) (S' := .int (170 : Int32) :: _) dm_X12_keep_72 rfl rfl rfl rfl ?_
  refine me1 (pc' := 74) dm_X12_keep_73 rfl rfl rfl rfl ?_
  refine me3 (pc' := 77) dm_X12_keep_74 (g_get (v := .ref 112) (lu (n := 102) (j := 0) hn rfl) rfl rfl (Nat.le_of_ble_eq_true rfl)) rfl rfl rfl ?_
  refine me1 (pc' := 78) dm_X12_keep_77 rfl rfl rfl rfl ?_
  refine me3 (pc' := 79) dm_X12_keep_78 (g_iald (v := (0 : Int32)) (lu (n := 102) (j := 10) hn rfl) rfl (by decide) rfl (Nat.le_of_ble_eq_true rfl)) rfl rfl rfl ?_
  refine me3 (pc' := 80) dm_X12_keep_79 (u_iast (n := 102) (j := 13) hn rfl rfl (by decide) rfl (Nat.le_of_ble_eq_true rfl)) rfl rfl rfl ?_
  refine me1 (pc' := 81) dm_X12_keep_80 rfl rfl rfl rfl ?_
  refine me3 (pc' := 84) dm_X12_keep_81 (g_get (v := .ref 114) (lu (n := 102) (j := 0) hn rfl) rfl rfl (Nat.le_of_ble_eq_true rfl)) rfl rfl rfl ?_
  refine me0 (pc' := 86) (S' := .int (80 : Int32) :: _) dm_X12_keep_84 rfl rfl rfl rfl ?_
  refine me1 (pc' := 87) dm_X12_keep_86 rfl rfl rfl rfl ?_
  refine me0 (pc' := 88) (S' := .int (160 : Int32) :: _) dm_X12_keep_87 rfl rfl rfl rfl ?_
  refine me0 (pc' := 90) (S' := .int (40 : Int32) :: _) dm_X12_keep_88 rfl rfl rfl rfl ?_
  refine me0 (pc' := 91) (S' := .int (200 : Int32) :: _) dm_X12_keep_90 rfl rfl rfl rfl ?_
  refine me1 (pc' := 92) dm_X12_keep_91 rfl rfl rfl rfl ?_
  refine me0 (pc' := 93) (S' := .int (210 : Int32) :: _) dm_X12_keep_92 rfl rfl rfl rfl ?_
  refine me1 (pc' := 94) dm_X12_keep_93 rfl rfl rfl rfl ?_
  refine me3 (pc' := 97) dm_X12_keep_94 (g_get (v := .ref 111) (lu (n := 102) (j := 0) hn rfl) rfl rfl (Nat.le_of_ble_eq_true rfl)) rfl rfl rfl ?_
  refine me1 (pc' := 98) dm_X12_keep_97 rfl rfl rfl rfl ?_
  refine me3 (pc' := 99) dm_X12_keep_98 (g_lald (v := (0 : Int64)) (lu (n := 102) (j := 9) hn rfl) rfl (by decide) rfl (Nat.le_of_ble_eq_true rfl)) rfl rfl rfl ?_
  refine me3 (pc' := 100) dm_X12_keep_99 (u_last (n := 102) (j := 12) hn rfl rfl (by decide) rfl (Nat.le_of_ble_eq_true rfl)) rfl rfl rfl ?_
  refine me1 (pc' := 101) dm_X12_keep_100 rfl rfl rfl rfl ?_
  refine me3 (pc' := 104) dm_X12_keep_101 (g_get (v := .ref 115) (lu (n := 102) (j := 0) hn rfl) rfl rfl (Nat.le_of_ble_eq_true rfl)) rfl rfl rfl ?_
  refine me0 (pc' := 106) (S' := .int (80 : Int32) :: _) dm_X12_keep_104 rfl rfl rfl rfl ?_
  refine me1 (pc' := 107) dm_X12_keep_106 rfl rfl rfl rfl ?_
  refine me0 (pc' := 108) (S' := .int (160 : Int32) :: _) dm_X12_keep_107 rfl rfl rfl rfl ?_
  refine me0 (pc' := 110) (S' := .int (40 : Int32) :: _) dm_X12_keep_108 rfl rfl rfl rfl ?_
  refine me0 (pc' := 111) (S' := .int (200 : Int32) :: _) dm_X12_keep_110 rfl rfl rfl rfl ?_
  refine me1 (pc' := 112) dm_X12_keep_111 rfl rfl rfl rfl ?_
  refine me0 (pc' := 113) (S' := .int (210 : Int32) :: _) dm_X12_keep_112 rfl rfl rfl rfl ?_
  refine me1 (pc' := 114) dm_X12_keep_113 rfl rfl rfl rfl ?_
  refine me3 (pc' := 117) dm_X12_keep_114 (g_get (v := .ref 113) (lu (n := 102) (j := 0) hn rfl) rfl rfl (Nat.le_of_ble_eq_true rfl)) rfl rfl rfl ?_
  refine me1 (pc' := 118) dm_X12_keep_117 rfl rfl rfl rfl ?_
  refine me3 (pc' := 119) dm_X12_keep_118 (g_iald (v := (0 : Int32)) (lu (n := 102) (j := 11) hn rfl) rfl (by decide) rfl (Nat.le_of_ble_eq_true rfl)) rfl rfl rfl ?_
  refine me3 (pc' := 120) dm_X12_keep_119 (u_iast (n := 102) (j := 13) hn rfl rfl (by decide) rfl (Nat.le_of_ble_eq_true rfl)) rfl rfl rfl ?_
  refine me1 (pc' := 123) (L' := [(2, .int (11 : Int32)), (0, .ref 102), (1, .int (2 : Int32))]) dm_X12_keep_120 rfl rfl rfl rfl ?_
  refine me2 (pc' := 40) dm_X12_keep_123 rfl rfl rfl ?_
  refine me1 (pc' := 41) dm_X12_keep_40 rfl rfl rfl rfl ?_
  refine me0 (pc' := 43) (S' := .int (40 : Int32) :: _) dm_X12_keep_41 rfl rfl rfl rfl ?_
  refine me_2f (pc' := 46) dm_X12_keep_43 rfl (by decide) rfl ?_
  refine me1 (pc' := 47) dm_X12_keep_46 rfl rfl rfl rfl ?_
  refine me3 (pc' := 50) dm_X12_keep_47 (g_get (v := .ref 114) (lu (n := 102) (j := 0) hn rfl) rfl rfl (Nat.le_of_ble_eq_true rfl)) rfl rfl rfl ?_
  refine me0 (pc' := 52) (S' := .int (80 : Int32) :: _) dm_X12_keep_50 rfl rfl rfl rfl ?_
  refine me1 (pc' := 53) dm_X12_keep_52 rfl rfl rfl rfl ?_
  refine me0 (pc' := 54) (S' := .int (160 : Int32) :: _) dm_X12_keep_53 rfl rfl rfl rfl ?_
  refine me1 (pc' := 55) dm_X12_keep_54 rfl rfl rfl rfl ?_
  refine me0 (pc' := 56) (S' := .int (171 : Int32) :: _) dm_X12_keep_55 rfl rfl rfl rfl ?_
  refine me1 (pc' := 57) dm_X12_keep_56 rfl rfl rfl rfl ?_
  refine me3 (pc' := 60) dm_X12_keep_57 (g_get (v := .ref 110) (lu (n := 102) (j := 0) hn rfl) rfl rfl (Nat.le_of_ble_eq_true rfl)) rfl rfl rfl ?_
  refine me1 (pc' := 61) dm_X12_keep_60 rfl rfl rfl rfl ?_
  refine me3 (pc' := 62) dm_X12_keep_61 (g_lald (v := (0 : Int64)) (lu (n := 102) (j := 8) hn rfl) rfl (by decide) rfl (Nat.le_of_ble_eq_true rfl)) rfl rfl rfl ?_
  refine me3 (pc' := 63) dm_X12_keep_62 (u_last (n := 102) (j := 12) hn rfl rfl (by decide) rfl (Nat.le_of_ble_eq_true rfl)) rfl rfl rfl ?_
  refine me1 (pc' := 64) dm_X12_keep_63 rfl rfl rfl rfl ?_
  refine me3 (pc' := 67) dm_X12_keep_64 (g_get (v := .ref 115) (lu (n := 102) (j := 0) hn rfl) rfl rfl (Nat.le_of_ble_eq_true rfl)) rfl rfl rfl ?_
  refine me0 (pc' := 69) (S' := .int (80 : Int32) :: _) dm_X12_keep_67 rfl rfl rfl rfl ?_
  refine me1 (pc' := 70) dm_X12_keep_69 rfl rfl rfl rfl ?_
  refine me0 (pc' := 71) (S' := .int (160 : Int32) :: _) dm_X12_keep_70 rfl rfl rfl rfl ?_
  refine me1 (pc' := 72) dm_X12_keep_71 rfl rfl rfl rfl ?_
  refine me0 (pc' := 73) (S' := .int (171 : Int32) :: _) dm_X12_keep_72 rfl rfl rfl rfl ?_
  refine me1 (pc' := 74) dm_X12_keep_73 rfl rfl rfl rfl ?_
  refine me3 (pc' := 77) dm_X12_keep_74 (g_get (v := .ref 112) (lu (n := 102) (j := 0) hn rfl) rfl rfl (Nat.le_of_ble_eq_true rfl)) rfl rfl rfl ?_
  refine me1 (pc' := 78) dm_X12_keep_77 rfl rfl rfl rfl ?_
  refine me3 (pc' := 79) dm_X12_keep_78 (g_iald (v := (0 : Int32)) (lu (n := 102) (j := 10) hn rfl) rfl (by decide) rfl (Nat.le_of_ble_eq_true rfl)) rfl rfl rfl ?_
  refine me3 (pc' := 80) dm_X12_keep_79 (u_iast (n := 102) (j := 13) hn rfl rfl (by decide) rfl (Nat.le_of_ble_eq_true rfl)) rfl rfl rfl ?_
  refine me1 (pc' := 81) dm_X12_keep_80 rfl rfl rfl rfl ?_
  refine me3 (pc' := 84) dm_X12_keep_81 (g_get (v := .ref 114) (lu (n := 102) (j := 0) hn rfl) rfl rfl (Nat.le_of_ble_eq_true rfl)) rfl rfl rfl ?_
  refine me0 (pc' := 86) (S' := .int (80 : Int32) :: _) dm_X12_keep_84 rfl rfl rfl rfl ?_
  refine me1 (pc' := 87) dm_X12_keep_86 rfl rfl rfl rfl ?_
  refine me0 (pc' := 88) (S' := .int (160 : Int32) :: _) dm_X12_keep_87 rfl rfl rfl rfl ?_
  refine me0 (pc' := 90) (S' := .int (40 : Int32) :: _) dm_X12_keep_88 rfl rfl rfl rfl ?_
  refine me0 (pc' := 91) (S' := .int (200 : Int32) :: _) dm_X12_keep_90 rfl rfl rfl rfl ?_
  refine me1 (pc' := 92) dm_X12_keep_91 rfl rfl rfl rfl ?_
  refine me0 (pc' := 93) (S' := .int (211 : Int32) :: _) dm_X12_keep_92 rfl rfl rfl rfl ?_
  refine me1 (pc' := 94) dm_X12_keep_93 rfl rfl rfl rfl ?_
  refine me3 (pc' := 97) dm_X12_keep_94 (g_get (v := .ref 111) (lu (n := 102) (j := 0) hn rfl) rfl rfl (Nat.le_of_ble_eq_true rfl)) rfl rfl rfl ?_
  refine me1 (pc' := 98) dm_X12_keep_97 rfl rfl rfl rfl ?_
  refine me3 (pc' := 99) dm_X12_keep_98 (g_lald (v := (0 : Int64)) (lu (n := 102) (j := 9) hn rfl) rfl (by decide) rfl (Nat.le_of_ble_eq_true rfl)) rfl rfl rfl ?_
  refine me3 (pc' := 100) dm_X12_keep_99 (u_last (n := 102) (j := 12) hn rfl rfl (by decide) rfl (Nat.le_of_ble_eq_true rfl)) rfl rfl rfl ?_
  refine me1 (pc' := 101) dm_X12_keep_100 rfl rfl rfl rfl ?_
  refine me3 (pc' := 104) dm_X12_keep_101 (g_get (v := .ref 115) (lu (n := 102) (j := 0) hn rfl) rfl rfl (Nat.le_of_ble_eq_true rfl)) rfl rfl rfl ?_
  refine me0 (pc' := 106) (S' := .int (80 : Int32) :: _) dm_X12_keep_104 rfl rfl rfl rfl ?_
  refine me1 (pc' := 107) dm_X12_keep_106 rfl rfl rfl rfl ?_
  refine me0 (pc' := 108) (S' := .int (160 : Int32) :: _) dm_X12_keep_107 rfl rfl rfl rfl ?_
  refine me0 (pc' := 110) (S' := .int (40 : Int32) :: _) dm_X12_keep_108 rfl rfl rfl rfl ?_
  refine me0 (pc' := 111) (S' := .int (200 : Int32) :: _) dm_X12_keep_110 rfl rfl rfl rfl ?_
  refine me1 (pc' := 112) dm_X12_keep_111 rfl rfl rfl rfl ?_
  refine me0 (pc' := 113) (S' := .int (211 : Int32) :: _) dm_X12_keep_112 rfl rfl rfl rfl ?_
  refine me1 (pc' := 114) dm_X12_keep_113 rfl rfl rfl rfl ?_
  refine me3 (pc' := 117) dm_X12_keep_114 (g_get (v := .ref 113) (lu (n := 102) (j := 0) hn rfl) rfl rfl (Nat.le_of_ble_eq_true rfl)) rfl rfl rfl ?_
  refine me1 (pc' := 118) dm_X12_keep_117 rfl rfl rfl rfl ?_
  refine me3 (pc' := 119) dm_X12_keep_118 (g_iald (v := (0 : Int32)) (lu (n := 102) (j := 11) hn rfl) rfl (by decide) rfl (Nat.le_of_ble_eq_true rfl)) rfl rfl rfl ?_
  refine me3 (pc' := 120) dm_X12_keep_119 (u_iast (n := 102) (j := 13) hn rfl rfl (by decide) rfl (Nat.le_of_ble_eq_true rfl)) rfl rfl rfl ?_
  refine me1 (pc' := 123) (L' := [(2, .int (12 : Int32)), (0, .ref 102), (1, .int (2 : Int32))]) dm_X12_keep_120 rfl rfl rfl rfl ?_
  refine me2 (pc' := 40) dm_X12_keep_123 rfl rfl rfl ?_
  refine me1 (pc' := 41) dm_X12_keep_40 rfl rfl rfl rfl ?_
  refine me0 (pc' := 43) (S' := .int (40 : Int32) :: _) dm_X12_keep_41 rfl rfl rfl rfl ?_
  refine me_2f (pc' := 46) dm_X12_keep_43 rfl (by decide) rfl ?_
  refine me1 (pc' := 47) dm_X12_keep_46 rfl rfl rfl rfl ?_
  refine me3 (pc' := 50) dm_X12_keep_47 (g_get (v := .ref 114) (lu (n := 102) (j := 0) hn rfl) rfl rfl (Nat.le_of_ble_eq_true rfl)) rfl rfl rfl ?_
  refine me0 (pc' := 52) (S' := .int (80 : Int32) :: _) dm_X12_keep_50 rfl rfl rfl rfl ?_
  refine me1 (pc' := 53) dm_X12_keep_52 rfl rfl rfl rfl ?_
  refine me0 (pc' := 54) (S' := .int (160 : Int32) :: _) dm_X12_keep_53 rfl rfl rfl rfl ?_
  refine me1 (pc' := 55) dm_X12_keep_54 rfl rfl rfl rfl ?_
  refine me0 (pc' := 56) (S' := .int (172 : Int32) :: _) dm_X12_keep_55 rfl rfl rfl rfl ?_
  refine me1 (pc' := 57) dm_X12_keep_56 rfl rfl rfl rfl ?_
  refine me3 (pc' := 60) dm_X12_keep_57 (g_get (v := .ref 110) (lu (n := 102) (j := 0) hn rfl) rfl rfl (Nat.le_of_ble_eq_true rfl)) rfl rfl rfl ?_
  refine me1 (pc' := 61) dm_X12_keep_60 rfl rfl rfl rfl ?_
  refine me3 (pc' := 62) dm_X12_keep_61 (g_lald (v := (0 : Int64)) (lu (n := 102) (j := 8) hn rfl) rfl (by decide) rfl (Nat.le_of_ble_eq_true rfl)) rfl rfl rfl ?_
  refine me3 (pc' := 63) dm_X12_keep_62 (u_last (n := 102) (j := 12) hn rfl rfl (by decide) rfl (Nat.le_of_ble_eq_true rfl)) rfl rfl rfl ?_
  refine me1 (pc' := 64) dm_X12_keep_63 rfl rfl rfl rfl ?_
  refine me3 (pc' := 67) dm_X12_keep_64 (g_get (v := .ref 115) (lu (n := 102) (j := 0) hn rfl) rfl rfl (Nat.le_of_ble_eq_true rfl)) rfl rfl rfl ?_
  refine me0 (pc' := 69) (S' := .int (80 : Int32) :: _) dm_X12_keep_67 rfl rfl rfl rfl ?_
  refine me1 (pc' := 70) dm_X12_keep_69 rfl rfl rfl rfl ?_
  refine me0 (pc' := 71) (S' := .int (160 : Int32) :: _) dm_X12_keep_70 rfl rfl rfl rfl ?_
  refine me1 (pc' := 72) dm_X12_keep_71 rfl rfl rfl rfl ?_
  refine me0 (pc' := 73) (S' := .int (172 : Int32) :: _) dm_X12_keep_72 rfl rfl rfl rfl ?_
  refine me1 (pc' := 74) dm_X12_keep_73 rfl rfl rfl rfl ?_
  refine me3 (pc' := 77) dm_X12_keep_74 (g_get (v := .ref 112) (lu (n := 102) (j := 0) hn rfl) rfl rfl (Nat.le_of_ble_eq_true rfl)) rfl rfl rfl ?_
  refine me1 (pc' := 78) dm_X12_keep_77 rfl rfl rfl rfl ?_
  refine me3 (pc' := 79) dm_X12_keep_78 (g_iald (v := (0 : Int32)) (lu (n := 102) (j := 10) hn rfl) rfl (by decide) rfl (Nat.le_of_ble_eq_true rfl)) rfl rfl rfl ?_
  refine me3 (pc' := 80) dm_X12_keep_79 (u_iast (n := 102) (j := 13) hn rfl rfl (by decide) rfl (Nat.le_of_ble_eq_true rfl)) rfl rfl rfl ?_
  refine me1 (pc' := 81) dm_X12_keep_80 rfl rfl rfl rfl ?_
  refine me3 (pc' := 84) dm_X12_keep_81 (g_get (v := .ref 114) (lu (n := 102) (j := 0) hn rfl) rfl rfl (Nat.le_of_ble_eq_true rfl)) rfl rfl rfl ?_
  refine me0 (pc' := 86) (S' := .int (80 : Int32) :: _) dm_X12_keep_84 rfl rfl rfl rfl ?_
  refine me1 (pc' := 87) dm_X12_keep_86 rfl rfl rfl rfl ?_
  refine me0 (pc' := 88) (S' := .int (160 : Int32) :: _) dm_X12_keep_87 rfl rfl rfl rfl ?_
  refine me0 (pc' := 90) (S' := .int (40 : Int32) :: _) dm_X12_keep_88 rfl rfl rfl rfl ?_
  refine me0 (pc' := 91) (S' := .int (200 : Int32) :: _) dm_X12_keep_90 rfl rfl rfl rfl ?_
  refine me1 (pc' := 92) dm_X12_keep_91 rfl rfl rfl rfl ?_
  refine me0 (pc' := 93) (S' := .int (212 : Int32) :: _) dm_X12_keep_92 rfl rfl rfl rfl ?_
  refine me1 (pc' := 94) dm_X12_keep_93 rfl rfl rfl rfl ?_
  refine me3 (pc' := 97) dm_X12_keep_94 (g_get (v := .ref 111) (lu (n := 102) (j := 0) hn rfl) rfl rfl (Nat.le_of_ble_eq_true rfl)) rfl rfl rfl ?_
  refine me1 (pc' := 98) dm_X12_keep_97 rfl rfl rfl rfl ?_
  refine me3 (pc' := 99) dm_X12_keep_98 (g_lald (v := (0 : Int64)) (lu (n := 102) (j := 9) hn rfl) rfl (by decide) rfl (Nat.le_of_ble_eq_true rfl)) rfl rfl rfl ?_
  refine me3 (pc' := 100) dm_X12_keep_99 (u_last (n := 102) (j := 12) hn rfl rfl (by decide) rfl (Nat.le_of_ble_eq_true rfl)) rfl rfl rfl ?_
  refine me1 (pc' := 101) dm_X12_keep_100 rfl rfl rfl rfl ?_
  refine me3 (pc' := 104) dm_X12_keep_101 (g_get (v := .ref 115) (lu (n := 102) (j := 0) hn rfl) rfl rfl (Nat.le_of_ble_eq_true rfl)) rfl rfl rfl ?_
  refine me0 (pc' := 106) (S' := .int (80 : Int32) :: _) dm_X12_keep_104 rfl rfl rfl rfl ?_
  refine me1 (pc' := 107) dm_X12_keep_106 rfl rfl rfl rfl ?_
  refine me0 (pc' := 108) (S' := .int (160 : Int32) :: _) dm_X12_keep_107 rfl rfl rfl rfl ?_
  refine me0 (pc' := 110) (S' := .int (40 : Int32) :: _) dm_X12_keep_108 rfl rfl rfl rfl ?_
  refine me0 (pc' := 111) (S' := .int (200 : Int32) :: _) dm_X12_keep_110 rfl rfl rfl rfl ?_
  refine me1 (pc' := 112) dm_X12_keep_111 rfl rfl rfl rfl ?_
  refine me0 (pc' := 113) (S' := .int (212 : Int32) :: _) dm_X12_keep_112 rfl rfl rfl rfl ?_
  refine me1 (pc' := 114) dm_X12_keep_113 rfl rfl rfl rfl ?_
  refine me3 (pc' := 117) dm_X12_keep_114 (g_get (v := .ref 113) (lu (n := 102) (j := 0) hn rfl) rfl rfl (Nat.le_of_ble_eq_true rfl)) rfl rfl rfl ?_
  refine me1 (pc' := 118) dm_X12_keep_117 rfl rfl rfl rfl ?_
  refine me3 (pc' := 119) dm_X12_keep_118 (g_iald (v := (0 : Int32)) (lu (n := 102) (j := 11) hn rfl) rfl (by decide) rfl (Nat.le_of_ble_eq_true rfl)) rfl rfl rfl ?_
  refine me3 (pc' := 120) dm_X12_keep_119 (u_iast (n := 102) (j := 13) hn rfl rfl (by decide) rfl (Nat.le_of_ble_eq_true rfl)) rfl rfl rfl ?_
  refine me1 (pc' := 123) (L' := [(2, .int (13 : Int32)), (0, .ref 102), (1, .int (2 : Int32))]) dm_X12_keep_120 rfl rfl rfl rfl ?_
  refine me2 (pc' := 40) dm_X12_keep_123 rfl rfl rfl ?_
  refine me1 (pc' := 41) dm_X12_keep_40 rfl rfl rfl rfl ?_
  refine me0 (pc' := 43) (S' := .int (40 : Int32) :: _) dm_X12_keep_41 rfl rfl rfl rfl ?_
  refine me_2f (pc' := 46) dm_X12_keep_43 rfl (by decide) rfl ?_
  refine me1 (pc' := 47) dm_X12_keep_46 rfl rfl rfl rfl ?_
  refine me3 (pc' := 50) dm_X12_keep_47 (g_get (v := .ref 114) (lu (n := 102) (j := 0) hn rfl) rfl rfl (Nat.le_of_ble_eq_true rfl)) rfl rfl rfl ?_
  refine me0 (pc' := 52) (S' := .int (80 : Int32) :: _) dm_X12_keep_50 rfl rfl rfl rfl ?_
  refine me1 (pc' := 53) dm_X12_keep_52 rfl rfl rfl rfl ?_
  refine me0 (pc' := 54) (S' := .int (160 : Int32) :: _) dm_X12_keep_53 rfl rfl rfl rfl ?_
  refine me1 (pc' := 55) dm_X12_keep_54 rfl rfl rfl rfl ?_
  refine me0 (pc' := 56) (S' := .int (173 : Int32) :: _) dm_X12_keep_55 rfl rfl rfl rfl ?_
  refine me1 (pc' := 57) dm_X12_keep_56 rfl rfl rfl rfl ?_
  refine me3 (pc' := 60) dm_X12_keep_57 (g_get (v := .ref 110) (lu (n := 102) (j := 0) hn rfl) rfl rfl (Nat.le_of_ble_eq_true rfl)) rfl rfl rfl ?_
  refine me1 (pc' := 61) dm_X12_keep_60 rfl rfl rfl rfl ?_
  refine me3 (pc' := 62) dm_X12_keep_61 (g_lald (v := (0 : Int64)) (lu (n := 102) (j := 8) hn rfl) rfl (by decide) rfl (Nat.le_of_ble_eq_true rfl)) rfl rfl rfl ?_
  refine me3 (pc' := 63) dm_X12_keep_62 (u_last (n := 102) (j := 12) hn rfl rfl (by decide) rfl (Nat.le_of_ble_eq_true rfl)) rfl rfl rfl ?_
  refine me1 (pc' := 64) dm_X12_keep_63 rfl rfl rfl rfl ?_
  refine me3 (pc' := 67) dm_X12_keep_64 (g_get (v := .ref 115) (lu (n := 102) (j := 0) hn rfl) rfl rfl (Nat.le_of_ble_eq_true rfl)) rfl rfl rfl ?_
  refine me0 (pc' := 69) (S' := .int (80 : Int32) :: _) dm_X12_keep_67 rfl rfl rfl rfl ?_
  refine me1 (pc' := 70) dm_X12_keep_69 rfl rfl rfl rfl ?_
  refine me0 (pc' := 71) (S' := .int (160 : Int32) :: _) dm_X12_keep_70 rfl rfl rfl rfl ?_
  refine me1 (pc' := 72) dm_X12_keep_71 rfl rfl rfl rfl ?_
  refine me0 (pc' := 73) (S' := .int (173 : Int32) :: _) dm_X12_keep_72 rfl rfl rfl rfl ?_
  refine me1 (pc' := 74) dm_X12_keep_73 rfl rfl rfl rfl ?_
  refine me3 (pc' := 77) dm_X12_keep_74 (g_get (v := .ref 112) (lu (n := 102) (j := 0) hn rfl) rfl rfl (Nat.le_of_ble_eq_true rfl)) rfl rfl rfl ?_
  refine me1 (pc' := 78) dm_X12_keep_77 rfl rfl rfl rfl ?_
  refine me3 (pc' := 79) dm_X12_keep_78 (g_iald (v := (0 : Int32)) (lu (n := 102) (j := 10) hn rfl) rfl (by decide) rfl (Nat.le_of_ble_eq_true rfl)) rfl rfl rfl ?_
  refine me3 (pc' := 80) dm_X12_keep_79 (u_iast (n := 102) (j := 13) hn rfl rfl (by decide) rfl (Nat.le_of_ble_eq_true rfl)) rfl rfl rfl ?_
  refine me1 (pc' := 81) dm_X12_keep_80 rfl rfl rfl rfl ?_
  refine me3 (pc' := 84) dm_X12_keep_81 (g_get (v := .ref 114) (lu (n := 102) (j := 0) hn rfl) rfl rfl (Nat.le_of_ble_eq_true rfl)) rfl rfl rfl ?_
  refine me0 (pc' := 86) (S' := .int (80 : Int32) :: _) dm_X12_keep_84 rfl rfl rfl rfl ?_
  refine me1 (pc' := 87) dm_X12_keep_86 rfl rfl rfl rfl ?_
  refine me0 (pc' := 88) (S' := .int (160 : Int32) :: _) dm_X12_keep_87 rfl rfl rfl rfl ?_
  refine me0 (pc' := 90) (S' := .int (40 : Int32) :: _) dm_X12_keep_88 rfl rfl rfl rfl ?_
  refine me0 (pc' := 91) (S' := .int (200 : Int32) :: _) dm_X12_keep_90 rfl rfl rfl rfl ?_
  refine me1 (pc' := 92) dm_X12_keep_91 rfl rfl rfl rfl ?_
  refine me0 (pc' := 93) (S' := .int (213 : Int32) :: _) dm_X12_keep_92 rfl rfl rfl rfl ?_
  refine me1 (pc' := 94) dm_X12_keep_93 rfl rfl rfl rfl ?_
  refine me3 (pc' := 97) dm_X12_keep_94 (g_get (v := .ref 111) (lu (n := 102) (j := 0) hn rfl) rfl rfl (Nat.le_of_ble_eq_true rfl)) rfl rfl rfl ?_
  refine me1 (pc' := 98) dm_X12_keep_97 rfl rfl rfl rfl ?_
  refine me3 (pc' := 99) dm_X12_keep_98 (g_lald (v := (0 : Int64)) (lu (n := 102) (j := 9) hn rfl) rfl (by decide) rfl (Nat.le_of_ble_eq_true rfl)) rfl rfl rfl ?_
  refine me3 (pc' := 100) dm_X12_keep_99 (u_last (n := 102) (j := 12) hn rfl rfl (by decide) rfl (Nat.le_of_ble_eq_true rfl)) rfl rfl rfl ?_
  refine me1 (pc' := 101) dm_X12_keep_100 rfl rfl rfl rfl ?_
  refine me3 (pc' := 104) dm_X12_keep_101 (g_get (v := .ref 115) (lu (n := 102) (j := 0) hn rfl) rfl rfl (Nat.le_of_ble_eq_true rfl)) rfl rfl rfl ?_
  refine me0 (pc' := 106) (S' := .int (80 : Int32) :: _) dm_X12_keep_104 rfl rfl rfl rfl ?_
  refine me1 (pc' := 107) dm_X12_keep_106 rfl rfl rfl rfl ?_
  refine me0 (pc' := 108) (S' := .int (160 : Int32) :: _) dm_X12_keep_107 rfl rfl rfl rfl ?_
  refine me0 (pc' := 110) (S' := .int (40 : Int32) :: _) dm_X12_keep_108 rfl rfl rfl rfl ?_
  refine me0 (pc' := 111) (S' := .int (200 : Int32) :: _) dm_X12_keep_110 rfl rfl rfl rfl ?_
  refine me1 (pc' := 112) dm_X12_keep_111 rfl rfl rfl rfl ?_
  refine me0 (pc' := 113) (S' := .int (213 : Int32) :: _) dm_X12_keep_112 rfl rfl rfl rfl ?_
  refine me1 (pc' := 114) dm_X12_keep_113 rfl rfl rfl rfl ?_
  refine me3 (pc' := 117) dm_X12_keep_114 (g_get (v := .ref 113) (lu (n := 102) (j := 0) hn rfl) rfl rfl (Nat.le_of_ble_eq_true rfl)) rfl rfl rfl ?_
  refine me1 (pc' := 118) dm_X12_keep_117 rfl rfl rfl rfl ?_
  refine me3 (pc' := 119) dm_X12_keep_118 (g_iald (v := (0 : Int32)) (lu (n := 102) (j := 11) hn rfl) rfl (by decide) rfl (Nat.le_of_ble_eq_true rfl)) rfl rfl rfl ?_
  refine me3 (pc' := 120) dm_X12_keep_119 (u_iast (n := 102) (j := 13) hn rfl rfl (by decide) rfl (Nat.le_of_ble_eq_true rfl)) rfl rfl rfl ?_
  refine me1 (pc' := 123) (L' := [(2, .int (14 : Int32)), (0, .ref 102), (1, .int (2 : Int32))]) dm_X12_keep_120 rfl rfl rfl rfl ?_
  refine me2 (pc' := 40) dm_X12_keep_123 rfl rfl rfl ?_
  refine me1 (pc' := 41) dm_X12_keep_40 rfl rfl rfl rfl ?_
  refine me0 (pc' := 43) (S' := .int (40 : Int32) :: _) dm_X12_keep_41 rfl rfl rfl rfl ?_
  refine me_2f (pc' := 46) dm_X12_keep_43 rfl (by decide) rfl ?_
  refine me1 (pc' := 47) dm_X12_keep_46 rfl rfl rfl rfl ?_
  refine me3 (pc' := 50) dm_X12_keep_47 (g_get (v := .ref 114) (lu (n := 102) (j := 0) hn rfl) rfl rfl (Nat.le_of_ble_eq_true rfl)) rfl rfl rfl ?_
  refine me0 (pc' := 52) (S' := .int (80 : Int32) :: _) dm_X12_keep_50 rfl rfl rfl rfl ?_
  refine me1 (pc' := 53) dm_X12_keep_52 rfl rfl rfl rfl ?_
  refine me0 (pc' := 54) (S' := .int (160 : Int32) :: _) dm_X12_keep_53 rfl rfl rfl rfl ?_
  refine me1 (pc' := 55) dm_X12_keep_54 rfl rfl rfl rfl ?_
  refine me0 (pc' := 56) (S' := .int (174 : Int32) :: _) dm_X12_keep_55 rfl rfl rfl rfl ?_
  refine me1 (pc' := 57) dm_X12_keep_56 rfl rfl rfl rfl ?_
  refine me3 (pc' := 60) dm_X12_keep_57 (g_get (v := .ref 110) (lu (n := 102) (j := 0) hn rfl) rfl rfl (Nat.le_of_ble_eq_true rfl)) rfl rfl rfl ?_
  refine me1 (pc' := 61) dm_X12_keep_60 rfl rfl rfl rfl ?_
  refine me3 (pc' := 62) dm_X12_keep_61 (g_lald (v := (0 : Int64)) (lu (n := 102) (j := 8) hn rfl) rfl (by decide) rfl (Nat.le_of_ble_eq_true rfl)) rfl rfl rfl ?_
  refine me3 (pc' := 63) dm_X12_keep_62 (u_last (n := 102) (j := 12) hn rfl rfl (by decide) rfl (Nat.le_of_ble_eq_true rfl)) rfl rfl rfl ?_
  refine me1 (pc' := 64) dm_X12_keep_63 rfl rfl rfl rfl ?_
  refine me3 (pc' := 67) dm_X12_keep_64 (g_get (v := .ref 115) (lu (n := 102) (j := 0) hn rfl) rfl rfl (Nat.le_of_ble_eq_true rfl)) rfl rfl rfl ?_
  refine me0 (pc' := 69) (S' := .int (80 : Int32) :: _) dm_X12_keep_67 rfl rfl rfl rfl ?_
  refine me1 (pc' := 70) dm_X12_keep_69 rfl rfl rfl rfl ?_
  refine me0 (pc' := 71) (S' := .int (160 : Int32) :: _) dm_X12_keep_70 rfl rfl rfl rfl ?_
  refine me1 (pc' := 72) dm_X12_keep_71 rfl rfl rfl rfl ?_
  refine me0 (pc' := 73) (S' := .int (174 : Int32) :: _) dm_X12_keep_72 rfl rfl rfl rfl ?_
  refine me1 (pc' := 74) dm_X12_keep_73 rfl rfl rfl rfl ?_
  refine me3 (pc' := 77) dm_X12_keep_74 (g_get (v := .ref 112) (lu (n := 102) (j := 0) hn rfl) rfl rfl (Nat.le_of_ble_eq_true rfl)) rfl rfl rfl ?_
  refine me1 (pc' := 78) dm_X12_keep_77 rfl rfl rfl rfl ?_
  refine me3 (pc' := 79) dm_X12_keep_78 (g_iald (v := (0 : Int32)) (lu (n := 102) (j := 10) hn rfl) rfl (by decide) rfl (Nat.le_of_ble_eq_true rfl)) rfl rfl rfl ?_
  refine me3 (pc' := 80) dm_X12_keep_79 (u_iast (n := 102) (j := 13) hn rfl rfl (by decide) rfl (Nat.le_of_ble_eq_true rfl)) rfl rfl rfl ?_
  refine me1 (pc' := 81) dm_X12_keep_80 rfl rfl rfl rfl ?_
  refine me3 (pc' := 84) dm_X12_keep_81 (g_get (v := .ref 114) (lu (n := 102) (j := 0) hn rfl) rfl rfl (Nat.le_of_ble_eq_true rfl)) rfl rfl rfl ?_
  refine me0 (pc' := 86) (S' := .int (80 : Int32) :: _) dm_X12_keep_84 rfl rfl rfl rfl ?_
  refine me1 (pc' := 87) dm_X12_keep_86 rfl rfl rfl rfl ?_
  refine me0 (pc' := 88) (S' := .int (160 : Int32) :: _) dm_X12_keep_87 rfl rfl rfl rfl ?_
  refine me0 (pc' := 90) (S' := .int (40 : Int32) :: _) dm_X12_keep_88 rfl rfl rfl rfl ?_
  refine me0 (pc' := 91) (S' := .int (200 : Int32) :: _) dm_X12_keep_90 rfl rfl rfl rfl ?_
  refine me1 (pc' := 92) dm_X12_keep_91 rfl rfl rfl rfl ?_
  refine me0 (pc' := 93) (S' := .int (214 : Int32) :: _) dm_X12_keep_92 rfl rfl rfl rfl ?_
  refine me1 (pc' := 94) dm_X12_keep_93 rfl rfl rfl rfl ?_
  refine me3 (pc' := 97) dm_X12_keep_94 (g_get (v := .ref 111) (lu (n := 102) (j := 0) hn rfl) rfl rfl (Nat.le_of_ble_eq_true rfl)) rfl rfl rfl ?_
  refine me1 (pc' := 98) dm_X12_keep_97 rfl rfl rfl rfl ?_
  refine me3 (pc' := 99) dm_X12_keep_98 (g_lald (v := (0 : Int64)) (lu (n := 102) (j := 9) hn rfl) rfl (by decide) rfl (Nat.le_of_ble_eq_true rfl)) rfl rfl rfl ?_
  refine me3 (pc' := 100) dm_X12_keep_99 (u_last (n := 102) (j := 12) hn rfl rfl (by decide) rfl (Nat.le_of_ble_eq_true rfl)) rfl rfl rfl ?_
  refine me1 (pc' := 101) dm_X12_keep_100 rfl rfl rfl rfl ?_
  refine me3 (pc' := 104) dm_X12_keep_101 (g_get (v := .ref 115) (lu (n := 102) (j := 0) hn rfl) rfl rfl (Nat.le_of_ble_eq_true rfl)) rfl rfl rfl ?_
  refine me0 (pc' := 106) (S' := .int (80 : Int32) :: _) dm_X12_keep_104 rfl rfl rfl rfl ?_
  refine me1 (pc' := 107) dm_X12_keep_106 rfl rfl rfl rfl ?_
  refine me0 (pc' := 108) (S' := .int (160 : Int32) :: _) dm_X12_keep_107 rfl rfl rfl rfl ?_
  refine me0 (pc' := 110) (S' := .int (40 : Int32) :: _) dm_X12_keep_108 rfl rfl rfl rfl ?_
  refine me0 (pc' := 111) (S' := .int (200 : Int32) :: _) dm_X12_keep_110 rfl rfl rfl rfl ?_
  refine me1 (pc' := 112) dm_X12_keep_111 rfl rfl rfl rfl ?_
  refine me0 (pc' := 113) (S' := .int (214 : Int32) :: _) dm_X12_keep_112 rfl rfl rfl rfl ?_
  refine me1 (pc' := 114) dm_X12_keep_113 rfl rfl rfl rfl ?_
  refine me3 (pc' := 117) dm_X12_keep_114 (g_get (v := .ref 113) (lu (n := 102) (j := 0) hn rfl) rfl rfl (Nat.le_of_ble_eq_true rfl)) rfl rfl rfl ?_
  refine me1 (pc' := 118) dm_X12_keep_117 rfl rfl rfl rfl ?_
  refine me3 (pc' := 119) dm_X12_keep_118 (g_iald (v := (0 : Int32)) (lu (n := 102) (j := 11) hn rfl) rfl (by decide) rfl (Nat.le_of_ble_eq_true rfl)) rfl rfl rfl ?_
  refine me3 (pc' := 120) dm_X12_keep_119 (u_iast (n := 102) (j := 13) hn rfl rfl (by decide) rfl (Nat.le_of_ble_eq_true rfl)) rfl rfl rfl ?_
  refine me1 (pc' := 123) (L' := [(2, .int (15 : Int32)), (0, .ref 102), (1, .int (2 : Int32))]) dm_X12_keep_120 rfl rfl rfl rfl ?_
  refine me2 (pc' := 40) dm_X12_keep_123 rfl rfl rfl ?_
  refine me1 (pc' := 41) dm_X12_keep_40 rfl rfl rfl rfl ?_
  refine me0 (pc' := 43) (S' := .int (40 : Int32) :: _) dm_X12_keep_41 rfl rfl rfl rfl ?_
  refine me_2f (pc' := 46) dm_X12_keep_43 rfl (by decide) rfl ?_
  refine me1 (pc' := 47) dm_X12_keep_46 rfl rfl rfl rfl ?_
  refine me3 (pc' := 50) dm_X12_keep_47 (g_get (v := .ref 114) (lu (n := 102) (j := 0) hn rfl) rfl rfl (Nat.le_of_ble_eq_true rfl)) rfl rfl rfl ?_
  refine me0 (pc' := 52) (S' := .int (80 : Int32) :: _) dm_X12_keep_50 rfl rfl rfl rfl ?_
  refine me1 (pc' := 53) dm_X12_keep_52 rfl rfl rfl rfl ?_
  refine me0 (pc' := 54) (S' := .int (160 : Int32) :: _) dm_X12_keep_53 rfl rfl rfl rfl ?_
  refine me1 (pc' := 55) dm_X12_keep_54 rfl rfl rfl rfl ?_
  refine me0 (pc' := 56) (S' := .int (175 : Int32) :: _) dm_X12_keep_55 rfl rfl rfl rfl ?_
  refine me1 (pc' := 57) dm_X12_keep_56 rfl rfl rfl rfl ?_
  refine me3 (pc' := 60) dm_X12_keep_57 (g_get (v := .ref 110) (lu (n := 102) (j := 0) hn rfl) rfl rfl (Nat.le_of_ble_eq_true rfl)) rfl rfl rfl ?_
  refine me1 (pc' := 61) dm_X12_keep_60 rfl rfl rfl rfl ?_
  refine me3 (pc' := 62) dm_X12_keep_61 (g_lald (v := (0 : Int64)) (lu (n := 102) (j := 8) hn rfl) rfl (by decide) rfl (Nat.le_of_ble_eq_true rfl)) rfl rfl rfl ?_
  refine me3 (pc' := 63) dm_X12_keep_62 (u_last (n := 102) (j := 12) hn rfl rfl (by decide) rfl (Nat.le_of_ble_eq_true rfl)) rfl rfl rfl ?_
  refine me1 (pc' := 64) dm_X12_keep_63 rfl rfl rfl rfl ?_
  refine me3 (pc' := 67) dm_X12_keep_64 (g_get (v := .ref 115) (lu (n := 102) (j := 0) hn rfl) rfl rfl (Nat.le_of_ble_eq_true rfl)) rfl rfl rfl ?_
  refine me0 (pc' := 69) (S' := .int (80 : Int32) :: _) dm_X12_keep_67 rfl rfl rfl rfl ?_
  refine me1 (pc' := 70) dm_X12_keep_69 rfl rfl rfl rfl ?_
  refine me0 (pc' := 71) (S' := .int (160 : Int32) :: _) dm_X12_keep_70 rfl rfl rfl rfl ?_
  refine me1 (pc' := 72) dm_X12_keep_71 rfl rfl rfl rfl ?_
  refine me0 (pc' := 73) (S' := .int (175 : Int32) :: _) dm_X12_keep_72 rfl rfl rfl rfl ?_
  refine me1 (pc' := 74) dm_X12_keep_73 rfl rfl rfl rfl ?_
  refine me3 (pc' := 77) dm_X12_keep_74 (g_get (v := .ref 112) (lu (n := 102) (j := 0) hn rfl) rfl rfl (Nat.le_of_ble_eq_true rfl)) rfl rfl rfl ?_
  refine me1 (pc' := 78) dm_X12_keep_77 rfl rfl rfl rfl ?_
  refine me3 (pc' := 79) dm_X12_keep_78 (g_iald (v := (0 : Int32)) (lu (n := 102) (j := 10) hn rfl) rfl (by decide) rfl (Nat.le_of_ble_eq_true rfl)) rfl rfl rfl ?_
  refine me3 (pc' := 80) dm_X12_keep_79 (u_iast (n := 102) (j := 13) hn rfl rfl (by decide) rfl (Nat.le_of_ble_eq_true rfl)) rfl rfl rfl ?_
  refine me1 (pc' := 81) dm_X12_keep_80 rfl rfl rfl rfl ?_
  refine me3 (pc' := 84) dm_X12_keep_81 (g_get (v := .ref 114) (lu (n := 102) (j := 0) hn rfl) rfl rfl (Nat.le_of_ble_eq_true rfl)) rfl rfl rfl ?_
  refine me0 (pc' := 86) (S' := .int (80 : Int32) :: _) dm_X12_keep_84 rfl rfl rfl rfl ?_
  refine me1 (pc' := 87) dm_X12_keep_86 rfl rfl rfl rfl ?_
  refine me0 (pc' := 88) (S' := .int (160 : Int32) :: _) dm_X12_keep_87 rfl rfl rfl rfl ?_
  refine me0 (pc' := 90) (S' := .int (40 : Int32) :: _) dm_X12_keep_88 rfl rfl rfl rfl ?_
  refine me0 (pc' := 91) (S' := .int (200 : Int32) :: _) dm_X12_keep_90 rfl rfl rfl rfl ?_
  refine me1 (pc' := 92) dm_X12_keep_91 rfl rfl rfl rfl ?_
  refine me0 (pc' := 93) (S' := .int (215 : Int32) :: _) dm_X12_keep_92 rfl rfl rfl rfl ?_
  refine me1 (pc' := 94) dm_X12_keep_93 rfl rfl rfl rfl ?_
  refine me3 (pc' := 97) dm_X12_keep_94 (g_get (v := .ref 111) (lu (n := 102) (j := 0) hn rfl) rfl rfl (Nat.le_of_ble_eq_true rfl)) rfl rfl rfl ?_
  refine me1 (pc' := 98) dm_X12_keep_97 rfl rfl rfl rfl ?_
  refine me3 (pc' := 99) dm_X12_keep_98 (g_lald (v := (0 : Int64)) (lu (n := 102) (j := 9) hn rfl) rfl (by decide) rfl (Nat.le_of_ble_eq_true rfl)) rfl rfl rfl ?_
  refine me3 (pc' := 100) dm_X12_keep_99 (u_last (n := 102) (j := 12) hn rfl rfl (by decide) rfl (Nat.le_of_ble_eq_true rfl)) rfl rfl rfl ?_
  refine me1 (pc' := 101) dm_X12_keep_100 rfl rfl rfl rfl ?_
  refine me3 (pc' := 104) dm_X12_keep_101 (g_get (v := .ref 115) (lu (n := 102) (j := 0) hn rfl) rfl rfl (Nat.le_of_ble_eq_true rfl)) rfl rfl rfl ?_
  refine me0 (pc' := 106) (S' := .int (80 : Int32) :: _) dm_X12_keep_104 rfl rfl rfl rfl ?_
  refine me1 (pc' := 107) dm_X12_keep_106 rfl rfl rfl rfl ?_
  refine me0 (pc' := 108) (S' := .int (160 : Int32) :: _) dm_X12_keep_107 rfl rfl rfl rfl ?_
  refine me0 (pc' := 110) (S' := .int (40 : Int32) :: _) dm_X12_keep_108 rfl rfl rfl rfl ?_
  refine me0 (pc' := 111) (S' := .int (200 : Int32) :: _) dm_X12_keep_110 rfl rfl rfl rfl ?_
  refine me1 (pc' := 112) dm_X12_keep_111 rfl rfl rfl rfl ?_
  refine me0 (pc' := 113) (S' := .int (215 : Int32) :: _) dm_X12_keep_112 rfl rfl rfl rfl ?_
  refine me1 (pc' := 114) dm_X12_keep_113 rfl rfl rfl rfl ?_
  refine me3 (pc' := 117) dm_X12_keep_114 (g_get (v := .ref 113) (lu (n := 102) (j := 0) hn rfl) rfl rfl (Nat.le_of_ble_eq_true rfl)) rfl rfl rfl ?_
  refine me1 (pc' := 118) dm_X12_keep_117 rfl rfl rfl rfl ?_
  refine me3 (pc' := 119) dm_X12_keep_118 (g_iald (v := (0 : Int32)) (lu (n := 102) (j := 11) hn rfl) rfl (by decide) rfl (Nat.le_of_ble_eq_true rfl)) rfl rfl rfl ?_
  refine me3 (pc' := 120) dm_X12_keep_119 (u_iast (n := 102) (j := 13) hn rfl rfl (by decide) rfl (Nat.le_of_ble_eq_true rfl)) rfl rfl rfl ?_
  refine me1 (pc' := 123) (L' := [(2, .int (16 : Int32)), (0, .ref 102), (1, .int (2 : Int32))]) dm_X12_keep_120 rfl rfl rfl rfl ?_
  refine me2 (pc' := 40) dm_X12_keep_123 rfl rfl rfl ?_
  refine me1 (pc' := 41) dm_X12_keep_40 rfl rfl rfl rfl ?_
  refine me0 (pc' := 43) (S' := .int (40 : Int32) :: _) dm_X12_keep_41 rfl rfl rfl rfl ?_
  refine me_2f (pc' := 46) dm_X12_keep_43 rfl (by decide) rfl ?_
  refine me1 (pc' := 47) dm_X12_keep_46 rfl rfl rfl rfl ?_
  refine me3 (pc' := 50) dm_X12_keep_47 (g_get (v := .ref 114) (lu (n := 102) (j := 0) hn rfl) rfl rfl (Nat.le_of_ble_eq_true rfl)) rfl rfl rfl ?_
  refine me0 (pc' := 52) (S' := .int (80 : Int32) :: _) dm_X12_keep_50 rfl rfl rfl rfl ?_
  refine me1 (pc' := 53) dm_X12_keep_52 rfl rfl rfl rfl ?_
  refine me0 (pc' := 54) (S' := .int (160 : Int32) :: _) dm_X12_keep_53 rfl rfl rfl rfl ?_
  refine me1 (pc' := 55) dm_X12_keep_54 rfl rfl rfl rfl ?_
  refine me0 (pc' := 56) (S' := .int (176 : Int32) :: _) dm_X12_keep_55 rfl rfl rfl rfl ?_
  refine me1 (pc' := 57) dm_X12_keep_56 rfl rfl rfl rfl ?_
  refine me3 (pc' := 60) dm_X12_keep_57 (g_get (v := .ref 110) (lu (n := 102) (j := 0) hn rfl) rfl rfl (Nat.le_of_ble_eq_true rfl)) rfl rfl rfl ?_
  refine me1 (pc' := 61) dm_X12_keep_60 rfl rfl rfl rfl ?_
  refine me3 (pc' := 62) dm_X12_keep_61 (g_lald (v := (0 : Int64)) (lu (n := 102) (j := 8) hn rfl) rfl (by decide) rfl (Nat.le_of_ble_eq_true rfl)) rfl rfl rfl ?_
  refine me3 (pc' := 63) dm_X12_keep_62 (u_last (n := 102) (j := 12) hn rfl rfl (by decide) rfl (Nat.le_of_ble_eq_true rfl)) rfl rfl rfl ?_
  refine me1 (pc' := 64) dm_X12_keep_63 rfl rfl rfl rfl ?_
  refine me3 (pc' := 67) dm_X12_keep_64 (g_get (v := .ref 115) (lu (n := 102) (j := 0) hn rfl) rfl rfl (Nat.le_of_ble_eq_true rfl)) rfl rfl rfl ?_
  refine me0 (pc' := 69) (S' := .int (80 : Int32) :: _) dm_X12_keep_67 rfl rfl rfl rfl ?_
  refine me1 (pc' := 70) dm_X12_keep_69 rfl rfl rfl rfl ?_
  refine me0 (pc' := 71) (S' := .int (160 : Int32) :: _) dm_X12_keep_70 rfl rfl rfl rfl ?_
  refine me1 (pc' := 72) dm_X12_keep_71 rfl rfl rfl rfl ?_
  refine me0 (pc' := 73) (S' := .int (176 : Int32) :: _) dm_X12_keep_72 rfl rfl rfl rfl ?_
  refine me1 (pc' := 74) dm_X12_keep_73 rfl rfl rfl rfl ?_
  refine me3 (pc' := 77) dm_X12_keep_74 (g_get (v := .ref 112) (lu (n := 102) (j := 0) hn rfl) rfl rfl (Nat.le_of_ble_eq_true rfl)) rfl rfl rfl ?_
  refine me1 (pc' := 78) dm_X12_keep_77 rfl rfl rfl rfl ?_
  refine me3 (pc' := 79) dm_X12_keep_78 (g_iald (v := (0 : Int32)) (lu (n := 102) (j := 10) hn rfl) rfl (by decide) rfl (Nat.le_of_ble_eq_true rfl)) rfl rfl rfl ?_
  refine me3 (pc' := 80) dm_X12_keep_79 (u_iast (n := 102) (j := 13) hn rfl rfl (by decide) rfl (Nat.le_of_ble_eq_true rfl)) rfl rfl rfl ?_
  refine me1 (pc' := 81) dm_X12_keep_80 rfl rfl rfl rfl ?_
  refine me3 (pc' := 84) dm_X12_keep_81 (g_get (v := .ref 114) (lu (n := 102) (j := 0) hn rfl) rfl rfl (Nat.le_of_ble_eq_true rfl)) rfl rfl rfl ?_
  refine me0 (pc' := 86) (S' := .int (80 : Int32) :: _) dm_X12_keep_84 rfl rfl rfl rfl ?_
  refine me1 (pc' := 87) dm_X12_keep_86 rfl rfl rfl rfl ?_
  refine me0 (pc' := 88) (S' := .int (160 : Int32) :: _) dm_X12_keep_87 rfl rfl rfl rfl ?_
  refine me0 (pc' := 90) (S' := .int (40 : Int32) :: _) dm_X12_keep_88 rfl rfl rfl rfl ?_
  refine me0 (pc' := 91) (S' := .int (200 : Int32) :: _) dm_X12_keep_90 rfl rfl rfl rfl ?_
  refine me1 (pc' := 92) dm_X12_keep_91 rfl rfl rfl rfl ?_
  refine me0 (pc' := 93) (S' := .int (216 : Int32) :: _) dm_X12_keep_92 rfl rfl rfl rfl ?_
  refine me1 (pc' := 94) dm_X12_keep_93 rfl rfl rfl rfl ?_
  refine me3 (pc' := 97) dm_X12_keep_94 (g_get (v := .ref 111) (lu (n := 102) (j := 0) hn rfl) rfl rfl (Nat.le_of_ble_eq_true rfl)) rfl rfl rfl ?_
  refine me1 (pc' := 98) dm_X12_keep_97 rfl rfl rfl rfl ?_
  refine me3 (pc' := 99) dm_X12_keep_98 (g_lald (v := (0 : Int64)) (lu (n := 102) (j := 9) hn rfl) rfl (by decide) rfl (Nat.le_of_ble_eq_true rfl)) rfl rfl rfl ?_
  refine me3 (pc' := 100) dm_X12_keep_99 (u_last (n := 102) (j := 12) hn rfl rfl (by decide) rfl (Nat.le_of_ble_eq_true rfl)) rfl rfl rfl ?_
  refine me1 (pc' := 101) dm_X12_keep_100 rfl rfl rfl rfl ?_
  refine me3 (pc' := 104) dm_X12_keep_101 (g_get (v := .ref 115) (lu (n := 102) (j := 0) hn rfl) rfl rfl (Nat.le_of_ble_eq_true rfl)) rfl rfl rfl ?_
  refine me0 (pc' := 106) (S' := .int (80 : Int32) :: _) dm_X12_keep_104 rfl rfl rfl rfl ?_
  refine me1 (pc' := 107) dm_X12_keep_106 rfl rfl rfl rfl ?_
  refine me0 (pc' := 108) (S' := .int (160 : Int32) :: _) dm_X12_keep_107 rfl rfl rfl rfl ?_
  refine me0 (pc' := 110) (S' := .int (40 : Int32) :: _) dm_X12_keep_108 rfl rfl rfl rfl ?_
  refine me0 (pc' := 111) (S' := .int (200 : Int32) :: _) dm_X12_keep_110 rfl rfl rfl rfl ?_
  refine me1 (pc' := 112) dm_X12_keep_111 rfl rfl rfl rfl ?_
  refine me0 (pc' := 113) (S' := .int (216 : Int32) :: _) dm_X12_keep_112 rfl rfl rfl rfl ?_
  refine me1 (pc' := 114) dm_X12_keep_113 rfl rfl rfl rfl ?_
  refine me3 (pc' := 117) dm_X12_keep_114 (g_get (v := .ref 113) (lu (n := 102) (j := 0) hn rfl) rfl rfl (Nat.le_of_ble_eq_true rfl)) rfl rfl rfl ?_
  refine me1 (pc' := 118) dm_X12_keep_117 rfl rfl rfl rfl ?_
  refine me3 (pc' := 119) dm_X12_keep_118 (g_iald (v := (0 : Int32)) (lu (n := 102) (j := 11) hn rfl) rfl (by decide) rfl (Nat.le_of_ble_eq_true rfl)) rfl rfl rfl ?_
  refine me3 (pc' := 120) dm_X12_keep_119 (u_iast (n := 102) (j := 13) hn rfl rfl (by decide) rfl (Nat.le_of_ble_eq_true rfl)) rfl rfl rfl ?_
  refine me1 (pc' := 123) (L' := [(2, .int (17 : Int32)), (0, .ref 102), (1, .int (2 : Int32))]) dm_X12_keep_120 rfl rfl rfl rfl ?_
  refine me2 (pc' := 40) dm_X12_keep_123 rfl rfl rfl ?_
  refine me1 (pc' := 41) dm_X12_keep_40 rfl rfl rfl rfl ?_
  refine me0 (pc' := 43) (S' := .int (40 : Int32) :: _) dm_X12_keep_41 rfl rfl rfl rfl ?_
  refine me_2f (pc' := 46) dm_X12_keep_43 rfl (by decide) rfl ?_
  refine me1 (pc' := 47) dm_X12_keep_46 rfl rfl rfl rfl ?_
  refine me3 (pc' := 50) dm_X12_keep_47 (g_get (v := .ref 114) (lu (n := 102) (j := 0) hn rfl) rfl rfl (Nat.le_of_ble_eq_true rfl)) rfl rfl rfl ?_
  refine me0 (pc' := 52) (S' := .int (80 : Int32) :: _) dm_X12_keep_50 rfl rfl rfl rfl ?_
  refine me1 (pc' := 53) dm_X12_keep_52 rfl rfl rfl rfl ?_
  refine me0 (pc' := 54) (S' := .int (160 : Int32) :: _) dm_X12_keep_53 rfl rfl rfl rfl ?_
  refine me1 (pc' := 55) dm_X12_keep_54 rfl rfl rfl rfl ?_
  refine me0 (pc' := 56) (S' := .int (177 : Int32) :: _) dm_X12_keep_55 rfl rfl rfl rfl ?_
  refine me1 (pc' := 57) dm_X12_keep_56 rfl rfl rfl rfl ?_
  refine me3 (pc' := 60) dm_X12_keep_57 (g_get (v := .ref 110) (lu (n := 102) (j := 0) hn rfl) rfl rfl (Nat.le_of_ble_eq_true rfl)) rfl rfl rfl ?_
  refine me1 (pc' := 61) dm_X12_keep_60 rfl rfl rfl rfl ?_
  refine me3 (pc' := 62) dm_X12_keep_61 (g_lald (v := (0 : Int64)) (lu (n := 102) (j := 8) hn rfl) rfl (by decide) rfl (Nat.le_of_ble_eq_true rfl)) rfl rfl rfl ?_
  refine me3 (pc' := 63) dm_X12_keep_62 (u_last (n := 102) (j := 12) hn rfl rfl (by decide) rfl (Nat.le_of_ble_eq_true rfl)) rfl rfl rfl ?_
  refine me1 (pc' := 64) dm_X12_keep_63 rfl rfl rfl rfl ?_
  refine me3 (pc' := 67) dm_X12_keep_64 (g_get (v := .ref 115) (lu (n := 102) (j := 0) hn rfl) rfl rfl (Nat.le_of_ble_eq_true rfl)) rfl rfl rfl ?_
  refine me0 (pc' := 69) (S' := .int (80 : Int32) :: _) dm_X12_keep_67 rfl rfl rfl rfl ?_
  refine me1 (pc' := 70) dm_X12_keep_69 rfl rfl rfl rfl ?_
  refine me0 (pc' := 71) (S' := .int (160 : Int32) :: _) dm_X12_keep_70 rfl rfl rfl rfl ?_
  refine me1 (pc' := 72) dm_X12_keep_71 rfl rfl rfl rfl ?_
  refine me0 (pc' := 73) (S' := .int (177 : Int32) :: _) dm_X12_keep_72 rfl rfl rfl rfl ?_
  refine me1 (pc' := 74) dm_X12_keep_73 rfl rfl rfl rfl ?_
  refine me3 (pc' := 77) dm_X12_keep_74 (g_get (v := .ref 112) (lu (n := 102) (j := 0) hn rfl) rfl rfl (Nat.le_of_ble_eq_true rfl)) rfl rfl rfl ?_
  refine me1 (pc' := 78) dm_X12_keep_77 rfl rfl rfl rfl ?_
  refine me3 (pc' := 79) dm_X12_keep_78 (g_iald (v := (0 : Int32)) (lu (n := 102) (j := 10) hn rfl) rfl (by decide) rfl (Nat.le_of_ble_eq_true rfl)) rfl rfl rfl ?_
  refine me3 (pc' := 80) dm_X12_keep_79 (u_iast (n := 102) (j := 13) hn rfl rfl (by decide) rfl (Nat.le_of_ble_eq_true rfl)) rfl rfl rfl ?_
  refine me1 (pc' := 81) dm_X12_keep_80 rfl rfl rfl rfl ?_
  refine me3 (pc' := 84) dm_X12_keep_81 (g_get (v := .ref 114) (lu (n := 102) (j := 0) hn rfl) rfl rfl (Nat.le_of_ble_eq_true rfl)) rfl rfl rfl ?_
  refine me0 (pc' := 86) (S' := .int (80 : Int32) :: _) dm_X12_keep_84 rfl rfl rfl rfl ?_
  refine me1 (pc' := 87) dm_X12_keep_86 rfl rfl rfl rfl ?_
  refine me0 (pc' := 88) (S' := .int (160 : Int32) :: _) dm_X12_keep_87 rfl rfl rfl rfl ?_
  refine me0 (pc' := 90) (S' := .int (40 : Int32) :: _) dm_X12_keep_88 rfl rfl rfl rfl ?_
  refine me0 (pc' := 91) (S' := .int (200 : Int32) :: _) dm_X12_keep_90 rfl rfl rfl rfl ?_
  refine me1 (pc' := 92) dm_X12_keep_91 rfl rfl rfl rfl ?_
  refine me0 (pc' := 93) (S' := .int (217 : Int32) :: _) dm_X12_keep_92 rfl rfl rfl rfl ?_
  refine me1 (pc' := 94) dm_X12_keep_93 rfl rfl rfl rfl ?_
  refine me3 (pc' := 97) dm_X12_keep_94 (g_get (v := .ref 111) (lu (n := 102) (j := 0) hn rfl) rfl rfl (Nat.le_of_ble_eq_true rfl)) rfl rfl rfl ?_
  refine me1 (pc' := 98) dm_X12_keep_97 rfl rfl rfl rfl ?_
  refine me3 (pc' := 99) dm_X12_keep_98 (g_lald (v := (0 : Int64)) (lu (n := 102) (j := 9) hn rfl) rfl (by decide) rfl (Nat.le_of_ble_eq_true rfl)) rfl rfl rfl ?_
  refine me3 (pc' := 100) dm_X12_keep_99 (u_last (n := 102) (j := 12) hn rfl rfl (by decide) rfl (Nat.le_of_ble_eq_true rfl)) rfl rfl rfl ?_
  refine me1 (pc' := 101) dm_X12_keep_100 rfl rfl rfl rfl ?_
  refine me3 (pc' := 104) dm_X12_keep_101 (g_get (v := .ref 115) (lu (n := 102) (j := 0) hn rfl) rfl rfl (Nat.le_of_ble_eq_true rfl)) rfl rfl rfl ?_
  refine me0 (pc' := 106) (S' := .int (80 : Int32) :: _) dm_X12_keep_104 rfl rfl rfl rfl ?_
  refine me1 (pc' := 107) dm_X12_keep_106 rfl rfl rfl rfl ?_
  refine me0 (pc' := 108) (S' := .int (160 : Int32) :: _) dm_X12_keep_107 rfl rfl rfl rfl ?_
  refine me0 (pc' := 110) (S' := .int (40 : Int32) :: _) dm_X12_keep_108 rfl rfl rfl rfl ?_
  refine me0 (pc' := 111) (S' := .int (200 : Int32) :: _) dm_X12_keep_110 rfl rfl rfl rfl ?_
  refine me1 (pc' := 112) dm_X12_keep_111 rfl rfl rfl rfl ?_
  refine me0 (pc' := 113) (S' := .int (217 : Int32) :: _) dm_X12_keep_112 rfl rfl rfl rfl ?_
  refine me1 (pc' := 114) dm_X12_keep_113 rfl rfl rfl rfl ?_
  refine me3 (pc' := 117) dm_X12_keep_114 (g_get (v := .ref 113) (lu (n := 102) (j := 0) hn rfl) rfl rfl (Nat.le_of_ble_eq_true rfl)) rfl rfl rfl ?_
  refine me1 (pc' := 118) dm_X12_keep_117 rfl rfl rfl rfl ?_
  refine me3 (pc' := 119) dm_X12_keep_118 (g_iald (v := (0 : Int32)) (lu (n := 102) (j := 11) hn rfl) rfl (by decide) rfl (Nat.le_of_ble_eq_true rfl)) rfl rfl rfl ?_
  refine me3 (pc' := 120) dm_X12_keep_119 (u_iast (n := 102) (j := 13) hn rfl rfl (by decide) rfl (Nat.le_of_ble_eq_true rfl)) rfl rfl rfl ?_
  refine me1 (pc' := 123) (L' := [(2, .int (18 : Int32)), (0, .ref 102), (1, .int (2 : Int32))]) dm_X12_keep_120 rfl rfl rfl rfl ?_
  refine me2 (pc' := 40) dm_X12_keep_123 rfl rfl rfl ?_
  refine me1 (pc' := 41) dm_X12_keep_40 rfl rfl rfl rfl ?_
  refine me0 (pc' := 43) (S' := .int (40 : Int32) :: _) dm_X12_keep_41 rfl rfl rfl rfl ?_
  refine me_2f (pc' := 46) dm_X12_keep_43 rfl (by decide) rfl ?_
  refine me1 (pc' := 47) dm_X12_keep_46 rfl rfl rfl rfl ?_
  refine me3 (pc' := 50) dm_X12_keep_47 (g_get (v := .ref 114) (lu (n := 102) (j := 0) hn rfl) rfl rfl (Nat.le_of_ble_eq_true rfl)) rfl rfl rfl ?_
  refine me0 (pc' := 52) (S' := .int (80 : Int32) :: _) dm_X12_keep_50 rfl rfl rfl rfl ?_
  refine me1 (pc' := 53) dm_X12_keep_52 rfl rfl rfl rfl ?_
  refine me0 (pc' := 54) (S' := .int (160 : Int32) :: _) dm_X12_keep_53 rfl rfl rfl rfl ?_
  refine me1 (pc' := 55) dm_X12_keep_54 rfl rfl rfl rfl ?_
  refine me0 (pc' := 56) (S' := .int (178 : Int32) :: _) dm_X12_keep_55 rfl rfl rfl rfl ?_
  refine me1 (pc' := 57) dm_X12_keep_56 rfl rfl rfl rfl ?_
  refine me3 (pc' := 60) dm_X12_keep_57 (g_get (v := .ref 110) (lu (n := 102) (j := 0) hn rfl) rfl rfl (Nat.le_of_ble_eq_true rfl)) rfl rfl rfl ?_
  refine me1 (pc' := 61) dm_X12_keep_60 rfl rfl rfl rfl ?_
  refine me3 (pc' := 62) dm_X12_keep_61 (g_lald (v := (0 : Int64)) (lu (n := 102) (j := 8) hn rfl) rfl (by decide) rfl (Nat.le_of_ble_eq_true rfl)) rfl rfl rfl ?_
  refine me3 (pc' := 63) dm_X12_keep_62 (u_last (n := 102) (j := 12) hn rfl rfl (by decide) rfl (Nat.le_of_ble_eq_true rfl)) rfl rfl rfl ?_
  refine me1 (pc' := 64) dm_X12_keep_63 rfl rfl rfl rfl ?_
  refine me3 (pc' := 67) dm_X12_keep_64 (g_get (v := .ref 115) (lu (n := 102) (j := 0) hn rfl) rfl rfl (Nat.le_of_ble_eq_true rfl)) rfl rfl rfl ?_
  refine me0 (pc' := 69) (S' := .int (80 : Int32) :: _) dm_X12_keep_67 rfl rfl rfl rfl ?_
  refine me1 (pc' := 70) dm_X12_keep_69 rfl rfl rfl rfl ?_
  refine me0 (pc' := 71) (S' := .int (160 : Int32) :: _) dm_X12_keep_70 rfl rfl rfl rfl ?_
  refine me1 (pc' := 72) dm_X12_keep_71 rfl rfl rfl rfl ?_
  refine me0 (pc' := 73) (S' := .int (178 : Int32) :: _) dm_X12_keep_72 rfl rfl rfl rfl ?_
  refine me1 (pc' := 74) dm_X12_keep_73 rfl rfl rfl rfl ?_
  refine me3 (pc' := 77) dm_X12_keep_74 (g_get (v := .ref 112) (lu (n := 102) (j := 0) hn rfl) rfl rfl (Nat.le_of_ble_eq_true rfl)) rfl rfl rfl ?_
  refine me1 (pc' := 78) dm_X12_keep_77 rfl rfl rfl rfl ?_
  refine me3 (pc' := 79) dm_X12_keep_78 (g_iald (v := (0 : Int32)) (lu (n := 102) (j := 10) hn rfl) rfl (by decide) rfl (Nat.le_of_ble_eq_true rfl)) rfl rfl rfl ?_
  refine me3 (pc' := 80) dm_X12_keep_79 (u_iast (n := 102) (j := 13) hn rfl rfl (by decide) rfl (Nat.le_of_ble_eq_true rfl)) rfl rfl rfl ?_
  refine me1 (pc' := 81) dm_X12_keep_80 rfl rfl rfl rfl ?_
  refine me3 (pc' := 84) dm_X12_keep_81 (g_get (v := .ref 114) (lu (n := 102) (j := 0) hn rfl) rfl rfl (Nat.le_of_ble_eq_true rfl)) rfl rfl rfl ?_
  refine me0 (pc' := 86) (S' := .int (80 : Int32) :: _) dm_X12_keep_84 rfl rfl rfl rfl ?_
  refine me1 (pc' := 87) dm_X12_keep_86 rfl rfl rfl rfl ?_
  refine me0 (pc' := 88) (S' := .int (160 : Int32) :: _) dm_X12_keep_87 rfl rfl rfl rfl ?_
  refine me0 (pc' := 90) (S' := .int (40 : Int32) :: _) dm_X12_keep_88 rfl rfl rfl rfl ?_
  refine me0 (pc' := 91) (S' := .int (200 : Int32) :: _) dm_X12_keep_90 rfl rfl rfl rfl ?_
  refine me1 (pc' := 92) dm_X12_keep_91 rfl rfl rfl rfl ?_
  refine me0 (pc' := 93) (S' := .int (218 : Int32) :: _) dm_X12_keep_92 rfl rfl rfl rfl ?_
  refine me1 (pc' := 94) dm_X12_keep_93 rfl rfl rfl rfl ?_
  refine me3 (pc' := 97) dm_X12_keep_94 (g_get (v := .ref 111) (lu (n := 102) (j := 0) hn rfl) rfl rfl (Nat.le_of_ble_eq_true rfl)) rfl rfl rfl ?_
  refine me1 (pc' := 98) dm_X12_keep_97 rfl rfl rfl rfl ?_
  refine me3 (pc' := 99) dm_X12_keep_98 (g_lald (v := (0 : Int64)) (lu (n := 102) (j := 9) hn rfl) rfl (by decide) rfl (Nat.le_of_ble_eq_true rfl)) rfl rfl rfl ?_
  refine me3 (pc' := 100) dm_X12_keep_99 (u_last (n := 102) (j := 12) hn rfl rfl (by decide) rfl (Nat.le_of_ble_eq_true rfl)) rfl rfl rfl ?_
  refine me1 (pc' := 101) dm_X12_keep_100 rfl rfl rfl rfl ?_
  refine me3 (pc' := 104) dm_X12_keep_101 (g_get (v := .ref 115) (lu (n := 102) (j := 0) hn rfl) rfl rfl (Nat.le_of_ble_eq_true rfl)) rfl rfl rfl ?_
  refine me0 (pc' := 106) (S' := .int (80 : Int32) :: _) dm_X12_keep_104 rfl rfl rfl rfl ?_
  refine me1 (pc' := 107) dm_X12_keep_106 rfl rfl rfl rfl ?_
  refine me0 (pc' := 108) (S' := .int (160 : Int32) :: _) dm_X12_keep_107 rfl rfl rfl rfl ?_
  refine me0 (pc' := 110) (S' := .int (40 : Int32) :: _) dm_X12_keep_108 rfl rfl rfl rfl ?_
  refine me0 (pc' := 111) (S' := .int (200 : Int32) :: _) dm_X12_keep_110 rfl rfl rfl rfl ?_
  refine me1 (pc' := 112) dm_X12_keep_111 rfl rfl rfl rfl ?_
  refine me0 (pc' := 113) (S' := .int (218 : Int32) :: _) dm_X12_keep_112 rfl rfl rfl rfl ?_
  refine me1 (pc' := 114) dm_X12_keep_113 rfl rfl rfl rfl ?_
  refine me3 (pc' := 117) dm_X12_keep_114 (g_get (v := .ref 113) (lu (n := 102) (j := 0) hn rfl) rfl rfl (Nat.le_of_ble_eq_true rfl)) rfl rfl rfl ?_
  refine me1 (pc' := 118) dm_X12_keep_117 rfl rfl rfl rfl ?_
  refine me3 (pc' := 119) dm_X12_keep_118 (g_iald (v := (0 : Int32)) (lu (n := 102) (j := 11) hn rfl) rfl (by decide) rfl (Nat.le_of_ble_eq_true rfl)) rfl rfl rfl ?_
  refine me3 (pc' := 120) dm_X12_keep_119 (u_iast (n := 102) (j := 13) hn rfl rfl (by decide) rfl (Nat.le_of_ble_eq_true rfl)) rfl rfl rfl ?_
  refine me1 (pc' := 123) (L' := [(2, .int (19 : Int32)), (0, .ref 102), (1, .int (2 : Int32))]) dm_X12_keep_120 rfl rfl rfl rfl ?_
  refine me2 (pc' := 40) dm_X12_keep_123 rfl rfl rfl ?_
  refine me1 (pc' := 41) dm_X12_keep_40 rfl rfl rfl rfl ?_
  refine me0 (pc' := 43) (S' := .int (40 : Int32) :: _) dm_X12_keep_41 rfl rfl rfl rfl ?_
  refine me_2f (pc' := 46) dm_X12_keep_43 rfl (by decide) rfl ?_
  refine me1 (pc' := 47) dm_X12_keep_46 rfl rfl rfl rfl ?_
  refine me3 (pc' := 50) dm_X12_keep_47 (g_get (v := .ref 114) (lu (n := 102) (j := 0) hn rfl) rfl rfl (Nat.le_of_ble_eq_true rfl)) rfl rfl rfl ?_
  refine me0 (pc' := 52) (S' := .int (80 : Int32) :: _) dm_X12_keep_50 rfl rfl rfl rfl ?_
  refine me1 (pc' := 53) dm_X12_keep_52 rfl rfl rfl rfl ?_
  refine me0 (pc' := 54) (S' := .int (160 : Int32) :: _) dm_X12_keep_53 rfl rfl rfl rfl ?_
  refine me1 (pc' := 55) dm_X12_keep_54 rfl rfl rfl rfl ?_
  refine me0 (pc' := 56) (S' := .int (179 : Int32) :: _) dm_X12_keep_55 rfl rfl rfl rfl ?_
  refine me1 (pc' := 57) dm_X12_keep_56 rfl rfl rfl rfl ?_
  refine me3 (pc' := 60) dm_X12_keep_57 (g_get (v := .ref 110) (lu (n := 102) (j := 0) hn rfl) rfl rfl (Nat.le_of_ble_eq_true rfl)) rfl rfl rfl ?_
  refine me1 (pc' := 61) dm_X12_keep_60 rfl rfl rfl rfl ?_
  refine me3 (pc' := 62) dm_X12_keep_61 (g_lald (v := (0 : Int64)) (lu (n := 102) (j := 8) hn rfl) rfl (by decide) rfl (Nat.le_of_ble_eq_true rfl)) rfl rfl rfl ?_
  refine me3 (pc' := 63) dm_X12_keep_62 (u_last (n := 102) (j := 12) hn rfl rfl (by decide) rfl (Nat.le_of_ble_eq_true rfl)) rfl rfl rfl ?_
  refine me1 (pc' := 64) dm_X12_keep_63 rfl rfl rfl rfl ?_
  refine me3 (pc' := 67) dm_X12_keep_64 (g_get (v := .ref 115) (lu (n := 102) (j := 0) hn rfl) rfl rfl (Nat.le_of_ble_eq_true rfl)) rfl rfl rfl ?_
  refine me0 (pc' := 69) (S' := .int (80 : Int32) :: _) dm_X12_keep_67 rfl rfl rfl rfl ?_
  refine me1 (pc' := 70) dm_X12_keep_69 rfl rfl rfl rfl ?_
  refine me0 (pc' := 71) (S' := .int (160 : Int32) :: _) dm_X12_keep_70 rfl rfl rfl rfl ?_
  refine me1 (pc' := 72) dm_X12_keep_71 rfl rfl rfl rfl ?_
  refine me0 (pc' := 73) (S' := .int (179 : Int32) :: _) dm_X12_keep_72 rfl rfl rfl rfl ?_
  refine me1 (pc' := 74) dm_X12_keep_73 rfl rfl rfl rfl ?_
  refine me3 (pc' := 77) dm_X12_keep_74 (g_get (v := .ref 112) (lu (n := 102) (j := 0) hn rfl) rfl rfl (Nat.le_of_ble_eq_true rfl)) rfl rfl rfl ?_
  refine me1 (pc' := 78) dm_X12_keep_77 rfl rfl rfl rfl ?_
  refine me3 (pc' := 79) dm_X12_keep_78 (g_iald (v := (0 : Int32)) (lu (n := 102) (j := 10) hn rfl) rfl (by decide) rfl (Nat.le_of_ble_eq_true rfl)) rfl rfl rfl ?_
  refine me3 (pc' := 80) dm_X12_keep_79 (u_iast (n := 102) (j := 13) hn rfl rfl (by decide) rfl (Nat.le_of_ble_eq_true rfl)) rfl rfl rfl ?_
  refine me1 (pc' := 81) dm_X12_keep_80 rfl rfl rfl rfl ?_
  refine me3 (pc' := 84) dm_X12_keep_81 (g_get (v := .ref 114) (lu (n := 102) (j := 0) hn rfl) rfl rfl (Nat.le_of_ble_eq_true rfl)) rfl rfl rfl ?_
  refine me0 (pc' := 86) (S' := .int (80 : Int32) :: _) dm_X12_keep_84 rfl rfl rfl rfl ?_
  refine me1 (pc' := 87) dm_X12_keep_86 rfl rfl rfl rfl ?_
  refine me0 (pc' := 88) (S' := .int (160 : Int32) :: _) dm_X12_keep_87 rfl rfl rfl rfl ?_
  refine me0 (pc' := 90) (S' := .int (40 : Int32) :: _) dm_X12_keep_88 rfl rfl rfl rfl ?_
  refine me0 (pc' := 91) (S' := .int (200 : Int32) :: _) dm_X12_keep_90 rfl rfl rfl rfl ?_
  refine me1 (pc' := 92) dm_X12_keep_91 rfl rfl rfl rfl ?_
  refine me0 (pc' := 93) (S' := .int (219 : Int32) :: _) dm_X12_keep_92 rfl rfl rfl rfl ?_
  refine me1 (pc' := 94) dm_X12_keep_93 rfl rfl rfl rfl ?_
  refine me3 (pc' := 97) dm_X12_keep_94 (g_get (v := .ref 111) (lu (n := 102) (j := 0) hn rfl) rfl rfl (Nat.le_of_ble_eq_true rfl)) rfl rfl rfl ?_
  refine me1 (pc' := 98) dm_X12_keep_97 rfl rfl rfl rfl ?_
  refine me3 (pc' := 99) dm_X12_keep_98 (g_lald (v := (0 : Int64)) (lu (n := 102) (j := 9) hn rfl) rfl (by decide) rfl (Nat.le_of_ble_eq_true rfl)) rfl rfl rfl ?_
  refine me3 (pc' := 100) dm_X12_keep_99 (u_last (n := 102) (j := 12) hn rfl rfl (by decide) rfl (Nat.le_of_ble_eq_true rfl)) rfl rfl rfl ?_
  refine me1 (pc' := 101) dm_X12_keep_100 rfl rfl rfl rfl ?_
  refine me3 (pc' := 104) dm_X12_keep_101 (g_get (v := .ref 115) (lu (n := 102) (j := 0) hn rfl) rfl rfl (Nat.le_of_ble_eq_true rfl)) rfl rfl rfl ?_
  refine me0 (pc' := 106) (S' := .int (80 : Int32) :: _) dm_X12_keep_104 rfl rfl rfl rfl ?_
  refine me1 (pc' := 107) dm_X12_keep_106 rfl rfl rfl rfl ?_
  refine me0 (pc' := 108) (S' := .int (160 : Int32) :: _) dm_X12_keep_107 rfl rfl rfl rfl ?_
  refine me0 (pc' := 110) (S' := .int (40 : Int32) :: _) dm_X12_keep_108 rfl rfl rfl rfl ?_
  refine me0 (pc' := 111) (S' := .int (200 : Int32) :: _) dm_X12_keep_110 rfl rfl rfl rfl ?_
  refine me1 (pc' := 112) dm_X12_keep_111 rfl rfl rfl rfl ?_
  refine me0 (pc' := 113) (S' := .int (219 : Int32) :: _) dm_X12_keep_112 rfl rfl rfl rfl ?_
  refine me1 (pc' := 114) dm_X12_keep_113 rfl rfl rfl rfl ?_
  refine me3 (pc' := 117) dm_X12_keep_114 (g_get (v := .ref 113) (lu (n := 102) (j := 0) hn rfl) rfl rfl (Nat.le_of_ble_eq_true rfl)) rfl rfl rfl ?_
  refine me1 (pc' := 118) dm_X12_keep_117 rfl rfl rfl rfl ?_
  refine me3 (pc' := 119) dm_X12_keep_118 (g_iald (v := (0 : Int32)) (lu (n := 102) (j := 11) hn rfl) rfl (by decide) rfl (Nat.le_of_ble_eq_true rfl)) rfl rfl rfl ?_
  refine me3 (pc' := 120) dm_X12_keep_119 (u_iast (n := 102) (j := 13) hn rfl rfl (by decide) rfl (Nat.le_of_ble_eq_true rfl)) rfl rfl rfl ?_
  refine me1 (pc' := 123) (L' := [(2, .int (20 : Int32)), (0, .ref 102), (1, .int (2 : Int32))]) dm_X12_keep_120 rfl rfl rfl rfl ?_
  refine me2 (pc' := 40) dm_X12_keep_123 rfl rfl rfl ?_
  refine me1 (pc' := 41) dm_X12_keep_40 rfl rfl rfl rfl ?_
  refine me0 (pc' := 43) (S' := .int (40 : Int32) :: _) dm_X12_keep_41 rfl rfl rfl rfl ?_
  refine me_2f (pc' := 46) dm_X12_keep_43 rfl (by decide) rfl ?_
  refine me1 (pc' := 47) dm_X12_keep_46 rfl rfl rfl rfl ?_
  refine me3 (pc' := 50) dm_X12_keep_47 (g_get (v := .ref 114) (lu (n := 102) (j := 0) hn rfl) rfl rfl (Nat.le_of_ble_eq_true rfl)) rfl rfl rfl ?_
  refine me0 (pc' := 52) (S' := .int (80 : Int32) :: _) dm_X12_keep_50 rfl rfl rfl rfl ?_
  refine me1 (pc' := 53) dm_X12_keep_52 rfl rfl rfl rfl ?_
  refine me0 (pc' := 54) (S' := .int (160 : Int32) :: _) dm_X12_keep_53 rfl rfl rfl rfl ?_
  refine me1 (pc' := 55) dm_X12_keep_54 rfl rfl rfl rfl ?_
  refine me0 (pc' := 56) (S' := .int (180 : Int32) :: _) dm_X12_keep_55 rfl rfl rfl rfl ?_
  refine me1 (pc' := 57) dm_X12_keep_56 rfl rfl rfl rfl ?_
  refine me3 (pc' := 60) dm_X12_keep_57 (g_get (v := .ref 110) (lu (n := 102) (j := 0) hn rfl) rfl rfl (Nat.le_of_ble_eq_true rfl)) rfl rfl rfl ?_
  refine me1 (pc' := 61) dm_X12_keep_60 rfl rfl rfl rfl ?_
  refine me3 (pc' := 62) dm_X12_keep_61 (g_lald (v := (0 : Int64)) (lu (n := 102) (j := 8) hn rfl) rfl (by decide) rfl (Nat.le_of_ble_eq_true rfl)) rfl rfl rfl ?_
  refine me3 (pc' := 63) dm_X12_keep_62 (u_last (n := 102) (j := 12) hn rfl rfl (by decide) rfl (Nat.le_of_ble_eq_true rfl)) rfl rfl rfl ?_
  refine me1 (pc' := 64) dm_X12_keep_63 rfl rfl rfl rfl ?_
  refine me3 (pc' := 67) dm_X12_keep_64 (g_get (v := .ref 115) (lu (n := 102) (j := 0) hn rfl) rfl rfl (Nat.le_of_ble_eq_true rfl)) rfl rfl rfl ?_
  refine me0 (pc' := 69) (S' := .int (80 : Int32) :: _) dm_X12_keep_67 rfl rfl rfl rfl ?_
  refine me1 (pc' := 70) dm_X12_keep_69 rfl rfl rfl rfl ?_
  refine me0 (pc' := 71) (S' := .int (160 : Int32) :: _) dm_X12_keep_70 rfl rfl rfl rfl ?_
  refine me1 (pc' := 72) dm_X12_keep_71 rfl rfl rfl rfl ?_
  refine me0 (pc' := 73) (S' := .int (180 : Int32) :: _) dm_X12_keep_72 rfl rfl rfl rfl ?_
  refine me1 (pc' := 74) dm_X12_keep_73 rfl rfl rfl rfl ?_
  refine me3 (pc' := 77) dm_X12_keep_74 (g_get (v := .ref 112) (lu (n := 102) (j := 0) hn rfl) rfl rfl (Nat.le_of_ble_eq_true rfl)) rfl rfl rfl ?_
  refine me1 (pc' := 78) dm_X12_keep_77 rfl rfl rfl rfl ?_
  refine me3 (pc' := 79) dm_X12_keep_78 (g_iald (v := (0 : Int32)) (lu (n := 102) (j := 10) hn rfl) rfl (by decide) rfl (Nat.le_of_ble_eq_true rfl)) rfl rfl rfl ?_
  refine me3 (pc' := 80) dm_X12_keep_79 (u_iast (n := 102) (j := 13) hn rfl rfl (by decide) rfl (Nat.le_of_ble_eq_true rfl)) rfl rfl rfl ?_
  refine me1 (pc' := 81) dm_X12_keep_80 rfl rfl rfl rfl ?_
  refine me3 (pc' := 84) dm_X12_keep_81 (g_get (v := .ref 114) (lu (n := 102) (j := 0) hn rfl) rfl rfl (Nat.le_of_ble_eq_true rfl)) rfl rfl rfl ?_
  refine me0 (pc' := 86) (S' := .int (80 : Int32) :: _) dm_X12_keep_84 rfl rfl rfl rfl ?_
  refine me1 (pc' := 87) dm_X12_keep_86 rfl rfl rfl rfl ?_
  refine me0 (pc' := 88) (S' := .int (160 : Int32) :: _) dm_X12_keep_87 rfl rfl rfl rfl ?_
  refine me0 (pc' := 90) (S' := .int (40 : Int32) :: _) dm_X12_keep_88 rfl rfl rfl rfl ?_
  refine me0 (pc' := 91) (S' := .int (200 : Int32) :: _) dm_X12_keep_90 rfl rfl rfl rfl ?_
  refine me1 (pc' := 92) dm_X12_keep_91 rfl rfl rfl rfl ?_
  refine me0 (pc' := 93) (S' := .int (220 : Int32) :: _) dm_X12_keep_92 rfl rfl rfl rfl ?_
  refine me1 (pc' := 94) dm_X12_keep_93 rfl rfl rfl rfl ?_
  refine me3 (pc' := 97) dm_X12_keep_94 (g_get (v := .ref 111) (lu (n := 102) (j := 0) hn rfl) rfl rfl (Nat.le_of_ble_eq_true rfl)) rfl rfl rfl ?_
  refine me1 (pc' := 98) dm_X12_keep_97 rfl rfl rfl rfl ?_
  refine me3 (pc' := 99) dm_X12_keep_98 (g_lald (v := (0 : Int64)) (lu (n := 102) (j := 9) hn rfl) rfl (by decide) rfl (Nat.le_of_ble_eq_true rfl)) rfl rfl rfl ?_
  refine me3 (pc' := 100) dm_X12_keep_99 (u_last (n := 102) (j := 12) hn rfl rfl (by decide) rfl (Nat.le_of_ble_eq_true rfl)) rfl rfl rfl ?_
  refine me1 (pc' := 101) dm_X12_keep_100 rfl rfl rfl rfl ?_
  refine me3 (pc' := 104) dm_X12_keep_101 (g_get (v := .ref 115) (lu (n := 102) (j := 0) hn rfl) rfl rfl (Nat.le_of_ble_eq_true rfl)) rfl rfl rfl ?_
  refine me0 (pc' := 106) (S' := .int (80 : Int32) :: _) dm_X12_keep_104 rfl rfl rfl rfl ?_
  refine me1 (pc' := 107) dm_X12_keep_106 rfl rfl rfl rfl ?_
  refine me0 (pc' := 108) (S' := .int (160 : Int32) :: _) dm_X12_keep_107 rfl rfl rfl rfl ?_
  refine me0 (pc' := 110) (S' := .int (40 : Int32) :: _) dm_X12_keep_108 rfl rfl rfl rfl ?_
  refine me0 (pc' := 111) (S' := .int (200 : Int32) :: _) dm_X12_keep_110 rfl rfl rfl rfl ?_
  refine me1 (pc' := 112) dm_X12_keep_111 rfl rfl rfl rfl ?_
  refine me0 (pc' := 113) (S' := .int (220 : Int32) :: _) dm_X12_keep_112 rfl rfl rfl rfl ?_
  refine me1 (pc' := 114) dm_X12_keep_113 rfl rfl rfl rfl ?_
  refine me3 (pc' := 117) dm_X12_keep_114 (g_get (v := .ref 113) (lu (n := 102) (j := 0) hn rfl) rfl rfl (Nat.le_of_ble_eq_true rfl)) rfl rfl rfl ?_
  refine me1 (pc' := 118) dm_X12_keep_117 rfl rfl rfl rfl ?_
  refine me3 (pc' := 119) dm_X12_keep_118 (g_iald (v := (0 : Int32)) (lu (n := 102) (j := 11) hn rfl) rfl (by decide) rfl (Nat.le_of_ble_eq_true rfl)) rfl rfl rfl ?_
  refine me3 (pc' := 120) dm_X12_keep_119 (u_iast (n := 102) (j := 13) hn rfl rfl (by decide) rfl (Nat.le_of_ble_eq_true rfl)) rfl rfl rfl ?_
  refine me1 (pc' := 123) (L' := [(2, .int (21 : Int32)), (0, .ref 102), (1, .int (2 : Int32))]) dm_X12_keep_120 rfl rfl rfl rfl ?_
  refine me2 (pc' := 40) dm_X12_keep_123 rfl rfl rfl ?_
  refine me1 (pc' := 41) dm_X12_keep_40 rfl rfl rfl rfl ?_
  refine me0 (pc' := 43) (S' := .int (40 : Int32) :: _) dm_X12_keep_41 rfl rfl rfl rfl ?_
  refine me_2f (pc' := 46) dm_X12_keep_43 rfl (by decide) rfl ?_
  refine me1 (pc' := 47) dm_X12_keep_46 rfl rfl rfl rfl ?_
  refine me3 (pc' := 50) dm_X12_keep_47 (g_get (v := .ref 114) (lu (n := 102) (j := 0) hn rfl) rfl rfl (Nat.le_of_ble_eq_true rfl)) rfl rfl rfl ?_
  refine me0 (pc' := 52) (S' := .int (80 : Int32) :: _) dm_X12_keep_50 rfl rfl rfl rfl ?_
  refine me1 (pc' := 53) dm_X12_keep_52 rfl rfl rfl rfl ?_
  refine me0 (pc' := 54) (S' := .int (160 : Int32) :: _) dm_X12_keep_53 rfl rfl rfl rfl ?_
  refine me1 (pc' := 55) dm_X12_keep_54 rfl rfl rfl rfl ?_
  refine me0 (pc' := 56) (S' := .int (181 : Int32) :: _) dm_X12_keep_55 rfl rfl rfl rfl ?_
  refine me1 (pc' := 57) dm_X12_keep_56 rfl rfl rfl rfl ?_
  refine me3 (pc' := 60) dm_X12_keep_57 (g_get (v := .ref 110) (lu (n := 102) (j := 0) hn rfl) rfl rfl (Nat.le_of_ble_eq_true rfl)) rfl rfl rfl ?_
  refine me1 (pc' := 61) dm_X12_keep_60 rfl rfl rfl rfl ?_
  refine me3 (pc' := 62) dm_X12_keep_61 (g_lald (v := (0 : Int64)) (lu (n := 102) (j := 8) hn rfl) rfl (by decide) rfl (Nat.le_of_ble_eq_true rfl)) rfl rfl rfl ?_
  refine me3 (pc' := 63) dm_X12_keep_62 (u_last (n := 102) (j := 12) hn rfl rfl (by decide) rfl (Nat.le_of_ble_eq_true rfl)) rfl rfl rfl ?_
  refine me1 (pc' := 64) dm_X12_keep_63 rfl rfl rfl rfl ?_
  refine me3 (pc' := 67) dm_X12_keep_64 (g_get (v := .ref 115) (lu (n := 102) (j := 0) hn rfl) rfl rfl (Nat.le_of_ble_eq_true rfl)) rfl rfl rfl ?_
  refine me0 (pc' := 69) (S' := .int (80 : Int32) :: _) dm_X12_keep_67 rfl rfl rfl rfl ?_
  refine me1 (pc' := 70) dm_X12_keep_69 rfl rfl rfl rfl ?_
  refine me0 (pc' := 71) (S' := .int (160 : Int32) :: _) dm_X12_keep_70 rfl rfl rfl rfl ?_
  refine me1 (pc' := 72) dm_X12_keep_71 rfl rfl rfl rfl ?_
  refine me0 (pc' := 73) (S' := .int (181 : Int32) :: _) dm_X12_keep_72 rfl rfl rfl rfl ?_
  refine me1 (pc' := 74) dm_X12_keep_73 rfl rfl rfl rfl ?_
  refine me3 (pc' := 77) dm_X12_keep_74 (g_get (v := .ref 112) (lu (n := 102) (j := 0) hn rfl) rfl rfl (Nat.le_of_ble_eq_true rfl)) rfl rfl rfl ?_
  refine me1 (pc' := 78) dm_X12_keep_77 rfl rfl rfl rfl ?_
  refine me3 (pc' := 79) dm_X12_keep_78 (g_iald (v := (0 : Int32)) (lu (n := 102) (j := 10) hn rfl) rfl (by decide) rfl (Nat.le_of_ble_eq_true rfl)) rfl rfl rfl ?_
  refine me3 (pc' := 80) dm_X12_keep_79 (u_iast (n := 102) (j := 13) hn rfl rfl (by decide) rfl (Nat.le_of_ble_eq_true rfl)) rfl rfl rfl ?_
  refine me1 (pc' := 81) dm_X12_keep_80 rfl rfl rfl rfl ?_
  refine me3 (pc' := 84) dm_X12_keep_81 (g_get (v := .ref 114) (lu (n := 102) (j := 0) hn rfl) rfl rfl (Nat.le_of_ble_eq_true rfl)) rfl rfl rfl ?_
  refine me0 (pc' := 86) (S' := .int (80 : Int32) :: _) dm_X12_keep_84 rfl rfl rfl rfl ?_
  refine me1 (pc' := 87) dm_X12_keep_86 rfl rfl rfl rfl ?_
  refine me0 (pc' := 88) (S' := .int (160 : Int32) :: _) dm_X12_keep_87 rfl rfl rfl rfl ?_
  refine me0 (pc' := 90) (S' := .int (40 : Int32) :: _) dm_X12_keep_88 rfl rfl rfl rfl ?_
  refine me0 (pc' := 91) (S' := .int (200 : Int32) :: _) dm_X12_keep_90 rfl rfl rfl rfl ?_
  refine me1 (pc' := 92) dm_X12_keep_91 rfl rfl rfl rfl ?_
  refine me0 (pc' := 93) (S' := .int (221 : Int32) :: _) dm_X12_keep_92 rfl rfl rfl rfl ?_
  refine me1 (pc' := 94) dm_X12_keep_93 rfl rfl rfl rfl ?_
  refine me3 (pc' := 97) dm_X12_keep_94 (g_get (v := .ref 111) (lu (n := 102) (j := 0) hn rfl) rfl rfl (Nat.le_of_ble_eq_true rfl)) rfl rfl rfl ?_
  refine me1 (pc' := 98) dm_X12_keep_97 rfl rfl rfl rfl ?_
  refine me3 (pc' := 99) dm_X12_keep_98 (g_lald (v := (0 : Int64)) (lu (n := 102) (j := 9) hn rfl) rfl (by decide) rfl (Nat.le_of_ble_eq_true rfl)) rfl rfl rfl ?_
  refine me3 (pc' := 100) dm_X12_keep_99 (u_last (n := 102) (j := 12) hn rfl rfl (by decide) rfl (Nat.le_of_ble_eq_true rfl)) rfl rfl rfl ?_
  refine me1 (pc' := 101) dm_X12_keep_100 rfl rfl rfl rfl ?_
  refine me3 (pc' := 104) dm_X12_keep_101 (g_get (v := .ref 115) (lu (n := 102) (j := 0) hn rfl) rfl rfl (Nat.le_of_ble_eq_true rfl)) rfl rfl rfl ?_
  refine me0 (pc' := 106) (S' := .int (80 : Int32) :: _) dm_X12_keep_104 rfl rfl rfl rfl ?_
  refine me1 (pc' := 107) dm_X12_keep_106 rfl rfl rfl rfl ?_
  refine me0 (pc' := 108) (S' := .int (160 : Int32) :: _) dm_X12_keep_107 rfl rfl rfl rfl ?_
  refine me0 (pc' := 110) (S' := .int (40 : Int32) :: _) dm_X12_keep_108 rfl rfl rfl rfl ?_
  refine me0 (pc' := 111) (S' := .int (200 : Int32) :: _) dm_X12_keep_110 rfl rfl rfl rfl ?_
  refine me1 (pc' := 112) dm_X12_keep_111 rfl rfl rfl rfl ?_
  refine me0 (pc' := 113) (S' := .int (221 : Int32) :: _) dm_X12_keep_112 rfl rfl rfl rfl ?_
  refine me1 (pc' := 114) dm_X12_keep_113 rfl rfl rfl rfl ?_
  refine me3 (pc' := 117) dm_X12_keep_114 (g_get (v := .ref 113) (lu (n := 102) (j := 0) hn rfl) rfl rfl (Nat.le_of_ble_eq_true rfl)) rfl rfl rfl ?_
  refine me1 (pc' := 118) dm_X12_keep_117 rfl rfl rfl rfl ?_
  refine me3 (pc' := 119) dm_X12_keep_118 (g_iald (v := (0 : Int32)) (lu (n := 102) (j := 11) hn rfl) rfl (by decide) rfl (Nat.le_of_ble_eq_true rfl)) rfl rfl rfl ?_
  refine me3 (pc' := 120) dm_X12_keep_119 (u_iast (n := 102) (j := 13) hn rfl rfl (by decide) rfl (Nat.le_of_ble_eq_true rfl)) rfl rfl rfl ?_
  refine me1 (pc' := 123) (L' := [(2, .int (22 : Int32)), (0, .ref 102), (1, .int (2 : Int32))]) dm_X12_keep_120 rfl rfl rfl rfl ?_
  refine me2 (pc' := 40) dm_X12_keep_123 rfl rfl rfl ?_
  refine me1 (pc' := 41) dm_X12_keep_40 rfl rfl rfl rfl ?_
  refine me0 (pc' := 43) (S' := .int (40 : Int32) :: _) dm_X12_keep_41 rfl rfl rfl rfl ?_
  refine me_2f (pc' := 46) dm_X12_keep_43 rfl (by decide) rfl ?_
  refine me1 (pc' := 47) dm_X12_keep_46 rfl rfl rfl rfl ?_
  refine me3 (pc' := 50) dm_X12_keep_47 (g_get (v := .ref 114) (lu (n := 102) (j := 0) hn rfl) rfl rfl (Nat.le_of_ble_eq_true rfl)) rfl rfl rfl ?_
  refine me0 (pc' := 52) (S' := .int (80 : Int32) :: _) dm_X12_keep_50 rfl rfl rfl rfl ?_
  refine me1 (pc' := 53) dm_X12_keep_52 rfl rfl rfl rfl ?_
  refine me0 (pc' := 54) (S' := .int (160 : Int32) :: _) dm_X12_keep_53 rfl rfl rfl rfl ?_
  refine me1 (pc' := 55) dm_X12_keep_54 rfl rfl rfl rfl ?_
  refine me0 (pc' := 56) (S' := .int (182 : Int32) :: _) dm_X12_keep_55 rfl rfl rfl rfl ?_
  refine me1 (pc' := 57) dm_X12_keep_56 rfl rfl rfl rfl ?_
  refine me3 (pc' := 60) dm_X12_keep_57 (g_get (v := .ref 110) (lu (n := 102) (j := 0) hn rfl) rfl rfl (Nat.le_of_ble_eq_true rfl)) rfl rfl rfl ?_
  refine me1 (pc' := 61) dm_X12_keep_60 rfl rfl rfl rfl ?_
  refine me3 (pc' := 62) dm_X12_keep_61 (g_lald (v := (0 : Int64)) (lu (n := 102) (j := 8) hn rfl) rfl (by decide) rfl (Nat.le_of_ble_eq_true rfl)) rfl rfl rfl ?_
  refine me3 (pc' := 63) dm_X12_keep_62 (u_last (n := 102) (j := 12) hn rfl rfl (by decide) rfl (Nat.le_of_ble_eq_true rfl)) rfl rfl rfl ?_
  refine me1 (pc' := 64) dm_X12_keep_63 rfl rfl rfl rfl ?_
  refine me3 (pc' := 67) dm_X12_keep_64 (g_get (v := .ref 115) (lu (n := 102) (j := 0) hn rfl) rfl rfl (Nat.le_of_ble_eq_true rfl)) rfl rfl rfl ?_
  refine me0 (pc' := 69) (S' := .int (80 : Int32) :: _) dm_X12_keep_67 rfl rfl rfl rfl ?_
  refine me1 (pc' := 70) dm_X12_keep_69 rfl rfl rfl rfl ?_
  refine me0 (pc' := 71) (S' := .int (160 : Int32) :: _) dm_X12_keep_70 rfl rfl rfl rfl ?_
  refine me1 (pc' := 72) dm_X12_keep_71 rfl rfl rfl rfl ?_
  refine me0 (pc' := 73) (S' := .int (182 : Int32) :: _) dm_X12_keep_72 rfl rfl rfl rfl ?_
  refine me1 (pc' := 74) dm_X12_keep_73 rfl rfl rfl rfl ?_
  refine me3 (pc' := 77) dm_X12_keep_74 (g_get (v := .ref 112) (lu (n := 102) (j := 0) hn rfl) rfl rfl (Nat.le_of_ble_eq_true rfl)) rfl rfl rfl ?_
  refine me1 (pc' := 78) dm_X12_keep_77 rfl rfl rfl rfl ?_
  refine me3 (pc' := 79) dm_X12_keep_78 (g_iald (v := (0 : Int32)) (lu (n := 102) (j := 10) hn rfl) rfl (by decide) rfl (Nat.le_of_ble_eq_true rfl)) rfl rfl rfl ?_
  refine me3 (pc' := 80) dm_X12_keep_79 (u_iast (n := 102) (j := 13) hn rfl rfl (by decide) rfl (Nat.le_of_ble_eq_true rfl)) rfl rfl rfl ?_
  refine me1 (pc' := 81) dm_X12_keep_80 rfl rfl rfl rfl ?_
  refine me3 (pc' := 84) dm_X12_keep_81 (g_get (v := .ref 114) (lu (n := 102) (j := 0) hn rfl) rfl rfl (Nat.le_of_ble_eq_true rfl)) rfl rfl rfl ?_
  refine me0 (pc' := 86) (S' := .int (80 : Int32) :: _) dm_X12_keep_84 rfl rfl rfl rfl ?_
  refine me1 (pc' := 87) dm_X12_keep_86 rfl rfl rfl rfl ?_
  refine me0 (pc' := 88) (S' := .int (160 : Int32) :: _) dm_X12_keep_87 rfl rfl rfl rfl ?_
  refine me0 (pc' := 90) (S' := .int (40 : Int32) :: _) dm_X12_keep_88 rfl rfl rfl rfl ?_
  refine me0 (pc' := 91) (S' := .int (200 : Int32) :: _) dm_X12_keep_90 rfl rfl rfl rfl ?_
  refine me1 (pc' := 92) dm_X12_keep_91 rfl rfl rfl rfl ?_
  refine me0 (pc' := 93) (S' := .int (222 : Int32) :: _) dm_X12_keep_92 rfl rfl rfl rfl ?_
  refine me1 (pc' := 94) dm_X12_keep_93 rfl rfl rfl rfl ?_
  refine me3 (pc' := 97) dm_X12_keep_94 (g_get (v := .ref 111) (lu (n := 102) (j := 0) hn rfl) rfl rfl (Nat.le_of_ble_eq_true rfl)) rfl rfl rfl ?_
  refine me1 (pc' := 98) dm_X12_keep_97 rfl rfl rfl rfl ?_
  refine me3 (pc' := 99) dm_X12_keep_98 (g_lald (v := (0 : Int64)) (lu (n := 102) (j := 9) hn rfl) rfl (by decide) rfl (Nat.le_of_ble_eq_true rfl)) rfl rfl rfl ?_
  refine me3 (pc' := 100) dm_X12_keep_99 (u_last (n := 102) (j := 12) hn rfl rfl (by decide) rfl (Nat.le_of_ble_eq_true rfl)) rfl rfl rfl ?_
  refine me1 (pc' := 101) dm_X12_keep_100 rfl rfl rfl rfl ?_
  refine me3 (pc' := 104) dm_X12_keep_101 (g_get (v := .ref 115) (lu (n := 102) (j := 0) hn rfl) rfl rfl (Nat.le_of_ble_eq_true rfl)) rfl rfl rfl ?_
  refine me0 (pc' := 106) (S' := .int (80 : Int32) :: _) dm_X12_keep_104 rfl rfl rfl rfl ?_
  refine me1 (pc' := 107) dm_X12_keep_106 rfl rfl rfl rfl ?_
  refine me0 (pc' := 108) (S' := .int (160 : Int32) :: _) dm_X12_keep_107 rfl rfl rfl rfl ?_
  refine me0 (pc' := 110) (S' := .int (40 : Int32) :: _) dm_X12_keep_108 rfl rfl rfl rfl ?_
  refine me0 (pc' := 111) (S' := .int (200 : Int32) :: _) dm_X12_keep_110 rfl rfl rfl rfl ?_
  refine me1 (pc' := 112) dm_X12_keep_111 rfl rfl rfl rfl ?_
  refine me0 (pc' := 113) (S' := .int (222 : Int32) :: _) dm_X12_keep_112 rfl rfl rfl rfl ?_
  refine me1 (pc' := 114) dm_X12_keep_113 rfl rfl rfl rfl ?_
  refine me3 (pc' := 117) dm_X12_keep_114 (g_get (v := .ref 113) (lu (n := 102) (j := 0) hn rfl) rfl rfl (Nat.le_of_ble_eq_true rfl)) rfl rfl rfl ?_
  refine me1 (pc' := 118) dm_X12_keep_117 rfl rfl rfl rfl ?_
  refine me3 (pc' := 119) dm_X12_keep_118 (g_iald (v := (0 : Int32)) (lu (n := 102) (j := 11) hn rfl) rfl (by decide) rfl (Nat.le_of_ble_eq_true rfl)) rfl rfl rfl ?_
  refine me3 (pc' := 120) dm_X12_keep_119 (u_iast (n := 102) (j := 13) hn rfl rfl (by decide) rfl (Nat.le_of_ble_eq_true rfl)) rfl rfl rfl ?_
  refine me1 (pc' := 123) (L' := [(2, .int (23 : Int32)), (0, .ref 102), (1, .int (2 : Int32))]) dm_X12_keep_120 rfl rfl rfl rfl ?_
  refine me2 (pc' := 40) dm_X12_keep_123 rfl rfl rfl ?_
  refine me1 (pc' := 41) dm_X12_keep_40 rfl rfl rfl rfl ?_
  refine me0 (pc' := 43) (S' := .int (40 : Int32) :: _) dm_X12_keep_41 rfl rfl rfl rfl ?_
  refine me_2f (pc' := 46) dm_X12_keep_43 rfl (by decide) rfl ?_
  refine me1 (pc' := 47) dm_X12_keep_46 rfl rfl rfl rfl ?_
  refine me3 (pc' := 50) dm_X12_keep_47 (g_get (v := .ref 114) (lu (n := 102) (j := 0) hn rfl) rfl rfl (Nat.le_of_ble_eq_true rfl)) rfl rfl rfl ?_
  refine me0 (pc' := 52) (S' := .int (80 : Int32) :: _) dm_X12_keep_50 rfl rfl rfl rfl ?_
  refine me1 (pc' := 53) dm_X12_keep_52 rfl rfl rfl rfl ?_
  refine me0 (pc' := 54) (S' := .int (160 : Int32) :: _) dm_X12_keep_53 rfl rfl rfl rfl ?_
  refine me1 (pc' := 55) dm_X12_keep_54 rfl rfl rfl rfl ?_
  refine me0 (pc' := 56) (S' := .int (183 : Int32) :: _) dm_X12_keep_55 rfl rfl rfl rfl ?_
  refine me1 (pc' := 57) dm_X12_keep_56 rfl rfl rfl rfl ?_
  refine me3 (pc' := 60) dm_X12_keep_57 (g_get (v := .ref 110) (lu (n := 102) (j := 0) hn rfl) rfl rfl (Nat.le_of_ble_eq_true rfl)) rfl rfl rfl ?_
  refine me1 (pc' := 61) dm_X12_keep_60 rfl rfl rfl rfl ?_
  refine me3 (pc' := 62) dm_X12_keep_61 (g_lald (v := (0 : Int64)) (lu (n := 102) (j := 8) hn rfl) rfl (by decide) rfl (Nat.le_of_ble_eq_true rfl)) rfl rfl rfl ?_
  refine me3 (pc' := 63) dm_X12_keep_62 (u_last (n := 102) (j := 12) hn rfl rfl (by decide) rfl (Nat.le_of_ble_eq_true rfl)) rfl rfl rfl ?_
  refine me1 (pc' := 64) dm_X12_keep_63 rfl rfl rfl rfl ?_
  refine me3 (pc' := 67) dm_X12_keep_64 (g_get (v := .ref 115) (lu (n := 102) (j := 0) hn rfl) rfl rfl (Nat.le_of_ble_eq_true rfl)) rfl rfl rfl ?_
  refine me0 (pc' := 69) (S' := .int (80 : Int32) :: _) dm_X12_keep_67 rfl rfl rfl rfl ?_
  refine me1 (pc' := 70) dm_X12_keep_69 rfl rfl rfl rfl ?_
  refine me0 (pc' := 71) (S' := .int (160 : Int32) :: _) dm_X12_keep_70 rfl rfl rfl rfl ?_
  refine me1 (pc' := 72) dm_X12_keep_71 rfl rfl rfl rfl ?_
  refine me0 (pc' := 73) (S' := .int (183 : Int32) :: _) dm_X12_keep_72 rfl rfl rfl rfl ?_
  refine me1 (pc' := 74) dm_X12_keep_73 rfl rfl rfl rfl ?_
  refine me3 (pc' := 77) dm_X12_keep_74 (g_get (v := .ref 112) (lu (n := 102) (j := 0) hn rfl) rfl rfl (Nat.le_of_ble_eq_true rfl)) rfl rfl rfl ?_
  refine me1 (pc' := 78) dm_X12_keep_77 rfl rfl rfl rfl ?_
  refine me3 (pc' := 79) dm_X12_keep_78 (g_iald (v := (0 : Int32)) (lu (n := 102) (j := 10) hn rfl) rfl (by decide) rfl (Nat.le_of_ble_eq_true rfl)) rfl rfl rfl ?_
  refine me3 (pc' := 80) dm_X12_keep_79 (u_iast (n := 102) (j := 13) hn rfl rfl (by decide) rfl (Nat.le_of_ble_eq_true rfl)) rfl rfl rfl ?_
  refine me1 (pc' := 81) dm_X12_keep_80 rfl rfl rfl rfl ?_
  refine me3 (pc' := 84) dm_X12_keep_81 (g_get (v := .ref 114) (lu (n := 102) (j := 0) hn rfl) rfl rfl (Nat.le_of_ble_eq_true rfl)) rfl rfl rfl ?_
  refine me0 (pc' := 86) (S' := .int (80 : Int32) :: _) dm_X12_keep_84 rfl rfl rfl rfl ?_
  refine me1 (pc' := 87) dm_X12_keep_86 rfl rfl rfl rfl ?_
  refine me0 (pc' := 88) (S' := .int (160 : Int32) :: _) dm_X12_keep_87 rfl rfl rfl rfl ?_
  refine me0 (pc' := 90) (S' := .int (40 : Int32) :: _) dm_X12_keep_88 rfl rfl rfl rfl ?_
  refine me0 (pc' := 91) (S' := .int (200 : Int32) :: _) dm_X12_keep_90 rfl rfl rfl rfl ?_
  refine me1 (pc' := 92) dm_X12_keep_91 rfl rfl rfl rfl ?_
  refine me0 (pc' := 93) (S' := .int (223 : Int32) :: _) dm_X12_keep_92 rfl rfl rfl rfl ?_
  refine me1 (pc' := 94) dm_X12_keep_93 rfl rfl rfl rfl ?_
  refine me3 (pc' := 97) dm_X12_keep_94 (g_get (v := .ref 111) (lu (n := 102) (j := 0) hn rfl) rfl rfl (Nat.le_of_ble_eq_true rfl)) rfl rfl rfl ?_
  refine me1 (pc' := 98) dm_X12_keep_97 rfl rfl rfl rfl ?_
  refine me3 (pc' := 99) dm_X12_keep_98 (g_lald (v := (0 : Int64)) (lu (n := 102) (j := 9) hn rfl) rfl (by decide) rfl (Nat.le_of_ble_eq_true rfl)) rfl rfl rfl ?_
  refine me3 (pc' := 100) dm_X12_keep_99 (u_last (n := 102) (j := 12) hn rfl rfl (by decide) rfl (Nat.le_of_ble_eq_true rfl)) rfl rfl rfl ?_
  refine me1 (pc' := 101) dm_X12_keep_100 rfl rfl rfl rfl ?_
  refine me3 (pc' := 104) dm_X12_keep_101 (g_get (v := .ref 115) (lu (n := 102) (j := 0) hn rfl) rfl rfl (Nat.le_of_ble_eq_true rfl)) rfl rfl rfl ?_
  refine me0 (pc' := 106) (S' := .int (80 : Int32) :: _) dm_X12_keep_104 rfl rfl rfl rfl ?_
  refine me1 (pc' := 107) dm_X12_keep_106 rfl rfl rfl rfl ?_
  refine me0 (pc' := 108) (S' := .int (160 : Int32) :: _) dm_X12_keep_107 rfl rfl rfl rfl ?_
  refine me0 (pc' := 110) (S' := .int (40 : Int32) :: _) dm_X12_keep_108 rfl rfl rfl rfl ?_
  refine me0 (pc' := 111) (S' := .int (200 : Int32) :: _) dm_X12_keep_110 rfl rfl rfl rfl ?_
  refine me1 (pc' := 112) dm_X12_keep_111 rfl rfl rfl rfl ?_
  refine me0 (pc' := 113) (S' := .int (223 : Int32) :: _) dm_X12_keep_112 rfl rfl rfl rfl ?_
  refine me1 (pc' := 114) dm_X12_keep_113 rfl rfl rfl rfl ?_
  refine me3 (pc' := 117) dm_X12_keep_114 (g_get (v := .ref 113) (lu (n := 102) (j := 0) hn rfl) rfl rfl (Nat.le_of_ble_eq_true rfl)) rfl rfl rfl ?_
  refine me1 (pc' := 118) dm_X12_keep_117 rfl rfl rfl rfl ?_
  refine me3 (pc' := 119) dm_X12_keep_118 (g_iald (v := (0 : Int32)) (lu (n := 102) (j := 11) hn rfl) rfl (by decide) rfl (Nat.le_of_ble_eq_true rfl)) rfl rfl rfl ?_
  refine me3 (pc' := 120) dm_X12_keep_119 (u_iast (n := 102) (j := 13) hn rfl rfl (by decide) rfl (Nat.le_of_ble_eq_true rfl)) rfl rfl rfl ?_
  refine me1 (pc' := 123) (L' := [(2, .int (24 : Int32)), (0, .ref 102), (1, .int (2 : Int32))]) dm_X12_keep_120 rfl rfl rfl rfl ?_
  refine me2 (pc' := 40) dm_X12_keep_123 rfl rfl rfl ?_
  refine me1 (pc' := 41) dm_X12_keep_40 rfl rfl rfl rfl ?_
  refine me0 (pc' := 43) (S' := .int (40 : Int32) :: _) dm_X12_keep_41 rfl rfl rfl rfl ?_
  refine me_2f (pc' := 46) dm_X12_keep_43 rfl (by decide) rfl ?_
  refine me1 (pc' := 47) dm_X12_keep_46 rfl rfl rfl rfl ?_
  refine me3 (pc' := 50) dm_X12_keep_47 (g_get (v := .ref 114) (lu (n := 102) (j := 0) hn rfl) rfl rfl (Nat.le_of_ble_eq_true rfl)) rfl rfl rfl ?_
  refine me0 (pc' := 52) (S' := .int (80 : Int32) :: _) dm_X12_keep_50 rfl rfl rfl rfl ?_
  refine me1 (pc' := 53) dm_X12_keep_52 rfl rfl rfl rfl ?_
  refine me0 (pc' := 54) (S' := .int (160 : Int32) :: _) dm_X12_keep_53 rfl rfl rfl rfl ?_
  refine me1 (pc' := 55) dm_X12_keep_54 rfl rfl rfl rfl ?_
  refine me0 (pc' := 56) (S' := .int (184 : Int32) :: _) dm_X12_keep_55 rfl rfl rfl rfl ?_
  refine me1 (pc' := 57) dm_X12_keep_56 rfl rfl rfl rfl ?_
  refine me3 (pc' := 60) dm_X12_keep_57 (g_get (v := .ref 110) (lu (n := 102) (j := 0) hn rfl) rfl rfl (Nat.le_of_ble_eq_true rfl)) rfl rfl rfl ?_
  refine me1 (pc' := 61) dm_X12_keep_60 rfl rfl rfl rfl ?_
  refine me3 (pc' := 62) dm_X12_keep_61 (g_lald (v := (0 : Int64)) (lu (n := 102) (j := 8) hn rfl) rfl (by decide) rfl (Nat.le_of_ble_eq_true rfl)) rfl rfl rfl ?_
  refine me3 (pc' := 63) dm_X12_keep_62 (u_last (n := 102) (j := 12) hn rfl rfl (by decide) rfl (Nat.le_of_ble_eq_true rfl)) rfl rfl rfl ?_
  refine me1 (pc' := 64) dm_X12_keep_63 rfl rfl rfl rfl ?_
  refine me3 (pc' := 67) dm_X12_keep_64 (g_get (v := .ref 115) (lu (n := 102) (j := 0) hn rfl) rfl rfl (Nat.le_of_ble_eq_true rfl)) rfl rfl rfl ?_
  refine me0 (pc' := 69) (S' := .int (80 : Int32) :: _) dm_X12_keep_67 rfl rfl rfl rfl ?_
  refine me1 (pc' := 70) dm_X12_keep_69 rfl rfl rfl rfl ?_
  refine me0 (pc' := 71) (S' := .int (160 : Int32) :: _) dm_X12_keep_70 rfl rfl rfl rfl ?_
  refine me1 (pc' := 72) dm_X12_keep_71 rfl rfl rfl rfl ?_
  refine me0 (pc' := 73) (S' := .int (184 : Int32) :: _) dm_X12_keep_72 rfl rfl rfl rfl ?_
  refine me1 (pc' := 74) dm_X12_keep_73 rfl rfl rfl rfl ?_
  refine me3 (pc' := 77) dm_X12_keep_74 (g_get (v := .ref 112) (lu (n := 102) (j := 0) hn rfl) rfl rfl (Nat.le_of_ble_eq_true rfl)) rfl rfl rfl ?_
  refine me1 (pc' := 78) dm_X12_keep_77 rfl rfl rfl rfl ?_
  refine me3 (pc' := 79) dm_X12_keep_78 (g_iald (v := (0 : Int32)) (lu (n := 102) (j := 10) hn rfl) rfl (by decide) rfl (Nat.le_of_ble_eq_true rfl)) rfl rfl rfl ?_
  refine me3 (pc' := 80) dm_X12_keep_79 (u_iast (n := 102) (j := 13) hn rfl rfl (by decide) rfl (Nat.le_of_ble_eq_true rfl)) rfl rfl rfl ?_
  refine me1 (pc' := 81) dm_X12_keep_80 rfl rfl rfl rfl ?_
  refine me3 (pc' := 84) dm_X12_keep_81 (g_get (v := .ref 114) (lu (n := 102) (j := 0) hn rfl) rfl rfl (Nat.le_of_ble_eq_true rfl)) rfl rfl rfl ?_
  refine me0 (pc' := 86) (S' := .int (80 : Int32) :: _) dm_X12_keep_84 rfl rfl rfl rfl ?_
  refine me1 (pc' := 87) dm_X12_keep_86 rfl rfl rfl rfl ?_
  refine me0 (pc' := 88) (S' := .int (160 : Int32) :: _) dm_X12_keep_87 rfl rfl rfl rfl ?_
  refine me0 (pc' := 90) (S' := .int (40 : Int32) :: _) dm_X12_keep_88 rfl rfl rfl rfl ?_
  refine me0 (pc' := 91) (S' := .int (200 : Int32) :: _) dm_X12_keep_90 rfl rfl rfl rfl ?_
  refine me1 (pc' := 92) dm_X12_keep_91 rfl rfl rfl rfl ?_
  refine me0 (pc' := 93) (S' := .int (224 : Int32) :: _) dm_X12_keep_92 rfl rfl rfl rfl ?_
  refine me1 (pc' := 94) dm_X12_keep_93 rfl rfl rfl rfl ?_
  refine me3 (pc' := 97) dm_X12_keep_94 (g_get (v := .ref 111) (lu (n := 102) (j := 0) hn rfl) rfl rfl (Nat.le_of_ble_eq_true rfl)) rfl rfl rfl ?_
  refine me1 (pc' := 98) dm_X12_keep_97 rfl rfl rfl rfl ?_
  refine me3 (pc' := 99) dm_X12_keep_98 (g_lald (v := (0 : Int64)) (lu (n := 102) (j := 9) hn rfl) rfl (by decide) rfl (Nat.le_of_ble_eq_true rfl)) rfl rfl rfl ?_
  refine me3 (pc' := 100) dm_X12_keep_99 (u_last (n := 102) (j := 12) hn rfl rfl (by decide) rfl (Nat.le_of_ble_eq_true rfl)) rfl rfl rfl ?_
  refine me1 (pc' := 101) dm_X12_keep_100 rfl rfl rfl rfl ?_
  refine me3 (pc' := 104) dm_X12_keep_101 (g_get (v := .ref 115) (lu (n := 102) (j := 0) hn rfl) rfl rfl (Nat.le_of_ble_eq_true rfl)) rfl rfl rfl ?_
  refine me0 (pc' := 106) (S' := .int (80 : Int32) :: _) dm_X12_keep_104 rfl rfl rfl rfl ?_
  refine me1 (pc' := 107) dm_X12_keep_106 rfl rfl rfl rfl ?_
  refine me0 (pc' := 108) (S' := .int (160 : Int32) :: _) dm_X12_keep_107 rfl rfl rfl rfl ?_
  refine me0 (pc' := 110) (S' := .int (40 : Int32) :: _) dm_X12_keep_108 rfl rfl rfl rfl ?_
  refine me0 (pc' := 111) (S' := .int (200 : Int32) :: _) dm_X12_keep_110 rfl rfl rfl rfl ?_
  refine me1 (pc' := 112) dm_X12_keep_111 rfl rfl rfl rfl ?_
  refine me0 (pc' := 113) (S' := .int (224 : Int32) :: _) dm_X12_keep_112 rfl rfl rfl rfl ?_
  refine me1 (pc' := 114) dm_X12_keep_113 rfl rfl rfl rfl ?_
  refine me3 (pc' := 117) dm_X12_keep_114 (g_get (v := .ref 113) (lu (n := 102) (j := 0) hn rfl) rfl rfl (Nat.le_of_ble_eq_true rfl)) rfl rfl rfl ?_
  refine me1 (pc' := 118) dm_X12_keep_117 rfl rfl rfl rfl ?_
  refine me3 (pc' := 119) dm_X12_keep_118 (g_iald (v := (0 : Int32)) (lu (n := 102) (j := 11) hn rfl) rfl (by decide) rfl (Nat.le_of_ble_eq_true rfl)) rfl rfl rfl ?_
  refine me3 (pc' := 120) dm_X12_keep_119 (u_iast (n := 102) (j := 13) hn rfl rfl (by decide) rfl (Nat.le_of_ble_eq_true rfl)) rfl rfl rfl ?_
  refine me1 (pc' := 123) (L' := [(2, .int (25 : Int32)), (0, .ref 102), (1, .int (2 : Int32))]) dm_X12_keep_120 rfl rfl rfl rfl ?_
  refine me2 (pc' := 40) dm_X12_keep_123 rfl rfl rfl ?_
  refine me1 (pc' := 41) dm_X12_keep_40 rfl rfl rfl rfl ?_
  refine me0 (pc' := 43) (S' := .int (40 : Int32) :: _) dm_X12_keep_41 rfl rfl rfl rfl ?_
  refine me_2f (pc' := 46) dm_X12_keep_43 rfl (by decide) rfl ?_
  refine me1 (pc' := 47) dm_X12_keep_46 rfl rfl rfl rfl ?_
  refine me3 (pc' := 50) dm_X12_keep_47 (g_get (v := .ref 114) (lu (n := 102) (j := 0) hn rfl) rfl rfl (Nat.le_of_ble_eq_true rfl)) rfl rfl rfl ?_
  refine me0 (pc' := 52) (S' := .int (80 : Int32) :: _) dm_X12_keep_50 rfl rfl rfl rfl ?_
  refine me1 (pc' := 53) dm_X12_keep_52 rfl rfl rfl rfl ?_
  refine me0 (pc' := 54) (S' := .int (160 : Int32) :: _) dm_X12_keep_53 rfl rfl rfl rfl ?_
  refine me1 (pc' := 55) dm_X12_keep_54 rfl rfl rfl rfl ?_
  refine me0 (pc' := 56) (S' := .int (185 : Int32) :: _) dm_X12_keep_55 rfl rfl rfl rfl ?_
  refine me1 (pc' := 57) dm_X12_keep_56 rfl rfl rfl rfl ?_
  refine me3 (pc' := 60) dm_X12_keep_57 (g_get (v := .ref 110) (lu (n := 102) (j := 0) hn rfl) rfl rfl (Nat.le_of_ble_eq_true rfl)) rfl rfl rfl ?_
  refine me1 (pc' := 61) dm_X12_keep_60 rfl rfl rfl rfl ?_
  refine me3 (pc' := 62) dm_X12_keep_61 (g_lald (v := (0 : Int64)) (lu (n := 102) (j := 8) hn rfl) rfl (by decide) rfl (Nat.le_of_ble_eq_true rfl)) rfl rfl rfl ?_
  refine me3 (pc' := 63) dm_X12_keep_62 (u_last (n := 102) (j := 12) hn rfl rfl (by decide) rfl (Nat.le_of_ble_eq_true rfl)) rfl rfl rfl ?_
  refine me1 (pc' := 64) dm_X12_keep_63 rfl rfl rfl rfl ?_
  refine me3 (pc' := 67) dm_X12_keep_64 (g_get (v := .ref 115) (lu (n := 102) (j := 0) hn rfl) rfl rfl (Nat.le_of_ble_eq_true rfl)) rfl rfl rfl ?_
  refine me0 (pc' := 69) (S' := .int (80 : Int32) :: _) dm_X12_keep_67 rfl rfl rfl rfl ?_
  refine me1 (pc' := 70) dm_X12_keep_69 rfl rfl rfl rfl ?_
  refine me0 (pc' := 71) (S' := .int (160 : Int32) :: _) dm_X12_keep_70 rfl rfl rfl rfl ?_
  refine me1 (pc' := 72) dm_X12_keep_71 rfl rfl rfl rfl ?_
  refine me0 (pc' := 73) (S' := .int (185 : Int32) :: _) dm_X12_keep_72 rfl rfl rfl rfl ?_
  refine me1 (pc' := 74) dm_X12_keep_73 rfl rfl rfl rfl ?_
  refine me3 (pc' := 77) dm_X12_keep_74 (g_get (v := .ref 112) (lu (n := 102) (j := 0) hn rfl) rfl rfl (Nat.le_of_ble_eq_true rfl)) rfl rfl rfl ?_
  refine me1 (pc' := 78) dm_X12_keep_77 rfl rfl rfl rfl ?_
  refine me3 (pc' := 79) dm_X12_keep_78 (g_iald (v := (0 : Int32)) (lu (n := 102) (j := 10) hn rfl) rfl (by decide) rfl (Nat.le_of_ble_eq_true rfl)) rfl rfl rfl ?_
  refine me3 (pc' := 80) dm_X12_keep_79 (u_iast (n := 102) (j := 13) hn rfl rfl (by decide) rfl (Nat.le_of_ble_eq_true rfl)) rfl rfl rfl ?_
  refine me1 (pc' := 81) dm_X12_keep_80 rfl rfl rfl rfl ?_
  refine me3 (pc' := 84) dm_X12_keep_81 (g_get (v := .ref 114) (lu (n := 102) (j := 0) hn rfl) rfl rfl (Nat.le_of_ble_eq_true rfl)) rfl rfl rfl ?_
  refine me0 (pc' := 86) (S' := .int (80 : Int32) :: _) dm_X12_keep_84 rfl rfl rfl rfl ?_
  refine me1 (pc' := 87) dm_X12_keep_86 rfl rfl rfl rfl ?_
  refine me0 (pc' := 88) (S' := .int (160 : Int32) :: _) dm_X12_keep_87 rfl rfl rfl rfl ?_
  refine me0 (pc' := 90) (S' := .int (40 : Int32) :: _) dm_X12_keep_88 rfl rfl rfl rfl ?_
  refine me0 (pc' := 91) (S' := .int (200 : Int32) :: _) dm_X12_keep_90 rfl rfl rfl rfl ?_
  refine me1 (pc' := 92) dm_X12_keep_91 rfl rfl rfl rfl ?_
  refine me0 (pc' := 93) (S' := .int (225 : Int32) :: _) dm_X12_keep_92 rfl rfl rfl rfl ?_
  refine me1 (pc' := 94) dm_X12_keep_93 rfl rfl rfl rfl ?_
  refine me3 (pc' := 97) dm_X12_keep_94 (g_get (v := .ref 111) (lu (n := 102) (j := 0) hn rfl) rfl rfl (Nat.le_of_ble_eq_true rfl)) rfl rfl rfl ?_
  refine me1 (pc' := 98) dm_X12_keep_97 rfl rfl rfl rfl ?_
  refine me3 (pc' := 99) dm_X12_keep_98 (g_lald (v := (0 : Int64)) (lu (n := 102) (j := 9) hn rfl) rfl (by decide) rfl (Nat.le_of_ble_eq_true rfl)) rfl rfl rfl ?_
  refine me3 (pc' := 100) dm_X12_keep_99 (u_last (n := 102) (j := 12) hn rfl rfl (by decide) rfl (Nat.le_of_ble_eq_true rfl)) rfl rfl rfl ?_
  refine me1 (pc' := 101) dm_X12_keep_100 rfl rfl rfl rfl ?_
  refine me3 (pc' := 104) dm_X12_keep_101 (g_get (v := .ref 115) (lu (n := 102) (j := 0) hn rfl) rfl rfl (Nat.le_of_ble_eq_true rfl)) rfl rfl rfl ?_
  refine me0 (pc' := 106) (S' := .int (80 : Int32) :: _) dm_X12_keep_104 rfl rfl rfl rfl ?_
  refine me1 (pc' := 107) dm_X12_keep_106 rfl rfl rfl rfl ?_
  refine me0 (pc' := 108) (S' := .int (160 : Int32) :: _) dm_X12_keep_107 rfl rfl rfl rfl ?_
  refine me0 (pc' := 110) (S' := .int (40 : Int32) :: _) dm_X12_keep_108 rfl rfl rfl rfl ?_
  refine me0 (pc' := 111) (S' := .int (200 : Int32) :: _) dm_X12_keep_110 rfl rfl rfl rfl ?_
  refine me1 (pc' := 112) dm_X12_keep_111 rfl rfl rfl rfl ?_
  refine me0 (pc' := 113) (S' := .int (225 : Int32) :: _) dm_X12_keep_112 rfl rfl rfl rfl ?_
  refine me1 (pc' := 114) dm_X12_keep_113 rfl rfl rfl rfl ?_
  refine me3 (pc' := 117) dm_X12_keep_114 (g_get (v := .ref 113) (lu (n := 102) (j := 0) hn rfl) rfl rfl (Nat.le_of_ble_eq_true rfl)) rfl rfl rfl ?_
  refine me1 (pc' := 118) dm_X12_keep_117 rfl rfl rfl rfl ?_
  refine me3 (pc' := 119) dm_X12_keep_118 (g_iald (v := (0 : Int32)) (lu (n := 102) (j := 11) hn rfl) rfl (by decide) rfl (Nat.le_of_ble_eq_true rfl)) rfl rfl rfl ?_
  refine me3 (pc' := 120) dm_X12_keep_119 (u_iast (n := 102) (j := 13) hn rfl rfl (by decide) rfl (Nat.le_of_ble_eq_true rfl)) rfl rfl rfl ?_
  refine me1 (pc' := 123) (L' := [(2, .int (26 : Int32)), (0, .ref 102), (1, .int (2 : Int32))]) dm_X12_keep_120 rfl rfl rfl rfl ?_
  refine me2 (pc' := 40) dm_X12_keep_123 rfl rfl rfl ?_
  refine me1 (pc' := 41) dm_X12_keep_40 rfl rfl rfl rfl ?_
  refine me0 (pc' := 43) (S' := .int (40 : Int32) :: _) dm_X12_keep_41 rfl rfl rfl rfl ?_
  refine me_2f (pc' := 46) dm_X12_keep_43 rfl (by decide) rfl ?_
  refine me1 (pc' := 47) dm_X12_keep_46 rfl rfl rfl rfl ?_
  refine me3 (pc' := 50) dm_X12_keep_47 (g_get (v := .ref 114) (lu (n := 102) (j := 0) hn rfl) rfl rfl (Nat.le_of_ble_eq_true rfl)) rfl rfl rfl ?_
  refine me0 (pc' := 52) (S' := .int (80 : Int32) :: _) dm_X12_keep_50 rfl rfl rfl rfl ?_
  refine me1 (pc' := 53) dm_X12_keep_52 rfl rfl rfl rfl ?_
  refine me0 (pc' := 54) (S' := .int (160 : Int32) :: _) dm_X12_keep_53 rfl rfl rfl rfl ?_
  refine me1 (pc' := 55) dm_X12_keep_54 rfl rfl rfl rfl ?_
  refine me0 (pc' := 56) (S' := .int (186 : Int32) :: _) dm_X12_keep_55 rfl rfl rfl rfl ?_
  refine me1 (pc' := 57) dm_X12_keep_56 rfl rfl rfl rfl ?_
  refine me3 (pc' := 60) dm_X12_keep_57 (g_get (v := .ref 110) (lu (n := 102) (j := 0) hn rfl) rfl rfl (Nat.le_of_ble_eq_true rfl)) rfl rfl rfl ?_
  refine me1 (pc' := 61) dm_X12_keep_60 rfl rfl rfl rfl ?_
  refine me3 (pc' := 62) dm_X12_keep_61 (g_lald (v := (0 : Int64)) (lu (n := 102) (j := 8) hn rfl) rfl (by decide) rfl (Nat.le_of_ble_eq_true rfl)) rfl rfl rfl ?_
  refine me3 (pc' := 63) dm_X12_keep_62 (u_last (n := 102) (j := 12) hn rfl rfl (by decide) rfl (Nat.le_of_ble_eq_true rfl)) rfl rfl rfl ?_
  refine me1 (pc' := 64) dm_X12_keep_63 rfl rfl rfl rfl ?_
  refine me3 (pc' := 67) dm_X12_keep_64 (g_get (v := .ref 115) (lu (n := 102) (j := 0) hn rfl) rfl rfl (Nat.le_of_ble_eq_true rfl)) rfl rfl rfl ?_
  refine me0 (pc' := 69) (S' := .int (80 : Int32) :: _) dm_X12_keep_67 rfl rfl rfl rfl ?_
  refine me1 (pc' := 70) dm_X12_keep_69 rfl rfl rfl rfl ?_
  refine me0 (pc' := 71) (S' := .int (160 : Int32) :: _) dm_X12_keep_70 rfl rfl rfl rfl ?_
  refine me1 (pc' := 72) dm_X12_keep_71 rfl rfl rfl rfl ?_
  refine me0 (pc' := 73) (S' := .int (186 : Int32) :: _) dm_X12_keep_72 rfl rfl rfl rfl ?_
  refine me1 (pc' := 74) dm_X12_keep_73 rfl rfl rfl rfl ?_
  refine me3 (pc' := 77) dm_X12_keep_74 (g_get (v := .ref 112) (lu (n := 102) (j := 0) hn rfl) rfl rfl (Nat.le_of_ble_eq_true rfl)) rfl rfl rfl ?_
  refine me1 (pc' := 78) dm_X12_keep_77 rfl rfl rfl rfl ?_
  refine me3 (pc' := 79) dm_X12_keep_78 (g_iald (v := (0 : Int32)) (lu (n := 102) (j := 10) hn rfl) rfl (by decide) rfl (Nat.le_of_ble_eq_true rfl)) rfl rfl rfl ?_
  refine me3 (pc' := 80) dm_X12_keep_79 (u_iast (n := 102) (j := 13) hn rfl rfl (by decide) rfl (Nat.le_of_ble_eq_true rfl)) rfl rfl rfl ?_
  refine me1 (pc' := 81) dm_X12_keep_80 rfl rfl rfl rfl ?_
  refine me3 (pc' := 84) dm_X12_keep_81 (g_get (v := .ref 114) (lu (n := 102) (j := 0) hn rfl) rfl rfl (Nat.le_of_ble_eq_true rfl)) rfl rfl rfl ?_
  refine me0 (pc' := 86) (S' := .int (80 : Int32) :: _) dm_X12_keep_84 rfl rfl rfl rfl ?_
  refine me1 (pc' := 87) dm_X12_keep_86 rfl rfl rfl rfl ?_
  refine me0 (pc' := 88) (S' := .int (160 : Int32) :: _) dm_X12_keep_87 rfl rfl rfl rfl ?_
  refine me0 (pc' := 90) (S' := .int (40 : Int32) :: _) dm_X12_keep_88 rfl rfl rfl rfl ?_
  refine me0 (pc' := 91) (S' := .int (200 : Int32) :: _) dm_X12_keep_90 rfl rfl rfl rfl ?_
  refine me1 (pc' := 92) dm_X12_keep_91 rfl rfl rfl rfl ?_
  refine me0 (pc' := 93) (S' := .int (226 : Int32) :: _) dm_X12_keep_92 rfl rfl rfl rfl ?_
  refine me1 (pc' := 94) dm_X12_keep_93 rfl rfl rfl rfl ?_
  refine me3 (pc' := 97) dm_X12_keep_94 (g_get (v := .ref 111) (lu (n := 102) (j := 0) hn rfl) rfl rfl (Nat.le_of_ble_eq_true rfl)) rfl rfl rfl ?_
  refine me1 (pc' := 98) dm_X12_keep_97 rfl rfl rfl rfl ?_
  refine me3 (pc' := 99) dm_X12_keep_98 (g_lald (v := (0 : Int64)) (lu (n := 102) (j := 9) hn rfl) rfl (by decide) rfl (Nat.le_of_ble_eq_true rfl)) rfl rfl rfl ?_
  refine me3 (pc' := 100) dm_X12_keep_99 (u_last (n := 102) (j := 12) hn rfl rfl (by decide) rfl (Nat.le_of_ble_eq_true rfl)) rfl rfl rfl ?_
  refine me1 (pc' := 101) dm_X12_keep_100 rfl rfl rfl rfl ?_
  refine me3 (pc' := 104) dm_X12_keep_101 (g_get (v := .ref 115) (lu (n := 102) (j := 0) hn rfl) rfl rfl (Nat.le_of_ble_eq_true rfl)) rfl rfl rfl ?_
  refine me0 (pc' := 106) (S' := .int (80 : Int32) :: _) dm_X12_keep_104 rfl rfl rfl rfl ?_
  refine me1 (pc' := 107) dm_X12_keep_106 rfl rfl rfl rfl ?_
  refine me0 (pc' := 108) (S' := .int (160 : Int32) :: _) dm_X12_keep_107 rfl rfl rfl rfl ?_
  refine me0 (pc' := 110) (S' := .int (40 : Int32) :: _) dm_X12_keep_108 rfl rfl rfl rfl ?_
  refine me0 (pc' := 111) (S' := .int (200 : Int32) :: _) dm_X12_keep_110 rfl rfl rfl rfl ?_
  refine me1 (pc' := 112) dm_X12_keep_111 rfl rfl rfl rfl ?_
  refine me0 (pc' := 113) (S' := .int (226 : Int32) :: _) dm_X12_keep_112 rfl rfl rfl rfl ?_
  refine me1 (pc' := 114) dm_X12_keep_113 rfl rfl rfl rfl ?_
  refine me3 (pc' := 117) dm_X12_keep_114 (g_get (v := .ref 113) (lu (n := 102) (j := 0) hn rfl) rfl rfl (Nat.le_of_ble_eq_true rfl)) rfl rfl rfl ?_
  refine me1 (pc' := 118) dm_X12_keep_117 rfl rfl rfl rfl ?_
  refine me3 (pc' := 119) dm_X12_keep_118 (g_iald (v := (0 : Int32)) (lu (n := 102) (j := 11) hn rfl) rfl (by decide) rfl (Nat.le_of_ble_eq_true rfl)) rfl rfl rfl ?_
  refine me3 (pc' := 120) dm_X12_keep_119 (u_iast (n := 102) (j := 13) hn rfl rfl (by decide) rfl (Nat.le_of_ble_eq_true rfl)) rfl rfl rfl ?_
  refine me1 (pc' := 123) (L' := [(2, .int (27 : Int32)), (0, .ref 102), (1, .int (2 : Int32))]) dm_X12_keep_120 rfl rfl rfl rfl ?_
  refine me2 (pc' := 40) dm_X12_keep_123 rfl rfl rfl ?_
  refine me1 (pc' := 41) dm_X12_keep_40 rfl rfl rfl rfl ?_
  refine me0 (pc' := 43) (S' := .int (40 : Int32) :: _) dm_X12_keep_41 rfl rfl rfl rfl ?_
  refine me_2f (pc' := 46) dm_X12_keep_43 rfl (by decide) rfl ?_
  refine me1 (pc' := 47) dm_X12_keep_46 rfl rfl rfl rfl ?_
  refine me3 (pc' := 50) dm_X12_keep_47 (g_get (v := .ref 114) (lu (n := 102) (j := 0) hn rfl) rfl rfl (Nat.le_of_ble_eq_true rfl)) rfl rfl rfl ?_
  refine me0 (pc' := 52) (S' := .int (80 : Int32) :: _) dm_X12_keep_50 rfl rfl rfl rfl ?_
  refine me1 (pc' := 53) dm_X12_keep_52 rfl rfl rfl rfl ?_
  refine me0 (pc' := 54) (S' := .int (160 : Int32) :: _) dm_X12_keep_53 rfl rfl rfl rfl ?_
  refine me1 (pc' := 55) dm_X12_keep_54 rfl rfl rfl rfl ?_
  refine me0 (pc' := 56) (S' := .int (187 : Int32) :: _) dm_X12_keep_55 rfl rfl rfl rfl ?_
  refine me1 (pc' := 57) dm_X12_keep_56 rfl rfl rfl rfl ?_
  refine me3 (pc' := 60) dm_X12_keep_57 (g_get (v := .ref 110) (lu (n := 102) (j := 0) hn rfl) rfl rfl (Nat.le_of_ble_eq_true rfl)) rfl rfl rfl ?_
  refine me1 (pc' := 61) dm_X12_keep_60 rfl rfl rfl rfl ?_
  refine me3 (pc' := 62) dm_X12_keep_61 (g_lald (v := (0 : Int64)) (lu (n := 102) (j := 8) hn rfl) rfl (by decide) rfl (Nat.le_of_ble_eq_true rfl)) rfl rfl rfl ?_
  refine me3 (pc' := 63) dm_X12_keep_62 (u_last (n := 102) (j := 12) hn rfl rfl (by decide) rfl (Nat.le_of_ble_eq_true rfl)) rfl rfl rfl ?_
  refine me1 (pc' := 64) dm_X12_keep_63 rfl rfl rfl rfl ?_
  refine me3 (pc' := 67) dm_X12_keep_64 (g_get (v := .ref 115) (lu (n := 102) (j := 0) hn rfl) rfl rfl (Nat.le_of_ble_eq_true rfl)) rfl rfl rfl ?_
  refine me0 (pc' := 69) (S' := .int (80 : Int32) :: _) dm_X12_keep_67 rfl rfl rfl rfl ?_
  refine me1 (pc' := 70) dm_X12_keep_69 rfl rfl rfl rfl ?_
  refine me0 (pc' := 71) (S' := .int (160 : Int32) :: _) dm_X12_keep_70 rfl rfl rfl rfl ?_
  refine me1 (pc' := 72) dm_X12_keep_71 rfl rfl rfl rfl ?_
  refine me0 (pc' := 73) (S' := .int (187 : Int32) :: _) dm_X12_keep_72 rfl rfl rfl rfl ?_
  refine me1 (pc' := 74) dm_X12_keep_73 rfl rfl rfl rfl ?_
  refine me3 (pc' := 77) dm_X12_keep_74 (g_get (v := .ref 112) (lu (n := 102) (j := 0) hn rfl) rfl rfl (Nat.le_of_ble_eq_true rfl)) rfl rfl rfl ?_
  refine me1 (pc' := 78) dm_X12_keep_77 rfl rfl rfl rfl ?_
  refine me3 (pc' := 79) dm_X12_keep_78 (g_iald (v := (0 : Int32)) (lu (n := 102) (j := 10) hn rfl) rfl (by decide) rfl (Nat.le_of_ble_eq_true rfl)) rfl rfl rfl ?_
  refine me3 (pc' := 80) dm_X12_keep_79 (u_iast (n := 102) (j := 13) hn rfl rfl (by decide) rfl (Nat.le_of_ble_eq_true rfl)) rfl rfl rfl ?_
  refine me1 (pc' := 81) dm_X12_keep_80 rfl rfl rfl rfl ?_
  refine me3 (pc' := 84) dm_X12_keep_81 (g_get (v := .ref 114) (lu (n := 102) (j := 0) hn rfl) rfl rfl (Nat.le_of_ble_eq_true rfl)) rfl rfl rfl ?_
  refine me0 (pc' := 86) (S' := .int (80 : Int32) :: _) dm_X12_keep_84 rfl rfl rfl rfl ?_
  refine me1 (pc' := 87) dm_X12_keep_86 rfl rfl rfl rfl ?_
  refine me0 (pc' := 88) (S' := .int (160 : Int32) :: _) dm_X12_keep_87 rfl rfl rfl rfl ?_
  refine me0 (pc' := 90) (S' := .int (40 : Int32) :: _) dm_X12_keep_88 rfl rfl rfl rfl ?_
  refine me0 (pc' := 91) (S' := .int (200 : Int32) :: _) dm_X12_keep_90 rfl rfl rfl rfl ?_
  refine me1 (pc' := 92) dm_X12_keep_91 rfl rfl rfl rfl ?_
  refine me0 (pc' := 93) (S' := .int (227 : Int32) :: _) dm_X12_keep_92 rfl rfl rfl rfl ?_
  refine me1 (pc' := 94) dm_X12_keep_93 rfl rfl rfl rfl ?_
  refine me3 (pc' := 97) dm_X12_keep_94 (g_get (v := .ref 111) (lu (n := 102) (j := 0) hn rfl) rfl rfl (Nat.le_of_ble_eq_true rfl)) rfl rfl rfl ?_
  refine me1 (pc' := 98) dm_X12_keep_97 rfl rfl rfl rfl ?_
  refine me3 (pc' := 99) dm_X12_keep_98 (g_lald (v := (0 : Int64)) (lu (n := 102) (j := 9) hn rfl) rfl (by decide) rfl (Nat.le_of_ble_eq_true rfl)) rfl rfl rfl ?_
  refine me3 (pc' := 100) dm_X12_keep_99 (u_last (n := 102) (j := 12) hn rfl rfl (by decide) rfl (Nat.le_of_ble_eq_true rfl)) rfl rfl rfl ?_
  refine me1 (pc' := 101) dm_X12_keep_100 rfl rfl rfl rfl ?_
  refine me3 (pc' := 104) dm_X12_keep_101 (g_get (v := .ref 115) (lu (n := 102) (j := 0) hn rfl) rfl rfl (Nat.le_of_ble_eq_true rfl)) rfl rfl rfl ?_
  refine me0 (pc' := 106) (S' := .int (80 : Int32) :: _) dm_X12_keep_104 rfl rfl rfl rfl ?_
  refine me1 (pc' := 107) dm_X12_keep_106 rfl rfl rfl rfl ?_
  refine me0 (pc' := 108) (S' := .int (160 : Int32) :: _) dm_X12_keep_107 rfl rfl rfl rfl ?_
  refine me0 (pc' := 110) (S' := .int (40 : Int32) :: _) dm_X12_keep_108 rfl rfl rfl rfl ?_
  refine me0 (pc' := 111) (S' := .int (200 : Int32) :: _) dm_X12_keep_110 rfl rfl rfl rfl ?_
  refine me1 (pc' := 112) dm_X12_keep_111 rfl rfl rfl rfl ?_
  refine me0 (pc' := 113) (S' := .int (227 : Int32) :: _) dm_X12_keep_112 rfl rfl rfl rfl ?_
  refine me1 (pc' := 114) dm_X12_keep_113 rfl rfl rfl rfl ?_
  refine me3 (pc' := 117) dm_X12_keep_114 (g_get (v := .ref 113) (lu (n := 102) (j := 0) hn rfl) rfl rfl (Nat.le_of_ble_eq_true rfl)) rfl rfl rfl ?_
  refine me1 (pc' := 118) dm_X12_keep_117 rfl rfl rfl rfl ?_
  refine me3 (pc' := 119) dm_X12_keep_118 (g_iald (v := (0 : Int32)) (lu (n := 102) (j := 11) hn rfl) rfl (by decide) rfl (Nat.le_of_ble_eq_true rfl)) rfl rfl rfl ?_
  refine me3 (pc' := 120) dm_X12_keep_119 (u_iast (n := 102) (j := 13) hn rfl rfl (by decide) rfl (Nat.le_of_ble_eq_true rfl)) rfl rfl rfl ?_
  refine me1 (pc' := 123) (L' := [(2, .int (28 : Int32)), (0, .ref 102), (1, .int (2 : Int32))]) dm_X12_keep_120 rfl rfl rfl rfl ?_
  refine me2 (pc' := 40) dm_X12_keep_123 rfl rfl rfl ?_
  refine me1 (pc' := 41) dm_X12_keep_40 rfl rfl rfl rfl ?_
  refine me0 (pc' := 43) (S' := .int (40 : Int32) :: _) dm_X12_keep_41 rfl rfl rfl rfl ?_
  refine me_2f (pc' := 46) dm_X12_keep_43 rfl (by decide) rfl ?_
  refine me1 (pc' := 47) dm_X12_keep_46 rfl rfl rfl rfl ?_
  refine me3 (pc' := 50) dm_X12_keep_47 (g_get (v := .ref 114) (lu (n := 102) (j := 0) hn rfl) rfl rfl (Nat.le_of_ble_eq_true rfl)) rfl rfl rfl ?_
  refine me0 (pc' := 52) (S' := .int (80 : Int32) :: _) dm_X12_keep_50 rfl rfl rfl rfl ?_
  refine me1 (pc' := 53) dm_X12_keep_52 rfl rfl rfl rfl ?_
  refine me0 (pc' := 54) (S' := .int (160 : Int32) :: _) dm_X12_keep_53 rfl rfl rfl rfl ?_
  refine me1 (pc' := 55) dm_X12_keep_54 rfl rfl rfl rfl ?_
  refine me0 (pc' := 56) (S' := .int (188 : Int32) :: _) dm_X12_keep_55 rfl rfl rfl rfl ?_
  refine me1 (pc' := 57) dm_X12_keep_56 rfl rfl rfl rfl ?_
  refine me3 (pc' := 60) dm_X12_keep_57 (g_get (v := .ref 110) (lu (n := 102) (j := 0) hn rfl) rfl rfl (Nat.le_of_ble_eq_true rfl)) rfl rfl rfl ?_
  refine me1 (pc' := 61) dm_X12_keep_60 rfl rfl rfl rfl ?_
  refine me3 (pc' := 62) dm_X12_keep_61 (g_lald (v := (0 : Int64)) (lu (n := 102) (j := 8) hn rfl) rfl (by decide) rfl (Nat.le_of_ble_eq_true rfl)) rfl rfl rfl ?_
  refine me3 (pc' := 63) dm_X12_keep_62 (u_last (n := 102) (j := 12) hn rfl rfl (by decide) rfl (Nat.le_of_ble_eq_true rfl)) rfl rfl rfl ?_
  refine me1 (pc' := 64) dm_X12_keep_63 rfl rfl rfl rfl ?_
  refine me3 (pc' := 67) dm_X12_keep_64 (g_get (v := .ref 115) (lu (n := 102) (j := 0) hn rfl) rfl rfl (Nat.le_of_ble_eq_true rfl)) rfl rfl rfl ?_
  refine me0 (pc' := 69) (S' := .int (80 : Int32) :: _) dm_X12_keep_67 rfl rfl rfl rfl ?_
  refine me1 (pc' := 70) dm_X12_keep_69 rfl rfl rfl rfl ?_
  refine me0 (pc' := 71) (S' := .int (160 : Int32) :: _) dm_X12_keep_70 rfl rfl rfl rfl ?_
  refine me1 (pc' := 72) dm_X12_keep_71 rfl rfl rfl rfl ?_
  refine me0 (pc' := 73) (S' := .int (188 : Int32) :: _) dm_X12_keep_72 rfl rfl rfl rfl ?_
  refine me1 (pc' := 74) dm_X12_keep_73 rfl rfl rfl rfl ?_
  refine me3 (pc' := 77) dm_X12_keep_74 (g_get (v := .ref 112) (lu (n := 102) (j := 0) hn rfl) rfl rfl (Nat.le_of_ble_eq_true rfl)) rfl rfl rfl ?_
  refine me1 (pc' := 78) dm_X12_keep_77 rfl rfl rfl rfl ?_
  refine me3 (pc' := 79) dm_X12_keep_78 (g_iald (v := (0 : Int32)) (lu (n := 102) (j := 10) hn rfl) rfl (by decide) rfl (Nat.le_of_ble_eq_true rfl)) rfl rfl rfl ?_
  refine me3 (pc' := 80) dm_X12_keep_79 (u_iast (n := 102) (j := 13) hn rfl rfl (by decide) rfl (Nat.le_of_ble_eq_true rfl)) rfl rfl rfl ?_
  refine me1 (pc' := 81) dm_X12_keep_80 rfl rfl rfl rfl ?_
  refine me3 (pc' := 84) dm_X12_keep_81 (g_get (v := .ref 114) (lu (n := 102) (j := 0) hn rfl) rfl rfl (Nat.le_of_ble_eq_true rfl)) rfl rfl rfl ?_
  refine me0 (pc' := 86) (S' := .int (80 : Int32) :: _) dm_X12_keep_84 rfl rfl rfl rfl ?_
  refine me1 (pc' := 87) dm_X12_keep_86 rfl rfl rfl rfl ?_
  refine me0 (pc' := 88) (S' := .int (160 : Int32) :: _) dm_X12_keep_87 rfl rfl rfl rfl ?_
  refine me0 (pc' := 90) (S' := .int (40 : Int32) :: _) dm_X12_keep_88 rfl rfl rfl rfl ?_
  refine me0 (pc' := 91) (S' := .int (200 : Int32) :: _) dm_X12_keep_90 rfl rfl rfl rfl ?_
  refine me1 (pc' := 92) dm_X12_keep_91 rfl rfl rfl rfl ?_
  refine me0 (pc' := 93) (S' := .int (228 : Int32) :: _) dm_X12_keep_92 rfl rfl rfl rfl ?_
  refine me1 (pc' := 94) dm_X12_keep_93 rfl rfl rfl rfl ?_
  refine me3 (pc' := 97) dm_X12_keep_94 (g_get (v := .ref 111) (lu (n := 102) (j := 0) hn rfl) rfl rfl (Nat.le_of_ble_eq_true rfl)) rfl rfl rfl ?_
  refine me1 (pc' := 98) dm_X12_keep_97 rfl rfl rfl rfl ?_
  refine me3 (pc' := 99) dm_X12_keep_98 (g_lald (v := (0 : Int64)) (lu (n := 102) (j := 9) hn rfl) rfl (by decide) rfl (Nat.le_of_ble_eq_true rfl)) rfl rfl rfl ?_
  refine me3 (pc' := 100) dm_X12_keep_99 (u_last (n := 102) (j := 12) hn rfl rfl (by decide) rfl (Nat.le_of_ble_eq_true rfl)) rfl rfl rfl ?_
  refine me1 (pc' := 101) dm_X12_keep_100 rfl rfl rfl rfl ?_
  refine me3 (pc' := 104) dm_X12_keep_101 (g_get (v := .ref 115) (lu (n := 102) (j := 0) hn rfl) rfl rfl (Nat.le_of_ble_eq_true rfl)) rfl rfl rfl ?_
  refine me0 (pc' := 106) (S' := .int (80 : Int32) :: _) dm_X12_keep_104 rfl rfl rfl rfl ?_
  refine me1 (pc' := 107) dm_X12_keep_106 rfl rfl rfl rfl ?_
  refine me0 (pc' := 108) (S' := .int (160 : Int32) :: _) dm_X12_keep_107 rfl rfl rfl rfl ?_
  refine me0 (pc' := 110) (S' := .int (40 : Int32) :: _) dm_X12_keep_108 rfl rfl rfl rfl ?_
  refine me0 (pc' := 111) (S' := .int (200 : Int32) :: _) dm_X12_keep_110 rfl rfl rfl rfl ?_
  refine me1 (pc' := 112) dm_X12_keep_111 rfl rfl rfl rfl ?_
  refine me0 (pc' := 113) (S' := .int (228 : Int32) :: _) dm_X12_keep_112 rfl rfl rfl rfl ?_
  refine me1 (pc' := 114) dm_X12_keep_113 rfl rfl rfl rfl ?_
  refine me3 (pc' := 117) dm_X12_keep_114 (g_get (v := .ref 113) (lu (n := 102) (j := 0) hn rfl) rfl rfl (Nat.le_of_ble_eq_true rfl)) rfl rfl rfl ?_
  refine me1 (pc' := 118) dm_X12_keep_117 rfl rfl rfl rfl ?_
  refine me3 (pc' := 119) dm_X12_keep_118 (g_iald (v := (0 : Int32)) (lu (n := 102) (j := 11) hn rfl) rfl (by decide) rfl (Nat.le_of_ble_eq_true rfl)) rfl rfl rfl ?_
  refine me3 (pc' := 120) dm_X12_keep_119 (u_iast (n := 102) (j := 13) hn rfl rfl (by decide) rfl (Nat.le_of_ble_eq_true rfl)) rfl rfl rfl ?_
  refine me1 (pc' := 123) (L' := [(2, .int (29 : Int32)), (0, .ref 102), (1, .int (2 : Int32))]) dm_X12_keep_120 rfl rfl rfl rfl ?_
  refine me2 (pc' := 40) dm_X12_keep_123 rfl rfl rfl ?_
  refine me1 (pc' := 41) dm_X12_keep_40 rfl rfl rfl rfl ?_
  refine me0 (pc' := 43) (S' := .int (40 : Int32) :: _) dm_X12_keep_41 rfl rfl rfl rfl ?_
  refine me_2f (pc' := 46) dm_X12_keep_43 rfl (by decide) rfl ?_
  refine me1 (pc' := 47) dm_X12_keep_46 rfl rfl rfl rfl ?_
  refine me3 (pc' := 50) dm_X12_keep_47 (g_get (v := .ref 114) (lu (n := 102) (j := 0) hn rfl) rfl rfl (Nat.le_of_ble_eq_true rfl)) rfl rfl rfl ?_
  refine me0 (pc' := 52) (S' := .int (80 : Int32) :: _) dm_X12_keep_50 rfl rfl rfl rfl ?_
  refine me1 (pc' := 53) dm_X12_keep_52 rfl rfl rfl rfl ?_
  refine me0 (pc' := 54) (S' := .int (160 : Int32) :: _) dm_X12_keep_53 rfl rfl rfl rfl ?_
  refine me1 (pc' := 55) dm_X12_keep_54 rfl rfl rfl rfl ?_
  refine me0 (pc' := 56) (S' := .int (189 : Int32) :: _) dm_X12_keep_55 rfl rfl rfl rfl ?_
  refine me1 (pc' := 57) dm_X12_keep_56 rfl rfl rfl rfl ?_
  refine me3 (pc' := 60) dm_X12_keep_57 (g_get (v := .ref 110) (lu (n := 102) (j := 0) hn rfl) rfl rfl (Nat.le_of_ble_eq_true rfl)) rfl rfl rfl ?_
  refine me1 (pc' := 61) dm_X12_keep_60 rfl rfl rfl rfl ?_
  refine me3 (pc' := 62) dm_X12_keep_61 (g_lald (v := (0 : Int64)) (lu (n := 102) (j := 8) hn rfl) rfl (by decide) rfl (Nat.le_of_ble_eq_true rfl)) rfl rfl rfl ?_
  refine me3 (pc' := 63) dm_X12_keep_62 (u_last (n := 102) (j := 12) hn rfl rfl (by decide) rfl (Nat.le_of_ble_eq_true rfl)) rfl rfl rfl ?_
  refine me1 (pc' := 64) dm_X12_keep_63 rfl rfl rfl rfl ?_
  refine me3 (pc' := 67) dm_X12_keep_64 (g_get (v := .ref 115) (lu (n := 102) (j := 0) hn rfl) rfl rfl (Nat.le_of_ble_eq_true rfl)) rfl rfl rfl ?_
  refine me0 (pc' := 69) (S' := .int (80 : Int32) :: _) dm_X12_keep_67 rfl rfl rfl rfl ?_
  refine me1 (pc' := 70) dm_X12_keep_69 rfl rfl rfl rfl ?_
  refine me0 (pc' := 71) (S' := .int (160 : Int32) :: _) dm_X12_keep_70 rfl rfl rfl rfl ?_
  refine me1 (pc' := 72) dm_X12_keep_71 rfl rfl rfl rfl ?_
  refine me0 (pc' := 73) (S' := .int (189 : Int32) :: _) dm_X12_keep_72 rfl rfl rfl rfl ?_
  refine me1 (pc' := 74) dm_X12_keep_73 rfl rfl rfl rfl ?_
  refine me3 (pc' := 77) dm_X12_keep_74 (g_get (v := .ref 112) (lu (n := 102) (j := 0) hn rfl) rfl rfl (Nat.le_of_ble_eq_true rfl)) rfl rfl rfl ?_
  refine me1 (pc' := 78) dm_X12_keep_77 rfl rfl rfl rfl ?_
  refine me3 (pc' := 79) dm_X12_keep_78 (g_iald (v := (0 : Int32)) (lu (n := 102) (j := 10) hn rfl) rfl (by decide) rfl (Nat.le_of_ble_eq_true rfl)) rfl rfl rfl ?_
  refine me3 (pc' := 80) dm_X12_keep_79 (u_iast (n := 102) (j := 13) hn rfl rfl (by decide) rfl (Nat.le_of_ble_eq_true rfl)) rfl rfl rfl ?_
  refine me1 (pc' := 81) dm_X12_keep_80 rfl rfl rfl rfl ?_
  refine me3 (pc' := 84) dm_X12_keep_81 (g_get (v := .ref 114) (lu (n := 102) (j := 0) hn rfl) rfl rfl (Nat.le_of_ble_eq_true rfl)) rfl rfl rfl ?_
  refine me0 (pc' := 86) (S' := .int (80 : Int32) :: _) dm_X12_keep_84 rfl rfl rfl rfl ?_
  refine me1 (pc' := 87) dm_X12_keep_86 rfl rfl rfl rfl ?_
  refine me0 (pc' := 88) (S' := .int (160 : Int32) :: _) dm_X12_keep_87 rfl rfl rfl rfl ?_
  refine me0 (pc' := 90) (S' := .int (40 : Int32) :: _) dm_X12_keep_88 rfl rfl rfl rfl ?_
  refine me0 (pc' := 91) (S' := .int (200 : Int32) :: _) dm_X12_keep_90 rfl rfl rfl rfl ?_
  refine me1 (pc' := 92) dm_X12_keep_91 rfl rfl rfl rfl ?_
  refine me0 (pc' := 93) (S' := .int (229 : Int32) :: _) dm_X12_keep_92 rfl rfl rfl rfl ?_
  refine me1 (pc' := 94) dm_X12_keep_93 rfl rfl rfl rfl ?_
  refine me3 (pc' := 97) dm_X12_keep_94 (g_get (v := .ref 111) (lu (n := 102) (j := 0) hn rfl) rfl rfl (Nat.le_of_ble_eq_true rfl)) rfl rfl rfl ?_
  refine me1 (pc' := 98) dm_X12_keep_97 rfl rfl rfl rfl ?_
  refine me3 (pc' := 99) dm_X12_keep_98 (g_lald (v := (0 : Int64)) (lu (n := 102) (j := 9) hn rfl) rfl (by decide) rfl (Nat.le_of_ble_eq_true rfl)) rfl rfl rfl ?_
  refine me3 (pc' := 100) dm_X12_keep_99 (u_last (n := 102) (j := 12) hn rfl rfl (by decide) rfl (Nat.le_of_ble_eq_true rfl)) rfl rfl rfl ?_
  refine me1 (pc' := 101) dm_X12_keep_100 rfl rfl rfl rfl ?_
  refine me3 (pc' := 104) dm_X12_keep_101 (g_get (v := .ref 115) (lu (n := 102) (j := 0) hn rfl) rfl rfl (Nat.le_of_ble_eq_true rfl)) rfl rfl rfl ?_
  refine me0 (pc' := 106) (S' := .int (80 : Int32) :: _) dm_X12_keep_104 rfl rfl rfl rfl ?_
  refine me1 (pc' := 107) dm_X12_keep_106 rfl rfl rfl rfl ?_
  refine me0 (pc' := 108) (S' := .int (160 : Int32) :: _) dm_X12_keep_107 rfl rfl rfl rfl ?_
  refine me0 (pc' := 110) (S' := .int (40 : Int32) :: _) dm_X12_keep_108 rfl rfl rfl rfl ?_
  refine me0 (pc' := 111) (S' := .int (200 : Int32) :: _) dm_X12_keep_110 rfl rfl rfl rfl ?_
  refine me1 (pc' := 112) dm_X12_keep_111 rfl rfl rfl rfl ?_
  refine me0 (pc' := 113) (S' := .int (229 : Int32) :: _) dm_X12_keep_112 rfl rfl rfl rfl ?_
  refine me1 (pc' := 114) dm_X12_keep_113 rfl rfl rfl rfl ?_
  refine me3 (pc' := 117) dm_X12_keep_114 (g_get (v := .ref 113) (lu (n := 102) (j := 0) hn rfl) rfl rfl (Nat.le_of_ble_eq_true rfl)) rfl rfl rfl ?_
  refine me1 (pc' := 118) dm_X12_keep_117 rfl rfl rfl rfl ?_
  refine me3 (pc' := 119) dm_X12_keep_118 (g_iald (v := (0 : Int32)) (lu (n := 102) (j := 11) hn rfl) rfl (by decide) rfl (Nat.le_of_ble_eq_true rfl)) rfl rfl rfl ?_
  refine me3 (pc' := 120) dm_X12_keep_119 (u_iast (n := 102) (j := 13) hn rfl rfl (by decide) rfl (Nat.le_of_ble_eq_true rfl)) rfl rfl rfl ?_
  refine me1 (pc' := 123) (L' := [(2, .int (30 : Int32)), (0, .ref 102), (1, .int (2 : Int32))]) dm_X12_keep_120 rfl rfl rfl rfl ?_
  refine me2 (pc' := 40) dm_X12_keep_123 rfl rfl rfl ?_
  refine me1 (pc' := 41) dm_X12_keep_40 rfl rfl rfl rfl ?_
  refine me0 (pc' := 43) (S' := .int (40 : Int32) :: _) dm_X12_keep_41 rfl rfl rfl rfl ?_
  refine me_2f (pc' := 46) dm_X12_keep_43 rfl (by decide) rfl ?_
  refine me1 (pc' := 47) dm_X12_keep_46 rfl rfl rfl rfl ?_
  refine me3 (pc' := 50) dm_X12_keep_47 (g_get (v := .ref 114) (lu (n := 102) (j := 0) hn rfl) rfl rfl (Nat.le_of_ble_eq_true rfl)) rfl rfl rfl ?_
  refine me0 (pc' := 52) (S' := .int (80 : Int32) :: _) dm_X12_keep_50 rfl rfl rfl rfl ?_
  refine me1 (pc' := 53) dm_X12_keep_52 rfl rfl rfl rfl ?_
  refine me0 (pc' := 54) (S' := .int (160 : Int32) :: _) dm_X12_keep_53 rfl rfl rfl rfl ?_
  refine me1 (pc' := 55) dm_X12_keep_54 rfl rfl rfl rfl ?_
  refine me0 (pc' := 56) (S' := .int (190 : Int32) :: _) dm_X12_keep_55 rfl rfl rfl rfl ?_
  refine me1 (pc' := 57) dm_X12_keep_56 rfl rfl rfl rfl ?_
  refine me3 (pc' := 60) dm_X12_keep_57 (g_get (v := .ref 110) (lu (n := 102) (j := 0) hn rfl) rfl rfl (Nat.le_of_ble_eq_true rfl)) rfl rfl rfl ?_
  refine me1 (pc' := 61) dm_X12_keep_60 rfl rfl rfl rfl ?_
  refine me3 (pc' := 62) dm_X12_keep_61 (g_lald (v := (0 : Int64)) (lu (n := 102) (j := 8) hn rfl) rfl (by decide) rfl (Nat.le_of_ble_eq_true rfl)) rfl rfl rfl ?_
  refine me3 (pc' := 63) dm_X12_keep_62 (u_last (n := 102) (j := 12) hn rfl rfl (by decide) rfl (Nat.le_of_ble_eq_true rfl)) rfl rfl rfl ?_
  refine me1 (pc' := 64) dm_X12_keep_63 rfl rfl rfl rfl ?_
  refine me3 (pc' := 67) dm_X12_keep_64 (g_get (v := .ref 115) (lu (n := 102) (j := 0) hn rfl) rfl rfl (Nat.le_of_ble_eq_true rfl)) rfl rfl rfl ?_
  refine me0 (pc' := 69) (S' := .int (80 : Int32) :: _) dm_X12_keep_67 rfl rfl rfl rfl ?_
  refine me1 (pc' := 70) dm_X12_keep_69 rfl rfl rfl rfl ?_
  refine me0 (pc' := 71) (S' := .int (160 : Int32) :: _) dm_X12_keep_70 rfl rfl rfl rfl ?_
  refine me1 (pc' := 72) dm_X12_keep_71 rfl rfl rfl rfl ?_
  refine me0 (pc' := 73) (S' := .int (190 : Int32) :: _) dm_X12_keep_72 rfl rfl rfl rfl ?_
  refine me1 (pc' := 74) dm_X12_keep_73 rfl rfl rfl rfl ?_
  refine me3 (pc' := 77) dm_X12_keep_74 (g_get (v := .ref 112) (lu (n := 102) (j := 0) hn rfl) rfl rfl (Nat.le_of_ble_eq_true rfl)) rfl rfl rfl ?_
  refine me1 (pc' := 78) dm_X12_keep_77 rfl rfl rfl rfl ?_
  refine me3 (pc' := 79) dm_X12_keep_78 (g_iald (v := (0 : Int32)) (lu (n := 102) (j := 10) hn rfl) rfl (by decide) rfl (Nat.le_of_ble_eq_true rfl)) rfl rfl rfl ?_
  refine me3 (pc' := 80) dm_X12_keep_79 (u_iast (n := 102) (j := 13) hn rfl rfl (by decide) rfl (Nat.le_of_ble_eq_true rfl)) rfl rfl rfl ?_
  refine me1 (pc' := 81) dm_X12_keep_80 rfl rfl rfl rfl ?_
  refine me3 (pc' := 84) dm_X12_keep_81 (g_get (v := .ref 114) (lu (n := 102) (j := 0) hn rfl) rfl rfl (Nat.le_of_ble_eq_true rfl)) rfl rfl rfl ?_
  refine me0 (pc' := 86) (S' := .int (80 : Int32) :: _) dm_X12_keep_84 rfl rfl rfl rfl ?_
  refine me1 (pc' := 87) dm_X12_keep_86 rfl rfl rfl rfl ?_
  refine me0 (pc' := 88) (S' := .int (160 : Int32) :: _) dm_X12_keep_87 rfl rfl rfl rfl ?_
  refine me0 (pc' := 90) (S' := .int (40 : Int32) :: _) dm_X12_keep_88 rfl rfl rfl rfl ?_
  refine me0 (pc' := 91) (S' := .int (200 : Int32) :: _) dm_X12_keep_90 rfl rfl rfl rfl ?_
  refine me1 (pc' := 92) dm_X12_keep_91 rfl rfl rfl rfl ?_
  refine me0 (pc' := 93) (S' := .int (230 : Int32) :: _) dm_X12_keep_92 rfl rfl rfl rfl ?_
  refine me1 (pc' := 94) dm_X12_keep_93 rfl rfl rfl rfl ?_
  refine me3 (pc' := 97) dm_X12_keep_94 (g_get (v := .ref 111) (lu (n := 102) (j := 0) hn rfl) rfl rfl (Nat.le_of_ble_eq_true rfl)) rfl rfl rfl ?_
  refine me1 (pc' := 98) dm_X12_keep_97 rfl rfl rfl rfl ?_
  refine me3 (pc' := 99) dm_X12_keep_98 (g_lald (v := (0 : Int64)) (lu (n := 102) (j := 9) hn rfl) rfl (by decide) rfl (Nat.le_of_ble_eq_true rfl)) rfl rfl rfl ?_
  refine me3 (pc' := 100) dm_X12_keep_99 (u_last (n := 102) (j := 12) hn rfl rfl (by decide) rfl (Nat.le_of_ble_eq_true rfl)) rfl rfl rfl ?_
  refine me1 (pc' := 101) dm_X12_keep_100 rfl rfl rfl rfl ?_
  refine me3 (pc' := 104) dm_X12_keep_101 (g_get (v := .ref 115) (lu (n := 102) (j := 0) hn rfl) rfl rfl (Nat.le_of_ble_eq_true rfl)) rfl rfl rfl ?_
  refine me0 (pc' := 106) (S' := .int (80 : Int32) :: _) dm_X12_keep_104 rfl rfl rfl rfl ?_
  refine me1 (pc' := 107) dm_X12_keep_106 rfl rfl rfl rfl ?_
  refine me0 (pc' := 108) (S' := .int (160 : Int32) :: _) dm_X12_keep_107 rfl rfl rfl rfl ?_
  refine me0 (pc' := 110) (S' := .int (40 : Int32) :: _) dm_X12_keep_108 rfl rfl rfl rfl ?_
  refine me0 (pc' := 111) (S' := .int (200 : Int32) :: _) dm_X12_keep_110 rfl rfl rfl rfl ?_
  refine me1 (pc' := 112) dm_X12_keep_111 rfl rfl rfl rfl ?_
  refine me0 (pc' := 113) (S' := .int (230 : Int32) :: _) dm_X12_keep_112 rfl rfl rfl rfl ?_
  refine me1 (pc' := 114) dm_X12_keep_113 rfl rfl rfl rfl ?_
  refine me3 (pc' := 117) dm_X12_keep_114 (g_get (v := .ref 113) (lu (n := 102) (j := 0) hn rfl) rfl rfl (Nat.le_of_ble_eq_true rfl)) rfl rfl rfl ?_
  refine me1 (pc' := 118) dm_X12_keep_117 rfl rfl rfl rfl ?_
  refine me3 (pc' := 119) dm_X12_keep_118 (g_iald (v := (0 : Int32)) (lu (n := 102) (j := 11) hn rfl) rfl (by decide) rfl (Nat.le_of_ble_eq_true rfl)) rfl rfl rfl ?_
  refine me3 (pc' := 120) dm_X12_keep_119 (u_iast (n := 102) (j := 13) hn rfl rfl (by decide) rfl (Nat.le_of_ble_eq_true rfl)) rfl rfl rfl ?_
  refine me1 (pc' := 123) (L' := [(2, .int (31 : Int32)), (0, .ref 102), (1, .int (2 : Int32))]) dm_X12_keep_120 rfl rfl rfl rfl ?_
  refine me2 (pc' := 40) dm_X12_keep_123 rfl rfl rfl ?_
  refine me1 (pc' := 41) dm_X12_keep_40 rfl rfl rfl rfl ?_
  refine me0 (pc' := 43) (S' := .int (40 : Int32) :: _) dm_X12_keep_41 rfl rfl rfl rfl ?_
  refine me_2f (pc' := 46) dm_X12_keep_43 rfl (by decide) rfl ?_
  refine me1 (pc' := 47) dm_X12_keep_46 rfl rfl rfl rfl ?_
  refine me3 (pc' := 50) dm_X12_keep_47 (g_get (v := .ref 114) (lu (n := 102) (j := 0) hn rfl) rfl rfl (Nat.le_of_ble_eq_true rfl)) rfl rfl rfl ?_
  refine me0 (pc' := 52) (S' := .int (80 : Int32) :: _) dm_X12_keep_50 rfl rfl rfl rfl ?_
  refine me1 (pc' := 53) dm_X12_keep_52 rfl rfl rfl rfl ?_
  refine me0 (pc' := 54) (S' := .int (160 : Int32) :: _) dm_X12_keep_53 rfl rfl rfl rfl ?_
  refine me1 (pc' := 55) dm_X12_keep_54 rfl rfl rfl rfl ?_
  refine me0 (pc' := 56) (S' := .int (191 : Int32) :: _) dm_X12_keep_55 rfl rfl rfl rfl ?_
  refine me1 (pc' := 57) dm_X12_keep_56 rfl rfl rfl rfl ?_
  refine me3 (pc' := 60) dm_X12_keep_57 (g_get (v := .ref 110) (lu (n := 102) (j := 0) hn rfl) rfl rfl (Nat.le_of_ble_eq_true rfl)) rfl rfl rfl ?_
  refine me1 (pc' := 61) dm_X12_keep_60 rfl rfl rfl rfl ?_
  refine me3 (pc' := 62) dm_X12_keep_61 (g_lald (v := (0 : Int64)) (lu (n := 102) (j := 8) hn rfl) rfl (by decide) rfl (Nat.le_of_ble_eq_true rfl)) rfl rfl rfl ?_
  refine me3 (pc' := 63) dm_X12_keep_62 (u_last (n := 102) (j := 12) hn rfl rfl (by decide) rfl (Nat.le_of_ble_eq_true rfl)) rfl rfl rfl ?_
  refine me1 (pc' := 64) dm_X12_keep_63 rfl rfl rfl rfl ?_
  refine me3 (pc' := 67) dm_X12_keep_64 (g_get (v := .ref 115) (lu (n := 102) (j := 0) hn rfl) rfl rfl (Nat.le_of_ble_eq_true rfl)) rfl rfl rfl ?_
  refine me0 (pc' := 69) (S' := .int (80 : Int32) :: _) dm_X12_keep_67 rfl rfl rfl rfl ?_
  refine me1 (pc' := 70) dm_X12_keep_69 rfl rfl rfl rfl ?_
  refine me0 (pc' := 71) (S' := .int (160 : Int32) :: _) dm_X12_keep_70 rfl rfl rfl rfl ?_
  refine me1 (pc' := 72) dm_X12_keep_71 rfl rfl rfl rfl ?_
  refine me0 (pc' := 73) (S' := .int (191 : Int32) :: _) dm_X12_keep_72 rfl rfl rfl rfl ?_
  refine me1 (pc' := 74) dm_X12_keep_73 rfl rfl rfl rfl ?_
  refine me3 (pc' := 77) dm_X12_keep_74 (g_get (v := .ref 112) (lu (n := 102) (j := 0) hn rfl) rfl rfl (Nat.le_of_ble_eq_true rfl)) rfl rfl rfl ?_
  refine me1 (pc' := 78) dm_X12_keep_77 rfl rfl rfl rfl ?_
  refine me3 (pc' := 79) dm_X12_keep_78 (g_iald (v := (0 : Int32)) (lu (n := 102) (j := 10) hn rfl) rfl (by decide) rfl (Nat.le_of_ble_eq_true rfl)) rfl rfl rfl ?_
  refine me3 (pc' := 80) dm_X12_keep_79 (u_iast (n := 102) (j := 13) hn rfl rfl (by decide) rfl (Nat.le_of_ble_eq_true rfl)) rfl rfl rfl ?_
  refine me1 (pc' := 81) dm_X12_keep_80 rfl rfl rfl rfl ?_
  refine me3 (pc' := 84) dm_X12_keep_81 (g_get (v := .ref 114) (lu (n := 102) (j := 0) hn rfl) rfl rfl (Nat.le_of_ble_eq_true rfl)) rfl rfl rfl ?_
  refine me0 (pc' := 86) (S' := .int (80 : Int32) :: _) dm_X12_keep_84 rfl rfl rfl rfl ?_
  refine me1 (pc' := 87) dm_X12_keep_86 rfl rfl rfl rfl ?_
  refine me0 (pc' := 88) (S' := .int (160 : Int32) :: _) dm_X12_keep_87 rfl rfl rfl rfl ?_
  refine me0 (pc' := 90) (S' := .int (40 : Int32) :: _) dm_X12_keep_88 rfl rfl rfl rfl ?_
  refine me0 (pc' := 91) (S' := .int (200 : Int32) :: _) dm_X12_keep_90 rfl rfl rfl rfl ?_
  refine me1 (pc' := 92) dm_X12_keep_91 rfl rfl rfl rfl ?_
  refine me0 (pc' := 93) (S' := .int (231 : Int32) :: _) dm_X12_keep_92 rfl rfl rfl rfl ?_
  refine me1 (pc' := 94) dm_X12_keep_93 rfl rfl rfl rfl ?_
  refine me3 (pc' := 97) dm_X12_keep_94 (g_get (v := .ref 111) (lu (n := 102) (j := 0) hn rfl) rfl rfl (Nat.le_of_ble_eq_true rfl)) rfl rfl rfl ?_
  refine me1 (pc' := 98) dm_X12_keep_97 rfl rfl rfl rfl ?_
  refine me3 (pc' := 99) dm_X12_keep_98 (g_lald (v := (0 : Int64)) (lu (n := 102) (j := 9) hn rfl) rfl (by decide) rfl (Nat.le_of_ble_eq_true rfl)) rfl rfl rfl ?_
  refine me3 (pc' := 100) dm_X12_keep_99 (u_last (n := 102) (j := 12) hn rfl rfl (by decide) rfl (Nat.le_of_ble_eq_true rfl)) rfl rfl rfl ?_
  refine me1 (pc' := 101) dm_X12_keep_100 rfl rfl rfl rfl ?_
  refine me3 (pc' := 104) dm_X12_keep_101 (g_get (v := .ref 115) (lu (n := 102) (j := 0) hn rfl) rfl rfl (Nat.le_of_ble_eq_true rfl)) rfl rfl rfl ?_
  refine me0 (pc' := 106) (S' := .int (80 : Int32) :: _) dm_X12_keep_104 rfl rfl rfl rfl ?_
  refine me1 (pc' := 107) dm_X12_keep_106 rfl rfl rfl rfl ?_
  refine me0 (pc' := 108) (S' := .int (160 : Int32) :: _) dm_X12_keep_107 rfl rfl rfl rfl ?_
  refine me0 (pc' := 110) (S' := .int (40 : Int32) :: _) dm_X12_keep_108 rfl rfl rfl rfl ?_
  refine me0 (pc' := 111) (S' := .int (200 : Int32) :: _) dm_X12_keep_110 rfl rfl rfl rfl ?_
  refine me1 (pc' := 112) dm_X12_keep_111 rfl rfl rfl rfl ?_
  refine me0 (pc' := 113) (S' := .int (231 : Int32) :: _) dm_X12_keep_112 rfl rfl rfl rfl ?_
  refine me1 (pc' := 114) dm_X12_keep_113 rfl rfl rfl rfl ?_
  refine me3 (pc' := 117) dm_X12_keep_114 (g_get (v := .ref 113) (lu (n := 102) (j := 0) hn rfl) rfl rfl (Nat.le_of_ble_eq_true rfl)) rfl rfl rfl ?_
  refine me1 (pc' := 118) dm_X12_keep_117 rfl rfl rfl rfl ?_
  refine me3 (pc' := 119) dm_X12_keep_118 (g_iald (v := (0 : Int32)) (lu (n := 102) (j := 11) hn rfl) rfl (by decide) rfl (Nat.le_of_ble_eq_true rfl)) rfl rfl rfl ?_
  refine me3 (pc' := 120) dm_X12_keep_119 (u_iast (n := 102) (j := 13) hn rfl rfl (by decide) rfl (Nat.le_of_ble_eq_true rfl)) rfl rfl rfl ?_
  refine me1 (pc' := 123) (L' := [(2, .int (32 : Int32)), (0, .ref 102), (1, .int (2 : Int32))]) dm_X12_keep_120 rfl rfl rfl rfl ?_
  refine me2 (pc' := 40) dm_X12_keep_123 rfl rfl rfl ?_
  refine me1 (pc' := 41) dm_X12_keep_40 rfl rfl rfl rfl ?_
  refine me0 (pc' := 43) (S' := .int (40 : Int32) :: _) dm_X12_keep_41 rfl rfl rfl rfl ?_
  refine me_2f (pc' := 46) dm_X12_keep_43 rfl (by decide) rfl ?_
  refine me1 (pc' := 47) dm_X12_keep_46 rfl rfl rfl rfl ?_
  refine me3 (pc' := 50) dm_X12_keep_47 (g_get (v := .ref 114) (lu (n := 102) (j := 0) hn rfl) rfl rfl (Nat.le_of_ble_eq_true rfl)) rfl rfl rfl ?_
  refine me0 (pc' := 52) (S' := .int (80 : Int32) :: _) dm_X12_keep_50 rfl rfl rfl rfl ?_
  refine me1 (pc' := 53) dm_X12_keep_52 rfl rfl rfl rfl ?_
  refine me0 (pc' := 54) (S' := .int (160 : Int32) :: _) dm_X12_keep_53 rfl rfl rfl rfl ?_
  refine me1 (pc' := 55) dm_X12_keep_54 rfl rfl rfl rfl ?_
  refine me0 (pc' := 56) (S' := .int (192 : Int32) :: _) dm_X12_keep_55 rfl rfl rfl rfl ?_
  refine me1 (pc' := 57) dm_X12_keep_56 rfl rfl rfl rfl ?_
  refine me3 (pc' := 60) dm_X12_keep_57 (g_get (v := .ref 110) (lu (n := 102) (j := 0) hn rfl) rfl rfl (Nat.le_of_ble_eq_true rfl)) rfl rfl rfl ?_
  refine me1 (pc' := 61) dm_X12_keep_60 rfl rfl rfl rfl ?_
  refine me3 (pc' := 62) dm_X12_keep_61 (g_lald (v := (0 : Int64)) (lu (n := 102) (j := 8) hn rfl) rfl (by decide) rfl (Nat.le_of_ble_eq_true rfl)) rfl rfl rfl ?_
  refine me3 (pc' := 63) dm_X12_keep_62 (u_last (n := 102) (j := 12) hn rfl rfl (by decide) rfl (Nat.le_of_ble_eq_true rfl)) rfl rfl rfl ?_
  refine me1 (pc' := 64) dm_X12_keep_63 rfl rfl rfl rfl ?_
  refine me3 (pc' := 67) dm_X12_keep_64 (g_get (v := .ref 115) (lu (n := 102) (j := 0) hn rfl) rfl rfl (Nat.le_of_ble_eq_true rfl)) rfl rfl rfl ?_
  refine me0 (pc' := 69) (S' := .int (80 : Int32) :: _) dm_X12_keep_67 rfl rfl rfl rfl ?_
  refine me1 (pc' := 70) dm_X12_keep_69 rfl rfl rfl rfl ?_
  refine me0 (pc' := 71) (S' := .int (160 : Int32) :: _) dm_X12_keep_70 rfl rfl rfl rfl ?_
  refine me1 (pc' := 72) dm_X12_keep_71 rfl rfl rfl rfl ?_
  refine me0 (pc' := 73) (S' := .int (192 : Int32) :: _) dm_X12_keep_72 rfl rfl rfl rfl ?_
  refine me1 (pc' := 74) dm_X12_keep_73 rfl rfl rfl rfl ?_
  refine me3 (pc' := 77) dm_X12_keep_74 (g_get (v := .ref 112) (lu (n := 102) (j := 0) hn rfl) rfl rfl (Nat.le_of_ble_eq_true rfl)) rfl rfl rfl ?_
  refine me1 (pc' := 78) dm_X12_keep_77 rfl rfl rfl rfl ?_
  refine me3 (pc' := 79) dm_X12_keep_78 (g_iald (v := (0 : Int32)) (lu (n := 102) (j := 10) hn rfl) rfl (by decide) rfl (Nat.le_of_ble_eq_true rfl)) rfl rfl rfl ?_
  refine me3 (pc' := 80) dm_X12_keep_79 (u_iast (n := 102) (j := 13) hn rfl rfl (by decide) rfl (Nat.le_of_ble_eq_true rfl)) rfl rfl rfl ?_
  refine me1 (pc' := 81) dm_X12_keep_80 rfl rfl rfl rfl ?_
  refine me3 (pc' := 84) dm_X12_keep_81 (g_get (v := .ref 114) (lu (n := 102) (j := 0) hn rfl) rfl rfl (Nat.le_of_ble_eq_true rfl)) rfl rfl rfl ?_
  refine me0 (pc' := 86) (S' := .int (80 : Int32) :: _) dm_X12_keep_84 rfl rfl rfl rfl ?_
  refine me1 (pc' := 87) dm_X12_keep_86 rfl rfl rfl rfl ?_
  refine me0 (pc' := 88) (S' := .int (160 : Int32) :: _) dm_X12_keep_87 rfl rfl rfl rfl ?_
  refine me0 (pc' := 90) (S' := .int (40 : Int32) :: _) dm_X12_keep_88 rfl rfl rfl rfl ?_
  refine me0 (pc' := 91) (S' := .int (200 : Int32) :: _) dm_X12_keep_90 rfl rfl rfl rfl ?_
  refine me1 (pc' := 92) dm_X12_keep_91 rfl rfl rfl rfl ?_
  refine me0 (pc' := 93) (S' := .int (232 : Int32) :: _) dm_X12_keep_92 rfl rfl rfl rfl ?_
  refine me1 (pc' := 94) dm_X12_keep_93 rfl rfl rfl rfl ?_
  refine me3 (pc' := 97) dm_X12_keep_94 (g_get (v := .ref 111) (lu (n := 102) (j := 0) hn rfl) rfl rfl (Nat.le_of_ble_eq_true rfl)) rfl rfl rfl ?_
  refine me1 (pc' := 98) dm_X12_keep_97 rfl rfl rfl rfl ?_
  refine me3 (pc' := 99) dm_X12_keep_98 (g_lald (v := (0 : Int64)) (lu (n := 102) (j := 9) hn rfl) rfl (by decide) rfl (Nat.le_of_ble_eq_true rfl)) rfl rfl rfl ?_
  refine me3 (pc' := 100) dm_X12_keep_99 (u_last (n := 102) (j := 12) hn rfl rfl (by decide) rfl (Nat.le_of_ble_eq_true rfl)) rfl rfl rfl ?_
  refine me1 (pc' := 101) dm_X12_keep_100 rfl rfl rfl rfl ?_
  refine me3 (pc' := 104) dm_X12_keep_101 (g_get (v := .ref 115) (lu (n := 102) (j := 0) hn rfl) rfl rfl (Nat.le_of_ble_eq_true rfl)) rfl rfl rfl ?_
  refine me0 (pc' := 106) (S' := .int (80 : Int32) :: _) dm_X12_keep_104 rfl rfl rfl rfl ?_
  refine me1 (pc' := 107) dm_X12_keep_106 rfl rfl rfl rfl ?_
  refine me0 (pc' := 108) (S' := .int (160 : Int32) :: _) dm_X12_keep_107 rfl rfl rfl rfl ?_
  refine me0 (pc' := 110) (S' := .int (40 : Int32) :: _) dm_X12_keep_108 rfl rfl rfl rfl ?_
  refine me0 (pc' := 111) (S' := .int (200 : Int32) :: _) dm_X12_keep_110 rfl rfl rfl rfl ?_
  refine me1 (pc' := 112) dm_X12_keep_111 rfl rfl rfl rfl ?_
  refine me0 (pc' := 113) (S' := .int (232 : Int32) :: _) dm_X12_keep_112 rfl rfl rfl rfl ?_
  refine me1 (pc' := 114) dm_X12_keep_113 rfl rfl rfl rfl ?_
  refine me3 (pc' := 117) dm_X12_keep_114 (g_get (v := .ref 113) (lu (n := 102) (j := 0) hn rfl) rfl rfl (Nat.le_of_ble_eq_true rfl)) rfl rfl rfl ?_
  refine me1 (pc' := 118) dm_X12_keep_117 rfl rfl rfl rfl ?_
  refine me3 (pc' := 119) dm_X12_keep_118 (g_iald (v := (0 : Int32)) (lu (n := 102) (j := 11) hn rfl) rfl (by decide) rfl (Nat.le_of_ble_eq_true rfl)) rfl rfl rfl ?_
  refine me3 (pc' := 120) dm_X12_keep_119 (u_iast (n := 102) (j := 13) hn rfl rfl (by decide) rfl (Nat.le_of_ble_eq_true rfl)) rfl rfl rfl ?_
  refine me1 (pc' := 123) (L' := [(2, .int (33 : Int32)), (0, .ref 102), (1, .int (2 : Int32))]) dm_X12_keep_120 rfl rfl rfl rfl ?_
  refine me2 (pc' := 40) dm_X12_keep_123 rfl rfl rfl ?_
  refine me1 (pc' := 41) dm_X12_keep_40 rfl rfl rfl rfl ?_
  refine me0 (pc' := 43) (S' := .int (40 : Int32) :: _) dm_X12_keep_41 rfl rfl rfl rfl ?_
  refine me_2f (pc' := 46) dm_X12_keep_43 rfl (by decide) rfl ?_
  refine me1 (pc' := 47) dm_X12_keep_46 rfl rfl rfl rfl ?_
  refine me3 (pc' := 50) dm_X12_keep_47 (g_get (v := .ref 114) (lu (n := 102) (j := 0) hn rfl) rfl rfl (Nat.le_of_ble_eq_true rfl)) rfl rfl rfl ?_
  refine me0 (pc' := 52) (S' := .int (80 : Int32) :: _) dm_X12_keep_50 rfl rfl rfl rfl ?_
  refine me1 (pc' := 53) dm_X12_keep_52 rfl rfl rfl rfl ?_
  refine me0 (pc' := 54) (S' := .int (160 : Int32) :: _) dm_X12_keep_53 rfl rfl rfl rfl ?_
  refine me1 (pc' := 55) dm_X12_keep_54 rfl rfl rfl rfl ?_
  refine me0 (pc' := 56) (S' := .int (193 : Int32) :: _) dm_X12_keep_55 rfl rfl rfl rfl ?_
  refine me1 (pc' := 57) dm_X12_keep_56 rfl rfl rfl rfl ?_
  refine me3 (pc' := 60) dm_X12_keep_57 (g_get (v := .ref 110) (lu (n := 102) (j := 0) hn rfl) rfl rfl (Nat.le_of_ble_eq_true rfl)) rfl rfl rfl ?_
  refine me1 (pc' := 61) dm_X12_keep_60 rfl rfl rfl rfl ?_
  refine me3 (pc' := 62) dm_X12_keep_61 (g_lald (v := (0 : Int64)) (lu (n := 102) (j := 8) hn rfl) rfl (by decide) rfl (Nat.le_of_ble_eq_true rfl)) rfl rfl rfl ?_
  refine me3 (pc' := 63) dm_X12_keep_62 (u_last (n := 102) (j := 12) hn rfl rfl (by decide) rfl (Nat.le_of_ble_eq_true rfl)) rfl rfl rfl ?_
  refine me1 (pc' := 64) dm_X12_keep_63 rfl rfl rfl rfl ?_
  refine me3 (pc' := 67) dm_X12_keep_64 (g_get (v := .ref 115) (lu (n := 102) (j := 0) hn rfl) rfl rfl (Nat.le_of_ble_eq_true rfl)) rfl rfl rfl ?_
  refine me0 (pc' := 69) (S' := .int (80 : Int32) :: _) dm_X12_keep_67 rfl rfl rfl rfl ?_
  refine me1 (pc' := 70) dm_X12_keep_69 rfl rfl rfl rfl ?_
  refine me0 (pc' := 71) (S' := .int (160 : Int32) :: _) dm_X12_keep_70 rfl rfl rfl rfl ?_
  refine me1 (pc' := 72) dm_X12_keep_71 rfl rfl rfl rfl ?_
  refine me0 (pc' := 73) (S' := .int (193 : Int32) :: _) dm_X12_keep_72 rfl rfl rfl rfl ?_
  refine me1 (pc' := 74) dm_X12_keep_73 rfl rfl rfl rfl ?_
  refine me3 (pc' := 77) dm_X12_keep_74 (g_get (v := .ref 112) (lu (n := 102) (j := 0) hn rfl) rfl rfl (Nat.le_of_ble_eq_true rfl)) rfl rfl rfl ?_
  refine me1 (pc' := 78) dm_X12_keep_77 rfl rfl rfl rfl ?_
  refine me3 (pc' := 79) dm_X12_keep_78 (g_iald (v := (0 : Int32)) (lu (n := 102) (j := 10) hn rfl) rfl (by decide) rfl (Nat.le_of_ble_eq_true rfl)) rfl rfl rfl ?_
  refine me3 (pc' := 80) dm_X12_keep_79 (u_iast (n := 102) (j := 13) hn rfl rfl (by decide) rfl (Nat.le_of_ble_eq_true rfl)) rfl rfl rfl ?_
  refine me1 (pc' := 81) dm_X12_keep_80 rfl rfl rfl rfl ?_
  refine me3 (pc' := 84) dm_X12_keep_81 (g_get (v := .ref 114) (lu (n := 102) (j := 0) hn rfl) rfl rfl (Nat.le_of_ble_eq_true rfl)) rfl rfl rfl ?_
  refine me0 (pc' := 86) (S' := .int (80 : Int32) :: _) dm_X12_keep_84 rfl rfl rfl rfl ?_
  refine me1 (pc' := 87) dm_X12_keep_86 rfl rfl rfl rfl ?_
  refine me0 (pc' := 88) (S' := .int (160 : Int32) :: _) dm_X12_keep_87 rfl rfl rfl rfl ?_
  refine me0 (pc' := 90) (S' := .int (40 : Int32) :: _) dm_X12_keep_88 rfl rfl rfl rfl ?_
  refine me0 (pc' := 91) (S' := .int (200 : Int32) :: _) dm_X12_keep_90 rfl rfl rfl rfl ?_
  refine me1 (pc' := 92) dm_X12_keep_91 rfl rfl rfl rfl ?_
  refine me0 (pc' := 93) (S' := .int (233 : Int32) :: _) dm_X12_keep_92 rfl rfl rfl rfl ?_
  refine me1 (pc' := 94) dm_X12_keep_93 rfl rfl rfl rfl ?_
  refine me3 (pc' := 97) dm_X12_keep_94 (g_get (v := .ref 111) (lu (n := 102) (j := 0) hn rfl) rfl rfl (Nat.le_of_ble_eq_true rfl)) rfl rfl rfl ?_
  refine me1 (pc' := 98) dm_X12_keep_97 rfl rfl rfl rfl ?_
  refine me3 (pc' := 99) dm_X12_keep_98 (g_lald (v := (0 : Int64)) (lu (n := 102) (j := 9) hn rfl) rfl (by decide) rfl (Nat.le_of_ble_eq_true rfl)) rfl rfl rfl ?_
  refine me3 (pc' := 100) dm_X12_keep_99 (u_last (n := 102) (j := 12) hn rfl rfl (by decide) rfl (Nat.le_of_ble_eq_true rfl)) rfl rfl rfl ?_
  refine me1 (pc' := 101) dm_X12_keep_100 rfl rfl rfl rfl ?_
  refine me3 (pc' := 104) dm_X12_keep_101 (g_get (v := .ref 115) (lu (n := 102) (j := 0) hn rfl) rfl rfl (Nat.le_of_ble_eq_true rfl)) rfl rfl rfl ?_
  refine me0 (pc' := 106) (S' := .int (80 : Int32) :: _) dm_X12_keep_104 rfl rfl rfl rfl ?_
  refine me1 (pc' := 107) dm_X12_keep_106 rfl rfl rfl rfl ?_
  refine me0 (pc' := 108) (S' := .int (160 : Int32) :: _) dm_X12_keep_107 rfl rfl rfl rfl ?_
  refine me0 (pc' := 110) (S' := .int (40 : Int32) :: _) dm_X12_keep_108 rfl rfl rfl rfl ?_
  refine me0 (pc' := 111) (S' := .int (200 : Int32) :: _) dm_X12_keep_110 rfl rfl rfl rfl ?_
  refine me1 (pc' := 112) dm_X12_keep_111 rfl rfl rfl rfl ?_
  refine me0 (pc' := 113) (S' := .int (233 : Int32) :: _) dm_X12_keep_112 rfl rfl rfl rfl ?_
  refine me1 (pc' := 114) dm_X12_keep_113 rfl rfl rfl rfl ?_
  refine me3 (pc' := 117) dm_X12_keep_114 (g_get (v := .ref 113) (lu (n := 102) (j := 0) hn rfl) rfl rfl (Nat.le_of_ble_eq_true rfl)) rfl rfl rfl ?_
  refine me1 (pc' := 118) dm_X12_keep_117 rfl rfl rfl rfl ?_
  refine me3 (pc' := 119) dm_X12_keep_118 (g_iald (v := (0 : Int32)) (lu (n := 102) (j := 11) hn rfl) rfl (by decide) rfl (Nat.le_of_ble_eq_true rfl)) rfl rfl rfl ?_
  refine me3 (pc' := 120) dm_X12_keep_119 (u_iast (n := 102) (j := 13) hn rfl rfl (by decide) rfl (Nat.le_of_ble_eq_true rfl)) rfl rfl rfl ?_
  refine me1 (pc' := 123) (L' := [(2, .int (34 : Int32)), (0, .ref 102), (1, .int (2 : Int32))]) dm_X12_keep_120 rfl rfl rfl rfl ?_
  refine me2 (pc' := 40) dm_X12_keep_123 rfl rfl rfl ?_
  refine me1 (pc' := 41) dm_X12_keep_40 rfl rfl rfl rfl ?_
  refine me0 (pc' := 43) (S' := .int (40 : Int32) :: _) dm_X12_keep_41 rfl rfl rfl rfl ?_
  refine me_2f (pc' := 46) dm_X12_keep_43 rfl (by decide) rfl ?_
  refine me1 (pc' := 47) dm_X12_keep_46 rfl rfl rfl rfl ?_
  refine me3 (pc' := 50) dm_X12_keep_47 (g_get (v := .ref 114) (lu (n := 102) (j := 0) hn rfl) rfl rfl (Nat.le_of_ble_eq_true rfl)) rfl rfl rfl ?_
  refine me0 (pc' := 52) (S' := .int (80 : Int32) :: _) dm_X12_keep_50 rfl rfl rfl rfl ?_
  refine me1 (pc' := 53) dm_X12_keep_52 rfl rfl rfl rfl ?_
  refine me0 (pc' := 54) (S' := .int (160 : Int32) :: _) dm_X12_keep_53 rfl rfl rfl rfl ?_
  refine me1 (pc' := 55) dm_X12_keep_54 rfl rfl rfl rfl ?_
  refine me0 (pc' := 56) (S' := .int (194 : Int32) :: _) dm_X12_keep_55 rfl rfl rfl rfl ?_
  refine me1 (pc' := 57) dm_X12_keep_56 rfl rfl rfl rfl ?_
  refine me3 (pc' := 60) dm_X12_keep_57 (g_get (v := .ref 110) (lu (n := 102) (j := 0) hn rfl) rfl rfl (Nat.le_of_ble_eq_true rfl)) rfl rfl rfl ?_
  refine me1 (pc' := 61) dm_X12_keep_60 rfl rfl rfl rfl ?_
  refine me3 (pc' := 62) dm_X12_keep_61 (g_lald (v := (0 : Int64)) (lu (n := 102) (j := 8) hn rfl) rfl (by decide) rfl (Nat.le_of_ble_eq_true rfl)) rfl rfl rfl ?_
  refine me3 (pc' := 63) dm_X12_keep_62 (u_last (n := 102) (j := 12) hn rfl rfl (by decide) rfl (Nat.le_of_ble_eq_true rfl)) rfl rfl rfl ?_
  refine me1 (pc' := 64) dm_X12_keep_63 rfl rfl rfl rfl ?_
  refine me3 (pc' := 67) dm_X12_keep_64 (g_get (v := .ref 115) (lu (n := 102) (j := 0) hn rfl) rfl rfl (Nat.le_of_ble_eq_true rfl)) rfl rfl rfl ?_
  refine me0 (pc' := 69) (S' := .int (80 : Int32) :: _) dm_X12_keep_67 rfl rfl rfl rfl ?_
  refine me1 (pc' := 70) dm_X12_keep_69 rfl rfl rfl rfl ?_
  refine me0 (pc' := 71) (S' := .int (160 : Int32) :: _) dm_X12_keep_70 rfl rfl rfl rfl ?_
  refine me1 (pc' := 72) dm_X12_keep_71 rfl rfl rfl rfl ?_
  refine me0 (pc' := 73) (S' := .int (194 : Int32) :: _) dm_X12_keep_72 rfl rfl rfl rfl ?_
  refine me1 (pc' := 74) dm_X12_keep_73 rfl rfl rfl rfl ?_
  refine me3 (pc' := 77) dm_X12_keep_74 (g_get (v := .ref 112) (lu (n := 102) (j := 0) hn rfl) rfl rfl (Nat.le_of_ble_eq_true rfl)) rfl rfl rfl ?_
  refine me1 (pc' := 78) dm_X12_keep_77 rfl rfl rfl rfl ?_
  refine me3 (pc' := 79) dm_X12_keep_78 (g_iald (v := (0 : Int32)) (lu (n := 102) (j := 10) hn rfl) rfl (by decide) rfl (Nat.le_of_ble_eq_true rfl)) rfl rfl rfl ?_
  refine me3 (pc' := 80) dm_X12_keep_79 (u_iast (n := 102) (j := 13) hn rfl rfl (by decide) rfl (Nat.le_of_ble_eq_true rfl)) rfl rfl rfl ?_
  refine me1 (pc' := 81) dm_X12_keep_80 rfl rfl rfl rfl ?_
  refine me3 (pc' := 84) dm_X12_keep_81 (g_get (v := .ref 114) (lu (n := 102) (j := 0) hn rfl) rfl rfl (Nat.le_of_ble_eq_true rfl)) rfl rfl rfl ?_
  refine me0 (pc' := 86) (S' := .int (80 : Int32) :: _) dm_X12_keep_84 rfl rfl rfl rfl ?_
  refine me1 (pc' := 87) dm_X12_keep_86 rfl rfl rfl rfl ?_
  refine me0 (pc' := 88) (S' := .int (160 : Int32) :: _) dm_X12_keep_87 rfl rfl rfl rfl ?_
  refine me0 (pc' := 90) (S' := .int (40 : Int32) :: _) dm_X12_keep_88 rfl rfl rfl rfl ?_
  refine me0 (pc' := 91) (S' := .int (200 : Int32) :: _) dm_X12_keep_90 rfl rfl rfl rfl ?_
  refine me1 (pc' := 92) dm_X12_keep_91 rfl rfl rfl rfl ?_
  refine me0 (pc' := 93) (S' := .int (234 : Int32) :: _) dm_X12_keep_92 rfl rfl rfl rfl ?_
  refine me1 (pc' := 94) dm_X12_keep_93 rfl rfl rfl rfl ?_
  refine me3 (pc' := 97) dm_X12_keep_94 (g_get (v := .ref 111) (lu (n := 102) (j := 0) hn rfl) rfl rfl (Nat.le_of_ble_eq_true rfl)) rfl rfl rfl ?_
  refine me1 (pc' := 98) dm_X12_keep_97 rfl rfl rfl rfl ?_
  refine me3 (pc' := 99) dm_X12_keep_98 (g_lald (v := (0 : Int64)) (lu (n := 102) (j := 9) hn rfl) rfl (by decide) rfl (Nat.le_of_ble_eq_true rfl)) rfl rfl rfl ?_
  refine me3 (pc' := 100) dm_X12_keep_99 (u_last (n := 102) (j := 12) hn rfl rfl (by decide) rfl (Nat.le_of_ble_eq_true rfl)) rfl rfl rfl ?_
  refine me1 (pc' := 101) dm_X12_keep_100 rfl rfl rfl rfl ?_
  refine me3 (pc' := 104) dm_X12_keep_101 (g_get (v := .ref 115) (lu (n := 102) (j := 0) hn rfl) rfl rfl (Nat.le_of_ble_eq_true rfl)) rfl rfl rfl ?_
  refine me0 (pc' := 106) (S' := .int (80 : Int32) :: _) dm_X12_keep_104 rfl rfl rfl rfl ?_
  refine me1 (pc' := 107) dm_X12_keep_106 rfl rfl rfl rfl ?_
  refine me0 (pc' := 108) (S' := .int (160 : Int32) :: _) dm_X12_keep_107 rfl rfl rfl rfl ?_
  refine me0 (pc' := 110) (S' := .int (40 : Int32) :: _) dm_X12_keep_108 rfl rfl rfl rfl ?_
  refine me0 (pc' := 111) (S' := .int (200 : Int32) :: _) dm_X12_keep_110 rfl rfl rfl rfl ?_
  refine me1 (pc' := 112) dm_X12_keep_111 rfl rfl rfl rfl ?_
  refine me0 (pc' := 113) (S' := .int (234 : Int32) :: _) dm_X12_keep_112 rfl rfl rfl rfl ?_
  refine me1 (pc' := 114) dm_X12_keep_113 rfl rfl rfl rfl ?_
  refine me3 (pc' := 117) dm_X12_keep_114 (g_get (v := .ref 113) (lu (n := 102) (j := 0) hn rfl) rfl rfl (Nat.le_of_ble_eq_true rfl)) rfl rfl rfl ?_
  refine me1 (pc' := 118) dm_X12_keep_117 rfl rfl rfl rfl ?_
  refine me3 (pc' := 119) dm_X12_keep_118 (g_iald (v := (0 : Int32)) (lu (n := 102) (j := 11) hn rfl) rfl (by decide) rfl (Nat.le_of_ble_eq_true rfl)) rfl rfl rfl ?_
  refine me3 (pc' := 120) dm_X12_keep_119 (u_iast (n := 102) (j := 13) hn rfl rfl (by decide) rfl (Nat.le_of_ble_eq_true rfl)) rfl rfl rfl ?_
  refine me1 (pc' := 123) (L' := [(2, .int (35 : Int32)), (0, .ref 102), (1, .int (2 : Int32))]) dm_X12_keep_120 rfl rfl rfl rfl ?_
  refine me2 (pc' := 40) dm_X12_keep_123 rfl rfl rfl ?_
  refine me1 (pc' := 41) dm_X12_keep_40 rfl rfl rfl rfl ?_
  refine me0 (pc' := 43) (S' := .int (40 : Int32) :: _) dm_X12_keep_41 rfl rfl rfl rfl ?_
  refine me_2f (pc' := 46) dm_X12_keep_43 rfl (by decide) rfl ?_
  refine me1 (pc' := 47) dm_X12_keep_46 rfl rfl rfl rfl ?_
  refine me3 (pc' := 50) dm_X12_keep_47 (g_get (v := .ref 114) (lu (n := 102) (j := 0) hn rfl) rfl rfl (Nat.le_of_ble_eq_true rfl)) rfl rfl rfl ?_
  refine me0 (pc' := 52) (S' := .int (80 : Int32) :: _) dm_X12_keep_50 rfl rfl rfl rfl ?_
  refine me1 (pc' := 53) dm_X12_keep_52 rfl rfl rfl rfl ?_
  refine me0 (pc' := 54) (S' := .int (160 : Int32) :: _) dm_X12_keep_53 rfl rfl rfl rfl ?_
  refine me1 (pc' := 55) dm_X12_keep_54 rfl rfl rfl rfl ?_
  refine me0 (pc' := 56) (S' := .int (195 : Int32) :: _) dm_X12_keep_55 rfl rfl rfl rfl ?_
  refine me1 (pc' := 57) dm_X12_keep_56 rfl rfl rfl rfl ?_
  refine me3 (pc' := 60) dm_X12_keep_57 (g_get (v := .ref 110) (lu (n := 102) (j := 0) hn rfl) rfl rfl (Nat.le_of_ble_eq_true rfl)) rfl rfl rfl ?_
  refine me1 (pc' := 61) dm_X12_keep_60 rfl rfl rfl rfl ?_
  refine me3 (pc' := 62) dm_X12_keep_61 (g_lald (v := (0 : Int64)) (lu (n := 102) (j := 8) hn rfl) rfl (by decide) rfl (Nat.le_of_ble_eq_true rfl)) rfl rfl rfl ?_
  refine me3 (pc' := 63) dm_X12_keep_62 (u_last (n := 102) (j := 12) hn rfl rfl (by decide) rfl (Nat.le_of_ble_eq_true rfl)) rfl rfl rfl ?_
  refine me1 (pc' := 64) dm_X12_keep_63 rfl rfl rfl rfl ?_
  refine me3 (pc' := 67) dm_X12_keep_64 (g_get (v := .ref 115) (lu (n := 102) (j := 0) hn rfl) rfl rfl (Nat.le_of_ble_eq_true rfl)) rfl rfl rfl ?_
  refine me0 (pc' := 69) (S' := .int (80 : Int32) :: _) dm_X12_keep_67 rfl rfl rfl rfl ?_
  refine me1 (pc' := 70) dm_X12_keep_69 rfl rfl rfl rfl ?_
  refine me0 (pc' := 71) (S' := .int (160 : Int32) :: _) dm_X12_keep_70 rfl rfl rfl rfl ?_
  refine me1 (pc' := 72) dm_X12_keep_71 rfl rfl rfl rfl ?_
  refine me0 (pc' := 73) (S' := .int (195 : Int32) :: _) dm_X12_keep_72 rfl rfl rfl rfl ?_
  refine me1 (pc' := 74) dm_X12_keep_73 rfl rfl rfl rfl ?_
  refine me3 (pc' := 77) dm_X12_keep_74 (g_get (v := .ref 112) (lu (n := 102) (j := 0) hn rfl) rfl rfl (Nat.le_of_ble_eq_true rfl)) rfl rfl rfl ?_
  refine me1 (pc' := 78) dm_X12_keep_77 rfl rfl rfl rfl ?_
  refine me3 (pc' := 79) dm_X12_keep_78 (g_iald (v := (0 : Int32)) (lu (n := 102) (j := 10) hn rfl) rfl (by decide) rfl (Nat.le_of_ble_eq_true rfl)) rfl rfl rfl ?_
  refine me3 (pc' := 80) dm_X12_keep_79 (u_iast (n := 102) (j := 13) hn rfl rfl (by decide) rfl (Nat.le_of_ble_eq_true rfl)) rfl rfl rfl ?_
  refine me1 (pc' := 81) dm_X12_keep_80 rfl rfl rfl rfl ?_
  refine me3 (pc' := 84) dm_X12_keep_81 (g_get (v := .ref 114) (lu (n := 102) (j := 0) hn rfl) rfl rfl (Nat.le_of_ble_eq_true rfl)) rfl rfl rfl ?_
  refine me0 (pc' := 86) (S' := .int (80 : Int32) :: _) dm_X12_keep_84 rfl rfl rfl rfl ?_
  refine me1 (pc' := 87) dm_X12_keep_86 rfl rfl rfl rfl ?_
  refine me0 (pc' := 88) (S' := .int (160 : Int32) :: _) dm_X12_keep_87 rfl rfl rfl rfl ?_
  refine me0 (pc' := 90) (S' := .int (40 : Int32) :: _) dm_X12_keep_88 rfl rfl rfl rfl ?_
  refine me0 (pc' := 91) (S' := .int (200 : Int32) :: _) dm_X12_keep_90 rfl rfl rfl rfl ?_
  refine me1 (pc' := 92) dm_X12_keep_91 rfl rfl rfl rfl ?_
  refine me0 (pc' := 93) (S' := .int (235 : Int32) :: _) dm_X12_keep_92 rfl rfl rfl rfl ?_
  refine me1 (pc' := 94) dm_X12_keep_93 rfl rfl rfl rfl ?_
  refine me3 (pc' := 97) dm_X12_keep_94 (g_get (v := .ref 111) (lu (n := 102) (j := 0) hn rfl) rfl rfl (Nat.le_of_ble_eq_true rfl)) rfl rfl rfl ?_
  refine me1 (pc' := 98) dm_X12_keep_97 rfl rfl rfl rfl ?_
  refine me3 (pc' := 99) dm_X12_keep_98 (g_lald (v := (0 : Int64)) (lu (n := 102) (j := 9) hn rfl) rfl (by decide) rfl (Nat.le_of_ble_eq_true rfl)) rfl rfl rfl ?_
  refine me3 (pc' := 100) dm_X12_keep_99 (u_last (n := 102) (j := 12) hn rfl rfl (by decide) rfl (Nat.le_of_ble_eq_true rfl)) rfl rfl rfl ?_
  refine me1 (pc' := 101) dm_X12_keep_100 rfl rfl rfl rfl ?_
  refine me3 (pc' := 104) dm_X12_keep_101 (g_get (v := .ref 115) (lu (n := 102) (j := 0) hn rfl) rfl rfl (Nat.le_of_ble_eq_true rfl)) rfl rfl rfl ?_
  refine me0 (pc' := 106) (S' := .int (80 : Int32) :: _) dm_X12_keep_104 rfl rfl rfl rfl ?_
  refine me1 (pc' := 107) dm_X12_keep_106 rfl rfl rfl rfl ?_
  refine me0 (pc' := 108) (S' := .int (160 : Int32) :: _) dm_X12_keep_107 rfl rfl rfl rfl ?_
  refine me0 (pc' := 110) (S' := .int (40 : Int32) :: _) dm_X12_keep_108 rfl rfl rfl rfl ?_
  refine me0 (pc' := 111) (S' := .int (200 : Int32) :: _) dm_X12_keep_110 rfl rfl rfl rfl ?_
  refine me1 (pc' := 112) dm_X12_keep_111 rfl rfl rfl rfl ?_
  refine me0 (pc' := 113) (S' := .int (235 : Int32) :: _) dm_X12_keep_112 rfl rfl rfl rfl ?_
  refine me1 (pc' := 114) dm_X12_keep_113 rfl rfl rfl rfl ?_
  refine me3 (pc' := 117) dm_X12_keep_114 (g_get (v := .ref 113) (lu (n := 102) (j := 0) hn rfl) rfl rfl (Nat.le_of_ble_eq_true rfl)) rfl rfl rfl ?_
  refine me1 (pc' := 118) dm_X12_keep_117 rfl rfl rfl rfl ?_
  refine me3 (pc' := 119) dm_X12_keep_118 (g_iald (v := (0 : Int32)) (lu (n := 102) (j := 11) hn rfl) rfl (by decide) rfl (Nat.le_of_ble_eq_true rfl)) rfl rfl rfl ?_
  refine me3 (pc' := 120) dm_X12_keep_119 (u_iast (n := 102) (j := 13) hn rfl rfl (by decide) rfl (Nat.le_of_ble_eq_true rfl)) rfl rfl rfl ?_
  refine me1 (pc' := 123) (L' := [(2, .int (36 : Int32)), (0, .ref 102), (1, .int (2 : Int32))]) dm_X12_keep_120 rfl rfl rfl rfl ?_
  refine me2 (pc' := 40) dm_X12_keep_123 rfl rfl rfl ?_
  refine me1 (pc' := 41) dm_X12_keep_40 rfl rfl rfl rfl ?_
  refine me0 (pc' := 43) (S' := .int (40 : Int32) :: _) dm_X12_keep_41 rfl rfl rfl rfl ?_
  refine me_2f (pc' := 46) dm_X12_keep_43 rfl (by decide) rfl ?_
  refine me1 (pc' := 47) dm_X12_keep_46 rfl rfl rfl rfl ?_
  refine me3 (pc' := 50) dm_X12_keep_47 (g_get (v := .ref 114) (lu (n := 102) (j := 0) hn rfl) rfl rfl (Nat.le_of_ble_eq_true rfl)) rfl rfl rfl ?_
  refine me0 (pc' := 52) (S' := .int (80 : Int32) :: _) dm_X12_keep_50 rfl rfl rfl rfl ?_
  refine me1 (pc' := 53) dm_X12_keep_52 rfl rfl rfl rfl ?_
  refine me0 (pc' := 54) (S' := .int (160 : Int32) :: _) dm_X12_keep_53 rfl rfl rfl rfl ?_
  refine me1 (pc' := 55) dm_X12_keep_54 rfl rfl rfl rfl ?_
  refine me0 (pc' := 56) (S' := .int (196 : Int32) :: _) dm_X12_keep_55 rfl rfl rfl rfl ?_
  refine me1 (pc' := 57) dm_X12_keep_56 rfl rfl rfl rfl ?_
  refine me3 (pc' := 60) dm_X12_keep_57 (g_get (v := .ref 110) (lu (n := 102) (j := 0) hn rfl) rfl rfl (Nat.le_of_ble_eq_true rfl)) rfl rfl rfl ?_
  refine me1 (pc' := 61) dm_X12_keep_60 rfl rfl rfl rfl ?_
  refine me3 (pc' := 62) dm_X12_keep_61 (g_lald (v := (0 : Int64)) (lu (n := 102) (j := 8) hn rfl) rfl (by decide) rfl (Nat.le_of_ble_eq_true rfl)) rfl rfl rfl ?_
  refine me3 (pc' := 63) dm_X12_keep_62 (u_last (n := 102) (j := 12) hn rfl rfl (by decide) rfl (Nat.le_of_ble_eq_true rfl)) rfl rfl rfl ?_
  refine me1 (pc' := 64) dm_X12_keep_63 rfl rfl rfl rfl ?_
  refine me3 (pc' := 67) dm_X12_keep_64 (g_get (v := .ref 115) (lu (n := 102) (j := 0) hn rfl) rfl rfl (Nat.le_of_ble_eq_true rfl)) rfl rfl rfl ?_
  refine me0 (pc' := 69) (S' := .int (80 : Int32) :: _) dm_X12_keep_67 rfl rfl rfl rfl ?_
  refine me1 (pc' := 70) dm_X12_keep_69 rfl rfl rfl rfl ?_
  refine me0 (pc' := 71) (S' := .int (160 : Int32) :: _) dm_X12_keep_70 rfl rfl rfl rfl ?_
  refine me1 (pc' := 72) dm_X12_keep_71 rfl rfl rfl rfl ?_
  refine me0 (pc' := 73) (S' := .int (196 : Int32) :: _) dm_X12_keep_72 rfl rfl rfl rfl ?_
  refine me1 (pc' := 74) dm_X12_keep_73 rfl rfl rfl rfl ?_
  refine me3 (pc' := 77) dm_X12_keep_74 (g_get (v := .ref 112) (lu (n := 102) (j := 0) hn rfl) rfl rfl (Nat.le_of_ble_eq_true rfl)) rfl rfl rfl ?_
  refine me1 (pc' := 78) dm_X12_keep_77 rfl rfl rfl rfl ?_
  refine me3 (pc' := 79) dm_X12_keep_78 (g_iald (v := (0 : Int32)) (lu (n := 102) (j := 10) hn rfl) rfl (by decide) rfl (Nat.le_of_ble_eq_true rfl)) rfl rfl rfl ?_
  refine me3 (pc' := 80) dm_X12_keep_79 (u_iast (n := 102) (j := 13) hn rfl rfl (by decide) rfl (Nat.le_of_ble_eq_true rfl)) rfl rfl rfl ?_
  refine me1 (pc' := 81) dm_X12_keep_80 rfl rfl rfl rfl ?_
  refine me3 (pc' := 84) dm_X12_keep_81 (g_get (v := .ref 114) (lu (n := 102) (j := 0) hn rfl) rfl rfl (Nat.le_of_ble_eq_true rfl)) rfl rfl rfl ?_
  refine me0 (pc' := 86) (S' := .int (80 : Int32) :: _) dm_X12_keep_84 rfl rfl rfl rfl ?_
  refine me1 (pc' := 87) dm_X12_keep_86 rfl rfl rfl rfl ?_
  refine me0 (pc' := 88) (S' := .int (160 : Int32) :: _) dm_X12_keep_87 rfl rfl rfl rfl ?_
  refine me0 (pc' := 90) (S' := .int (40 : Int32) :: _) dm_X12_keep_88 rfl rfl rfl rfl ?_
  refine me0 (pc' := 91) (S' := .int (200 : Int32) :: _) dm_X12_keep_90 rfl rfl rfl rfl ?_
  refine me1 (pc' := 92) dm_X12_keep_91 rfl rfl rfl rfl ?_
  refine me0 (pc' := 93) (S' := .int (236 : Int32) :: _) dm_X12_keep_92 rfl rfl rfl rfl ?_
  refine me1 (pc' := 94) dm_X12_keep_93 rfl rfl rfl rfl ?_
  refine me3 (pc' := 97) dm_X12_keep_94 (g_get (v := .ref 111) (lu (n := 102) (j := 0) hn rfl) rfl rfl (Nat.le_of_ble_eq_true rfl)) rfl rfl rfl ?_
  refine me1 (pc' := 98) dm_X12_keep_97 rfl rfl rfl rfl ?_
  refine me3 (pc' := 99) dm_X12_keep_98 (g_lald (v := (0 : Int64)) (lu (n := 102) (j := 9) hn rfl) rfl (by decide) rfl (Nat.le_of_ble_eq_true rfl)) rfl rfl rfl ?_
  refine me3 (pc' := 100) dm_X12_keep_99 (u_last (n := 102) (j := 12) hn rfl rfl (by decide) rfl (Nat.le_of_ble_eq_true rfl)) rfl rfl rfl ?_
  refine me1 (pc' := 101) dm_X12_keep_100 rfl rfl rfl rfl ?_
  refine me3 (pc' := 104) dm_X12_keep_101 (g_get (v := .ref 115) (lu (n := 102) (j := 0) hn rfl) rfl rfl (Nat.le_of_ble_eq_true rfl)) rfl rfl rfl ?_
  refine me0 (pc' := 106) (S' := .int (80 : Int32) :: _) dm_X12_keep_104 rfl rfl rfl rfl ?_
  refine me1 (pc' := 107) dm_X12_keep_106 rfl rfl rfl rfl ?_
  refine me0 (pc' := 108) (S' := .int (160 : Int32) :: _) dm_X12_keep_107 rfl rfl rfl rfl ?_
  refine me0 (pc' := 110) (S' := .int (40 : Int32) :: _) dm_X12_keep_108 rfl rfl rfl rfl ?_
  refine me0 (pc' := 111) (S' := .int (200 : Int32) :: _) dm_X12_keep_110 rfl rfl rfl rfl ?_
  refine me1 (pc' := 112) dm_X12_keep_111 rfl rfl rfl rfl ?_
  refine me0 (pc' := 113) (S' := .int (236 : Int32) :: _) dm_X12_keep_112 rfl rfl rfl rfl ?_
  refine me1 (pc' := 114) dm_X12_keep_113 rfl rfl rfl rfl ?_
  refine me3 (pc' := 117) dm_X12_keep_114 (g_get (v := .ref 113) (lu (n := 102) (j := 0) hn rfl) rfl rfl (Nat.le_of_ble_eq_true rfl)) rfl rfl rfl ?_
  refine me1 (pc' := 118) dm_X12_keep_117 rfl rfl rfl rfl ?_
  refine me3 (pc' := 119) dm_X12_keep_118 (g_iald (v := (0 : Int32)) (lu (n := 102) (j := 11) hn rfl) rfl (by decide) rfl (Nat.le_of_ble_eq_true rfl)) rfl rfl rfl ?_
  refine me3 (pc' := 120) dm_X12_keep_119 (u_iast (n := 102) (j := 13) hn rfl rfl (by decide) rfl (Nat.le_of_ble_eq_true rfl)) rfl rfl rfl ?_
  refine me1 (pc' := 123) (L' := [(2, .int (37 : Int32)), (0, .ref 102), (1, .int (2 : Int32))]) dm_X12_keep_120 rfl rfl rfl rfl ?_
  refine me2 (pc' := 40) dm_X12_keep_123 rfl rfl rfl ?_
  refine me1 (pc' := 41) dm_X12_keep_40 rfl rfl rfl rfl ?_
  refine me0 (pc' := 43) (S' := .int (40 : Int32) :: _) dm_X12_keep_41 rfl rfl rfl rfl ?_
  refine me_2f (pc' := 46) dm_X12_keep_43 rfl (by decide) rfl ?_
  refine me1 (pc' := 47) dm_X12_keep_46 rfl rfl rfl rfl ?_
  refine me3 (pc' := 50) dm_X12_keep_47 (g_get (v := .ref 114) (lu (n := 102) (j := 0) hn rfl) rfl rfl (Nat.le_of_ble_eq_true rfl)) rfl rfl rfl ?_
  refine me0 (pc' := 52) (S' := .int (80 : Int32) :: _) dm_X12_keep_50 rfl rfl rfl rfl ?_
  refine me1 (pc' := 53) dm_X12_keep_52 rfl rfl rfl rfl ?_
  refine me0 (pc' := 54) (S' := .int (160 : Int32) :: _) dm_X12_keep_53 rfl rfl rfl rfl ?_
  refine me1 (pc' := 55) dm_X12_keep_54 rfl rfl rfl rfl ?_
  refine me0 (pc' := 56) (S' := .int (197 : Int32) :: _) dm_X12_keep_55 rfl rfl rfl rfl ?_
  refine me1 (pc' := 57) dm_X12_keep_56 rfl rfl rfl rfl ?_
  refine me3 (pc' := 60) dm_X12_keep_57 (g_get (v := .ref 110) (lu (n := 102) (j := 0) hn rfl) rfl rfl (Nat.le_of_ble_eq_true rfl)) rfl rfl rfl ?_
  refine me1 (pc' := 61) dm_X12_keep_60 rfl rfl rfl rfl ?_
  refine me3 (pc' := 62) dm_X12_keep_61 (g_lald (v := (0 : Int64)) (lu (n := 102) (j := 8) hn rfl) rfl (by decide) rfl (Nat.le_of_ble_eq_true rfl)) rfl rfl rfl ?_
  refine me3 (pc' := 63) dm_X12_keep_62 (u_last (n := 102) (j := 12) hn rfl rfl (by decide) rfl (Nat.le_of_ble_eq_true rfl)) rfl rfl rfl ?_
  refine me1 (pc' := 64) dm_X12_keep_63 rfl rfl rfl rfl ?_
  refine me3 (pc' := 67) dm_X12_keep_64 (g_get (v := .ref 115) (lu (n := 102) (j := 0) hn rfl) rfl rfl (Nat.le_of_ble_eq_true rfl)) rfl rfl rfl ?_
  refine me0 (pc' := 69) (S' := .int (80 : Int32) :: _) dm_X12_keep_67 rfl rfl rfl rfl ?_
  refine me1 (pc' := 70) dm_X12_keep_69 rfl rfl rfl rfl ?_
  refine me0 (pc' := 71) (S' := .int (160 : Int32) :: _) dm_X12_keep_70 rfl rfl rfl rfl ?_
  refine me1 (pc' := 72) dm_X12_keep_71 rfl rfl rfl rfl ?_
  refine me0 (pc' := 73) (S' := .int (197 : Int32) :: _) dm_X12_keep_72 rfl rfl rfl rfl ?_
  refine me1 (pc' := 74) dm_X12_keep_73 rfl rfl rfl rfl ?_
  refine me3 (pc' := 77) dm_X12_keep_74 (g_get (v := .ref 112) (lu (n := 102) (j := 0) hn rfl) rfl rfl (Nat.le_of_ble_eq_true rfl)) rfl rfl rfl ?_
  refine me1 (pc' := 78) dm_X12_keep_77 rfl rfl rfl rfl ?_
  refine me3 (pc' := 79) dm_X12_keep_78 (g_iald (v := (0 : Int32)) (lu (n := 102) (j := 10) hn rfl) rfl (by decide) rfl (Nat.le_of_ble_eq_true rfl)) rfl rfl rfl ?_
  refine me3 (pc' := 80) dm_X12_keep_79 (u_iast (n := 102) (j := 13) hn rfl rfl (by decide) rfl (Nat.le_of_ble_eq_true rfl)) rfl rfl rfl ?_
  refine me1 (pc' := 81) dm_X12_keep_80 rfl rfl rfl rfl ?_
  refine me3 (pc' := 84) dm_X12_keep_81 (g_get (v := .ref 114) (lu (n := 102) (j := 0) hn rfl) rfl rfl (Nat.le_of_ble_eq_true rfl)) rfl rfl rfl ?_
  refine me0 (pc' := 86) (S' := .int (80 : Int32) :: _) dm_X12_keep_84 rfl rfl rfl rfl ?_
  refine me1 (pc' := 87) dm_X12_keep_86 rfl rfl rfl rfl ?_
  refine me0 (pc' := 88) (S' := .int (160 : Int32) :: _) dm_X12_keep_87 rfl rfl rfl rfl ?_
  refine me0 (pc' := 90) (S' := .int (40 : Int32) :: _) dm_X12_keep_88 rfl rfl rfl rfl ?_
  refine me0 (pc' := 91) (S' := .int (200 : Int32) :: _) dm_X12_keep_90 rfl rfl rfl rfl ?_
  refine me1 (pc' := 92) dm_X12_keep_91 rfl rfl rfl rfl ?_
  refine me0 (pc' := 93) (S' := .int (237 : Int32) :: _) dm_X12_keep_92 rfl rfl rfl rfl ?_
  refine me1 (pc' := 94) dm_X12_keep_93 rfl rfl rfl rfl ?_
  refine me3 (pc' := 97) dm_X12_keep_94 (g_get (v := .ref 111) (lu (n := 102) (j := 0) hn rfl) rfl rfl (Nat.le_of_ble_eq_true rfl)) rfl rfl rfl ?_
  refine me1 (pc' := 98) dm_X12_keep_97 rfl rfl rfl rfl ?_
  refine me3 (pc' := 99) dm_X12_keep_98 (g_lald (v := (0 : Int64)) (lu (n := 102) (j := 9) hn rfl) rfl (by decide) rfl (Nat.le_of_ble_eq_true rfl)) rfl rfl rfl ?_
  refine me3 (pc' := 100) dm_X12_keep_99 (u_last (n := 102) (j := 12) hn rfl rfl (by decide) rfl (Nat.le_of_ble_eq_true rfl)) rfl rfl rfl ?_
  refine me1 (pc' := 101) dm_X12_keep_100 rfl rfl rfl rfl ?_
  refine me3 (pc' := 104) dm_X12_keep_101 (g_get (v := .ref 115) (lu (n := 102) (j := 0) hn rfl) rfl rfl (Nat.le_of_ble_eq_true rfl)) rfl rfl rfl ?_
  refine me0 (pc' := 106) (S' := .int (80 : Int32) :: _) dm_X12_keep_104 rfl rfl rfl rfl ?_
  refine me1 (pc' := 107) dm_X12_keep_106 rfl rfl rfl rfl ?_
  refine me0 (pc' := 108) (S' := .int (160 : Int32) :: _) dm_X12_keep_107 rfl rfl rfl rfl ?_
  refine me0 (pc' := 110) (S' := .int (40 : Int32) :: _) dm_X12_keep_108 rfl rfl rfl rfl ?_
  refine me0 (pc' := 111) (S' := .int (200 : Int32) :: _) dm_X12_keep_110 rfl rfl rfl rfl ?_
  refine me1 (pc' := 112) dm_X12_keep_111 rfl rfl rfl rfl ?_
  refine me0 (pc' := 113) (S' := .int (237 : Int32) :: _) dm_X12_keep_112 rfl rfl rfl rfl ?_
  refine me1 (pc' := 114) dm_X12_keep_113 rfl rfl rfl rfl ?_
  refine me3 (pc' := 117) dm_X12_keep_114 (g_get (v := .ref 113) (lu (n := 102) (j := 0) hn rfl) rfl rfl (Nat.le_of_ble_eq_true rfl)) rfl rfl rfl ?_
  refine me1 (pc' := 118) dm_X12_keep_117 rfl rfl rfl rfl ?_
  refine me3 (pc' := 119) dm_X12_keep_118 (g_iald (v := (0 : Int32)) (lu (n := 102) (j := 11) hn rfl) rfl (by decide) rfl (Nat.le_of_ble_eq_true rfl)) rfl rfl rfl ?_
  refine me3 (pc' := 120) dm_X12_keep_119 (u_iast (n := 102) (j := 13) hn rfl rfl (by decide) rfl (Nat.le_of_ble_eq_true rfl)) rfl rfl rfl ?_
  refine me1 (pc' := 123) (L' := [(2, .int (38 : Int32)), (0, .ref 102), (1, .int (2 : Int32))]) dm_X12_keep_120 rfl rfl rfl rfl ?_
  refine me2 (pc' := 40) dm_X12_keep_123 rfl rfl rfl ?_
  refine me1 (pc' := 41) dm_X12_keep_40 rfl rfl rfl rfl ?_
  refine me0 (pc' := 43) (S' := .int (40 : Int32) :: _) dm_X12_keep_41 rfl rfl rfl rfl ?_
  refine me_2f (pc' := 46) dm_X12_keep_43 rfl (by decide) rfl ?_
  refine me1 (pc' := 47) dm_X12_keep_46 rfl rfl rfl rfl ?_
  refine me3 (pc' := 50) dm_X12_keep_47 (g_get (v := .ref 114) (lu (n := 102) (j := 0) hn rfl) rfl rfl (Nat.le_of_ble_eq_true rfl)) rfl rfl rfl ?_
  refine me0 (pc' := 52) (S' := .int (80 : Int32) :: _) dm_X12_keep_50 rfl rfl rfl rfl ?_
  refine me1 (pc' := 53) dm_X12_keep_52 rfl rfl rfl rfl ?_
  refine me0 (pc' := 54) (S' := .int (160 : Int32) :: _) dm_X12_keep_53 rfl rfl rfl rfl ?_
  refine me1 (pc' := 55) dm_X12_keep_54 rfl rfl rfl rfl ?_
  refine me0 (pc' := 56) (S' := .int (198 : Int32) :: _) dm_X12_keep_55 rfl rfl rfl rfl ?_
  refine me1 (pc' := 57) dm_X12_keep_56 rfl rfl rfl rfl ?_
  refine me3 (pc' := 60) dm_X12_keep_57 (g_get (v := .ref 110) (lu (n := 102) (j := 0) hn rfl) rfl rfl (Nat.le_of_ble_eq_true rfl)) rfl rfl rfl ?_
  refine me1 (pc' := 61) dm_X12_keep_60 rfl rfl rfl rfl ?_
  refine me3 (pc' := 62) dm_X12_keep_61 (g_lald (v := (0 : Int64)) (lu (n := 102) (j := 8) hn rfl) rfl (by decide) rfl (Nat.le_of_ble_eq_true rfl)) rfl rfl rfl ?_
  refine me3 (pc' := 63) dm_X12_keep_62 (u_last (n := 102) (j := 12) hn rfl rfl (by decide) rfl (Nat.le_of_ble_eq_true rfl)) rfl rfl rfl ?_
  refine me1 (pc' := 64) dm_X12_keep_63 rfl rfl rfl rfl ?_
  refine me3 (pc' := 67) dm_X12_keep_64 (g_get (v := .ref 115) (lu (n := 102) (j := 0) hn rfl) rfl rfl (Nat.le_of_ble_eq_true rfl)) rfl rfl rfl ?_
  refine me0 (pc' := 69) (S' := .int (80 : Int32) :: _) dm_X12_keep_67 rfl rfl rfl rfl ?_
  refine me1 (pc' := 70) dm_X12_keep_69 rfl rfl rfl rfl ?_
  refine me0 (pc' := 71) (S' := .int (160 : Int32) :: _) dm_X12_keep_70 rfl rfl rfl rfl ?_
  refine me1 (pc' := 72) dm_X12_keep_71 rfl rfl rfl rfl ?_
  refine me0 (pc' := 73) (S' := .int (198 : Int32) :: _) dm_X12_keep_72 rfl rfl rfl rfl ?_
  refine me1 (pc' := 74) dm_X12_keep_73 rfl rfl rfl rfl ?_
  refine me3 (pc' := 77) dm_X12_keep_74 (g_get (v := .ref 112) (lu (n := 102) (j := 0) hn rfl) rfl rfl (Nat.le_of_ble_eq_true rfl)) rfl rfl rfl ?_
  refine me1 (pc' := 78) dm_X12_keep_77 rfl rfl rfl rfl ?_
  refine me3 (pc' := 79) dm_X12_keep_78 (g_iald (v := (0 : Int32)) (lu (n := 102) (j := 10) hn rfl) rfl (by decide) rfl (Nat.le_of_ble_eq_true rfl)) rfl rfl rfl ?_
  refine me3 (pc' := 80) dm_X12_keep_79 (u_iast (n := 102) (j := 13) hn rfl rfl (by decide) rfl (Nat.le_of_ble_eq_true rfl)) rfl rfl rfl ?_
  refine me1 (pc' := 81) dm_X12_keep_80 rfl rfl rfl rfl ?_
  refine me3 (pc' := 84) dm_X12_keep_81 (g_get (v := .ref 114) (lu (n := 102) (j := 0) hn rfl) rfl rfl (Nat.le_of_ble_eq_true rfl)) rfl rfl rfl ?_
  refine me0 (pc' := 86) (S' := .int (80 : Int32) :: _) dm_X12_keep_84 rfl rfl rfl rfl ?_
  refine me1 (pc' := 87) dm_X12_keep_86 rfl rfl rfl rfl ?_
  refine me0 (pc' := 88) (S' := .int (160 : Int32) :: _) dm_X12_keep_87 rfl rfl rfl rfl ?_
  refine me0 (pc' := 90) (S' := .int (40 : Int32) :: _) dm_X12_keep_88 rfl rfl rfl rfl ?_
  refine me0 (pc' := 91) (S' := .int (200 : Int32) :: _) dm_X12_keep_90 rfl rfl rfl rfl ?_
  refine me1 (pc' := 92) dm_X12_keep_91 rfl rfl rfl rfl ?_
  refine me0 (pc' := 93) (S' := .int (238 : Int32) :: _) dm_X12_keep_92 rfl rfl rfl rfl ?_
  refine me1 (pc' := 94) dm_X12_keep_93 rfl rfl rfl rfl ?_
  refine me3 (pc' := 97) dm_X12_keep_94 (g_get (v := .ref 111) (lu (n := 102) (j := 0) hn rfl) rfl rfl (Nat.le_of_ble_eq_true rfl)) rfl rfl rfl ?_
  refine me1 (pc' := 98) dm_X12_keep_97 rfl rfl rfl rfl ?_
  refine me3 (pc' := 99) dm_X12_keep_98 (g_lald (v := (0 : Int64)) (lu (n := 102) (j := 9) hn rfl) rfl (by decide) rfl (Nat.le_of_ble_eq_true rfl)) rfl rfl rfl ?_
  refine me3 (pc' := 100) dm_X12_keep_99 (u_last (n := 102) (j := 12) hn rfl rfl (by decide) rfl (Nat.le_of_ble_eq_true rfl)) rfl rfl rfl ?_
  refine me1 (pc' := 101) dm_X12_keep_100 rfl rfl rfl rfl ?_
  refine me3 (pc' := 104) dm_X12_keep_101 (g_get (v := .ref 115) (lu (n := 102) (j := 0) hn rfl) rfl rfl (Nat.le_of_ble_eq_true rfl)) rfl rfl rfl ?_
  refine me0 (pc' := 106) (S' := .int (80 : Int32) :: _) dm_X12_keep_104 rfl rfl rfl rfl ?_
  refine me1 (pc' := 107) dm_X12_keep_106 rfl rfl rfl rfl ?_
  refine me0 (pc' := 108) (S' := .int (160 : Int32) :: _) dm_X12_keep_107 rfl rfl rfl rfl ?_
  refine me0 (pc' := 110) (S' := .int (40 : Int32) :: _) dm_X12_keep_108 rfl rfl rfl rfl ?_
  refine me0 (pc' := 111) (S' := .int (200 : Int32) :: _) dm_X12_keep_110 rfl rfl rfl rfl ?_
  refine me1 (pc' := 112) dm_X12_keep_111 rfl rfl rfl rfl ?_
  refine me0 (pc' := 113) (S' := .int (238 : Int32) :: _) dm_X12_keep_112 rfl rfl rfl rfl ?_
  refine me1 (pc' := 114) dm_X12_keep_113 rfl rfl rfl rfl ?_
  refine me3 (pc' := 117) dm_X12_keep_114 (g_get (v := .ref 113) (lu (n := 102) (j := 0) hn rfl) rfl rfl (Nat.le_of_ble_eq_true rfl)) rfl rfl rfl ?_
  refine me1 (pc' := 118) dm_X12_keep_117 rfl rfl rfl rfl ?_
  refine me3 (pc' := 119) dm_X12_keep_118 (g_iald (v := (0 : Int32)) (lu (n := 102) (j := 11) hn rfl) rfl (by decide) rfl (Nat.le_of_ble_eq_true rfl)) rfl rfl rfl ?_
  refine me3 (pc' := 120) dm_X12_keep_119 (u_iast (n := 102) (j := 13) hn rfl rfl (by decide) rfl (Nat.le_of_ble_eq_true rfl)) rfl rfl rfl ?_
  refine me1 (pc' := 123) (L' := [(2, .int (39 : Int32)), (0, .ref 102), (1, .int (2 : Int32))]) dm_X12_keep_120 rfl rfl rfl rfl ?_
  refine me2 (pc' := 40) dm_X12_keep_123 rfl rfl rfl ?_
  refine me1 (pc' := 41) dm_X12_keep_40 rfl rfl rfl rfl ?_
  refine me0 (pc' := 43) (S' := .int (40 : Int32) :: _) dm_X12_keep_41 rfl rfl rfl rfl ?_
  refine me_2f (pc' := 46) dm_X12_keep_43 rfl (by decide) rfl ?_
  refine me1 (pc' := 47) dm_X12_keep_46 rfl rfl rfl rfl ?_
  refine me3 (pc' := 50) dm_X12_keep_47 (g_get (v := .ref 114) (lu (n := 102) (j := 0) hn rfl) rfl rfl (Nat.le_of_ble_eq_true rfl)) rfl rfl rfl ?_
  refine me0 (pc' := 52) (S' := .int (80 : Int32) :: _) dm_X12_keep_50 rfl rfl rfl rfl ?_
  refine me1 (pc' := 53) dm_X12_keep_52 rfl rfl rfl rfl ?_
  refine me0 (pc' := 54) (S' := .int (160 : Int32) :: _) dm_X12_keep_53 rfl rfl rfl rfl ?_
  refine me1 (pc' := 55) dm_X12_keep_54 rfl rfl rfl rfl ?_
  refine me0 (pc' := 56) (S' := .int (199 : Int32) :: _) dm_X12_keep_55 rfl rfl rfl rfl ?_
  refine me1 (pc' := 57) dm_X12_keep_56 rfl rfl rfl rfl ?_
  refine me3 (pc' := 60) dm_X12_keep_57 (g_get (v := .ref 110) (lu (n := 102) (j := 0) hn rfl) rfl rfl (Nat.le_of_ble_eq_true rfl)) rfl rfl rfl ?_
  refine me1 (pc' := 61) dm_X12_keep_60 rfl rfl rfl rfl ?_
  refine me3 (pc' := 62) dm_X12_keep_61 (g_lald (v := (0 : Int64)) (lu (n := 102) (j := 8) hn rfl) rfl (by decide) rfl (Nat.le_of_ble_eq_true rfl)) rfl rfl rfl ?_
  refine me3 (pc' := 63) dm_X12_keep_62 (u_last (n := 102) (j := 12) hn rfl rfl (by decide) rfl (Nat.le_of_ble_eq_true rfl)) rfl rfl rfl ?_
  refine me1 (pc' := 64) dm_X12_keep_63 rfl rfl rfl rfl ?_
  refine me3 (pc' := 67) dm_X12_keep_64 (g_get (v := .ref 115) (lu (n := 102) (j := 0) hn rfl) rfl rfl (Nat.le_of_ble_eq_true rfl)) rfl rfl rfl ?_
  refine me0 (pc' := 69) (S' := .int (80 : Int32) :: _) dm_X12_keep_67 rfl rfl rfl rfl ?_
  refine me1 (pc' := 70) dm_X12_keep_69 rfl rfl rfl rfl ?_
  refine me0 (pc' := 71) (S' := .int (160 : Int32) :: _) dm_X12_keep_70 rfl rfl rfl rfl ?_
  refine me1 (pc' := 72) dm_X12_keep_71 rfl rfl rfl rfl ?_
  refine me0 (pc' := 73) (S' := .int (199 : Int32) :: _) dm_X12_keep_72 rfl rfl rfl rfl ?_
  refine me1 (pc' := 74) dm_X12_keep_73 rfl rfl rfl rfl ?_
  refine me3 (pc' := 77) dm_X12_keep_74 (g_get (v := .ref 112) (lu (n := 102) (j := 0) hn rfl) rfl rfl (Nat.le_of_ble_eq_true rfl)) rfl rfl rfl ?_
  refine me1 (pc' := 78) dm_X12_keep_77 rfl rfl rfl rfl ?_
  refine me3 (pc' := 79) dm_X12_keep_78 (g_iald (v := (0 : Int32)) (lu (n := 102) (j := 10) hn rfl) rfl (by decide) rfl (Nat.le_of_ble_eq_true rfl)) rfl rfl rfl ?_
  refine me3 (pc' := 80) dm_X12_keep_79 (u_iast (n := 102) (j := 13) hn rfl rfl (by decide) rfl (Nat.le_of_ble_eq_true rfl)) rfl rfl rfl ?_
  refine me1 (pc' := 81) dm_X12_keep_80 rfl rfl rfl rfl ?_
  refine me3 (pc' := 84) dm_X12_keep_81 (g_get (v := .ref 114) (lu (n := 102) (j := 0) hn rfl) rfl rfl (Nat.le_of_ble_eq_true rfl)) rfl rfl rfl ?_
  refine me0 (pc' := 86) (S' := .int (80 : Int32) :: _) dm_X12_keep_84 rfl rfl rfl rfl ?_
  refine me1 (pc' := 87) dm_X12_keep_86 rfl rfl rfl rfl ?_
  refine me0 (pc' := 88) (S' := .int (160 : Int32) :: _) dm_X12_keep_87 rfl rfl rfl rfl ?_
  refine me0 (pc' := 90) (S' := .int (40 : Int32) :: _) dm_X12_keep_88 rfl rfl rfl rfl ?_
  refine me0 (pc' := 91) (S' := .int (200 : Int32) :: _) dm_X12_keep_90 rfl rfl rfl rfl ?_
  refine me1 (pc' := 92) dm_X12_keep_91 rfl rfl rfl rfl ?_
  refine me0 (pc' := 93) (S' := .int (239 : Int32) :: _) dm_X12_keep_92 rfl rfl rfl rfl ?_
  refine me1 (pc' := 94) dm_X12_keep_93 rfl rfl rfl rfl ?_
  refine me3 (pc' := 97) dm_X12_keep_94 (g_get (v := .ref 111) (lu (n := 102) (j := 0) hn rfl) rfl rfl (Nat.le_of_ble_eq_true rfl)) rfl rfl rfl ?_
  refine me1 (pc' := 98) dm_X12_keep_97 rfl rfl rfl rfl ?_
  refine me3 (pc' := 99) dm_X12_keep_98 (g_lald (v := (0 : Int64)) (lu (n := 102) (j := 9) hn rfl) rfl (by decide) rfl (Nat.le_of_ble_eq_true rfl)) rfl rfl rfl ?_
  refine me3 (pc' := 100) dm_X12_keep_99 (u_last (n := 102) (j := 12) hn rfl rfl (by decide) rfl (Nat.le_of_ble_eq_true rfl)) rfl rfl rfl ?_
  refine me1 (pc' := 101) dm_X12_keep_100 rfl rfl rfl rfl ?_
  refine me3 (pc' := 104) dm_X12_keep_101 (g_get (v := .ref 115) (lu (n := 102) (j := 0) hn rfl) rfl rfl (Nat.le_of_ble_eq_true rfl)) rfl rfl rfl ?_
  refine me0 (pc' := 106) (S' := .int (80 : Int32) :: _) dm_X12_keep_104 rfl rfl rfl rfl ?_
  refine me1 (pc' := 107) dm_X12_keep_106 rfl rfl rfl rfl ?_
  refine me0 (pc' := 108) (S' := .int (160 : Int32) :: _) dm_X12_keep_107 rfl rfl rfl rfl ?_
  refine me0 (pc' := 110) (S' := .int (40 : Int32) :: _) dm_X12_keep_108 rfl rfl rfl rfl ?_
  refine me0 (pc' := 111) (S' := .int (200 : Int32) :: _) dm_X12_keep_110 rfl rfl rfl rfl ?_
  refine me1 (pc' := 112) dm_X12_keep_111 rfl rfl rfl rfl ?_
  refine me0 (pc' := 113) (S' := .int (239 : Int32) :: _) dm_X12_keep_112 rfl rfl rfl rfl ?_
  refine me1 (pc' := 114) dm_X12_keep_113 rfl rfl rfl rfl ?_
  refine me3 (pc' := 117) dm_X12_keep_114 (g_get (v := .ref 113) (lu (n := 102) (j := 0) hn rfl) rfl rfl (Nat.le_of_ble_eq_true rfl)) rfl rfl rfl ?_
  refine me1 (pc' := 118) dm_X12_keep_117 rfl rfl rfl rfl ?_
  refine me3 (pc' := 119) dm_X12_keep_118 (g_iald (v := (0 : Int32)) (lu (n := 102) (j := 11) hn rfl) rfl (by decide) rfl (Nat.le_of_ble_eq_true rfl)) rfl rfl rfl ?_
  refine me3 (pc' := 120) dm_X12_keep_119 (u_iast (n := 102) (j := 13) hn rfl rfl (by decide) rfl (Nat.le_of_ble_eq_true rfl)) rfl rfl rfl ?_
  refine me1 (pc' := 123) (L' := [(2, .int (40 : Int32)), (0, .ref 102), (1, .int (2 : Int32))]) dm_X12_keep_120 rfl rfl rfl rfl ?_
  refine me2 (pc' := 40) dm_X12_keep_123 rfl rfl rfl ?_
  refine me1 (pc' := 41) dm_X12_keep_40 rfl rfl rfl rfl ?_
  refine me0 (pc' := 43) (S' := .int (40 : Int32) :: _) dm_X12_keep_41 rfl rfl rfl rfl ?_
  refine me_2t (pc' := 126) dm_X12_keep_43 rfl rfl ?_
  refine me0 (pc' := 127) (S' := .int (1 : Int32) :: _) dm_X12_keep_126 rfl rfl rfl rfl ?_
  refine me5 dm_X12_keep_127 rfl rfl rfl ?_
  exact k _ rfl (Nat.le_of_ble_eq_true rfl)
set_option maxRecDepth 100000 in
set_option maxHeartbeats 40000000 in
theorem r_keep_v3 {xt : mj_X} {d : Nat} {h W : mj_H} (hn : h.length = 102) {P : Option Value → mj_H → Prop}  (k : ∀ U, U.length = 25 → mj_sl U ≤ 3000000 → P (some (.int (1 : Int32))) (h ++ (U ++ W))) : pgE xt (d + 20) 12 3 false (Option.some FieldType.boolean) (mj_dec prog_14_method_119_code) 0 [(0, .ref 102), (1, .int (3 : Int32))] [] (h ++ (rT ++ W)) P := by
  refine me1 (pc' := 1) dm_X12_keep_0 rfl rfl rfl rfl ?_
  refine me_1f (pc' := 4) dm_X12_keep_1 rfl (by decide) rfl ?_
  refine me1 (pc' := 5) dm_X12_keep_4 rfl rfl rfl rfl ?_
  refine me0 (pc' := 6) (S' := .int (3 : Int32) :: _) dm_X12_keep_5 rfl rfl rfl rfl ?_
  refine me_2t (pc' := 11) dm_X12_keep_6 rfl rfl ?_
  refine me1 (pc' := 12) dm_X12_keep_11 rfl rfl rfl rfl ?_
  refine me3 (pc' := 15) dm_X12_keep_12 (g_get (v := .ref 118) (lu (n := 102) (j := 0) hn rfl) rfl rfl (Nat.le_of_ble_eq_true rfl)) rfl rfl rfl ?_
  refine me1 (pc' := 16) dm_X12_keep_15 rfl rfl rfl rfl ?_
  refine me0 (pc' := 17) (S' := .int (1 : Int32) :: _) dm_X12_keep_16 rfl rfl rfl rfl ?_
  refine me3 (pc' := 18) dm_X12_keep_17 (u_zast (n := 102) (j := 16) hn rfl rfl (by decide) rfl (Nat.le_of_ble_eq_true rfl)) rfl rfl rfl ?_
  refine me1 (pc' := 19) dm_X12_keep_18 rfl rfl rfl rfl ?_
  refine me3 (pc' := 22) dm_X12_keep_19 (g_get (v := .ref 116) (lu (n := 102) (j := 0) hn rfl) rfl rfl (Nat.le_of_ble_eq_true rfl)) rfl rfl rfl ?_
  refine me1 (pc' := 23) dm_X12_keep_22 rfl rfl rfl rfl ?_
  refine me1 (pc' := 24) dm_X12_keep_23 rfl rfl rfl rfl ?_
  refine me3 (pc' := 27) dm_X12_keep_24 (g_get (v := .int (0 : Int32)) (lu (n := 102) (j := 0) hn rfl) rfl rfl (Nat.le_of_ble_eq_true rfl)) rfl rfl rfl ?_
  refine me3 (pc' := 28) dm_X12_keep_27 (u_iast (n := 102) (j := 14) hn rfl rfl (by decide) rfl (Nat.le_of_ble_eq_true rfl)) rfl rfl rfl ?_
  refine me1 (pc' := 29) dm_X12_keep_28 rfl rfl rfl rfl ?_
  refine me3 (pc' := 32) dm_X12_keep_29 (g_get (v := .ref 117) (lu (n := 102) (j := 0) hn rfl) rfl rfl (Nat.le_of_ble_eq_true rfl)) rfl rfl rfl ?_
  refine me1 (pc' := 33) dm_X12_keep_32 rfl rfl rfl rfl ?_
  refine me1 (pc' := 34) dm_X12_keep_33 rfl rfl rfl rfl ?_
  refine me3 (pc' := 37) dm_X12_keep_34 (g_get (v := .int (0 : Int32)) (lu (n := 102) (j := 0) hn rfl) rfl rfl (Nat.le_of_ble_eq_true rfl)) rfl rfl rfl ?_
  refine me3 (pc' := 38) dm_X12_keep_37 (u_iast (n := 102) (j := 15) hn rfl rfl (by decide) rfl (Nat.le_of_ble_eq_true rfl)) rfl rfl rfl ?_
  refine me0 (pc' := 39) (S' := .int (0 : Int32) :: _) dm_X12_keep_38 rfl rfl rfl rfl ?_
  refine me1 (pc' := 40) (L' := [(2, .int (0 : Int32)), (0, .ref 102), (1, .int (3 : Int32))]) dm_X12_keep_39 rfl rfl rfl rfl ?_
  refine me1 (pc' := 41) dm_X12_keep_40 rfl rfl rfl rfl ?_
  refine me0 (pc' := 43) (S' := .int (40 : Int32) :: _) dm_X12_keep_41 rfl rfl rfl rfl ?_
  refine me_2f (pc' := 46) dm_X12_keep_43 rfl (by decide) rfl ?_
  refine me1 (pc' := 47) dm_X12_keep_46 rfl rfl rfl rfl ?_
  refine me3 (pc' := 50) dm_X12_keep_47 (g_get (v := .ref 114) (lu (n := 102) (j := 0) hn rfl) rfl rfl (Nat.le_of_ble_eq_true rfl)) rfl rfl rfl ?_
  refine me0 (pc' := 52) (S' := .int (80 : Int32) :: _) dm_X12_keep_50 rfl rfl rfl rfl ?_
  refine me1 (pc' := 53) dm_X12_keep_52 rfl rfl rfl rfl ?_
  refine me0 (pc' := 54) (S' := .int (240 : Int32) :: _) dm_X12_keep_53 rfl rfl rfl rfl ?_
  refine me1 (pc' := 55) dm_X12_keep_54 rfl rfl rfl rfl ?_
  refine me0 (pc' := 56) (S' := .int (240 : Int32) :: _) dm_X12_keep_55 rfl rfl rfl rfl ?_
  refine me1 (pc' := 57) dm_X12_keep_56 rfl rfl rfl rfl ?_
  refine me3 (pc' := 60) dm_X12_keep_57 (g_get (v := .ref 110) (lu (n := 102) (j := 0) hn rfl) rfl rfl (Nat.le_of_ble_eq_true rfl)) rfl rfl rfl ?_
  refine me1 (pc' := 61) dm_X12_keep_60 rfl rfl rfl rfl ?_
  refine me3 (pc' := 62) dm_X12_keep_61 (g_lald (v := (0 : Int64)) (lu (n := 102) (j := 8) hn rfl) rfl (by decide) rfl (Nat.le_of_ble_eq_true rfl)) rfl rfl rfl ?_
  refine me3 (pc' := 63) dm_X12_keep_62 (u_last (n := 102) (j := 12) hn rfl rfl (by decide) rfl (Nat.le_of_ble_eq_true rfl)) rfl rfl rfl ?_
  refine me1 (pc' := 64) dm_X12_keep_63 rfl rfl rfl rfl ?_
  refine me3 (pc' := 67) dm_X12_keep_64 (g_get (v := .ref 115) (lu (n := 102) (j := 0) hn rfl) rfl rfl (Nat.le_of_ble_eq_true rfl)) rfl rfl rfl ?_
  refine me0 (pc' := 69) (S' := .int (80 : Int32) :: _) dm_X12_keep_67 rfl rfl rfl rfl ?_
  refine me1 (pc' := 70) dm_X12_keep_69 rfl rfl rfl rfl ?_
  refine me0 (pc' := 71) (S' := .int (240 : Int32) :: _) dm_X12_keep_70 rfl rfl rfl rfl ?_
  refine me1 (pc' := 72) dm_X12_keep_71 rfl rfl rfl rfl ?_
  refine me0 (pc' := 73) (S' := .int (240 : Int32) :: _) dm_X12_keep_72 rfl rfl rfl rfl ?_
  refine me1 (pc' := 74) dm_X12_keep_73 rfl rfl rfl rfl ?_
  refine me3 (pc' := 77) dm_X12_keep_74 (g_get (v := .ref 112) (lu (n := 102) (j := 0) hn rfl) rfl rfl (Nat.le_of_ble_eq_true rfl)) rfl rfl rfl ?_
  refine me1 (pc' := 78) dm_X12_keep_77 rfl rfl rfl rfl ?_
  refine me3 (pc' := 79) dm_X12_keep_78 (g_iald (v := (0 : Int32)) (lu (n := 102) (j := 10) hn rfl) rfl (by decide) rfl (Nat.le_of_ble_eq_true rfl)) rfl rfl rfl ?_
  refine me3 (pc' := 80) dm_X12_keep_79 (u_iast (n := 102) (j := 13) hn rfl rfl (by decide) rfl (Nat.le_of_ble_eq_true rfl)) rfl rfl rfl ?_
  refine me1 (pc' := 81) dm_X12_keep_80 rfl rfl rfl rfl ?_
  refine me3 (pc' := 84) dm_X12_keep_81 (g_get (v := .ref 114) (lu (n := 102) (j := 0) hn rfl) rfl rfl (Nat.le_of_ble_eq_true rfl)) rfl rfl rfl ?_
  refine me0 (pc' := 86) (S' := .int (80 : Int32) :: _) dm_X12_keep_84 rfl rfl rfl rfl ?_
  refine me1 (pc' := 87) dm_X12_keep_86 rfl rfl rfl rfl ?_
  refine me0 (pc' := 88) (S' := .int (240 : Int32) :: _) dm_X12_keep_87 rfl rfl rfl rfl ?_
  refine me0 (pc' := 90) (S' := .int (40 : Int32) :: _) dm_X12_keep_88 rfl rfl rfl rfl ?_
  refine me0 (pc' := 91) (S' := .int (280 : Int32) :: _) dm_X12_keep_90 rfl rfl rfl rfl ?_
  refine me1 (pc' := 92) dm_X12_keep_91 rfl rfl rfl rfl ?_
  refine me0 (pc' := 93) (S' := .int (280 : Int32) :: _) dm_X12_keep_92 rfl rfl rfl rfl ?_
  refine me1 (pc' := 94) dm_X12_keep_93 rfl rfl rfl rfl ?_
  refine me3 (pc' := 97) dm_X12_keep_94 (g_get (v := .ref 111) (lu (n := 102) (j := 0) hn rfl) rfl rfl (Nat.le_of_ble_eq_true rfl)) rfl rfl rfl ?_
  refine me1 (pc' := 98) dm_X12_keep_97 rfl rfl rfl rfl ?_
  refine me3 (pc' := 99) dm_X12_keep_98 (g_lald (v := (0 : Int64)) (lu (n := 102) (j := 9) hn rfl) rfl (by decide) rfl (Nat.le_of_ble_eq_true rfl)) rfl rfl rfl ?_
  refine me3 (pc' := 100) dm_X12_keep_99 (u_last (n := 102) (j := 12) hn rfl rfl (by decide) rfl (Nat.le_of_ble_eq_true rfl)) rfl rfl rfl ?_
  refine me1 (pc' := 101) dm_X12_keep_100 rfl rfl rfl rfl ?_
  refine me3 (pc' := 104) dm_X12_keep_101 (g_get (v := .ref 115) (lu (n := 102) (j := 0) hn rfl) rfl rfl (Nat.le_of_ble_eq_true rfl)) rfl rfl rfl ?_
  refine me0 (pc' := 106) (S' := .int (80 : Int32) :: _) dm_X12_keep_104 rfl rfl rfl rfl ?_
  refine me1 (pc' := 107) dm_X12_keep_106 rfl rfl rfl rfl ?_
  refine me0 (pc' := 108) (S' := .int (240 : Int32) :: _) dm_X12_keep_107 rfl rfl rfl rfl ?_
  refine me0 (pc' := 110) (S' := .int (40 : Int32) :: _) dm_X12_keep_108 rfl rfl rfl rfl ?_
  refine me0 (pc' := 111) (S' := .int (280 : Int32) :: _) dm_X12_keep_110 rfl rfl rfl rfl ?_
  refine me1 (pc' := 112) dm_X12_keep_111 rfl rfl rfl rfl ?_
  refine me0 (pc' := 113) (S' := .int (280 : Int32) :: _) dm_X12_keep_112 rfl rfl rfl rfl ?_
  refine me1 (pc' := 114) dm_X12_keep_113 rfl rfl rfl rfl ?_
  refine me3 (pc' := 117) dm_X12_keep_114 (g_get (v := .ref 113) (lu (n := 102) (j := 0) hn rfl) rfl rfl (Nat.le_of_ble_eq_true rfl)) rfl rfl rfl ?_
  refine me1 (pc' := 118) dm_X12_keep_117 rfl rfl rfl rfl ?_
  refine me3 (pc' := 119) dm_X12_keep_118 (g_iald (v := (0 : Int32)) (lu (n := 102) (j := 11) hn rfl) rfl (by decide) rfl (Nat.le_of_ble_eq_true rfl)) rfl rfl rfl ?_
  refine me3 (pc' := 120) dm_X12_keep_119 (u_iast (n := 102) (j := 13) hn rfl rfl (by decide) rfl (Nat.le_of_ble_eq_true rfl)) rfl rfl rfl ?_
  refine me1 (pc' := 123) (L' := [(2, .int (1 : Int32)), (0, .ref 102), (1, .int (3 : Int32))]) dm_X12_keep_120 rfl rfl rfl rfl ?_
  refine me2 (pc' := 40) dm_X12_keep_123 rfl rfl rfl ?_
  refine me1 (pc' := 41) dm_X12_keep_40 rfl rfl rfl rfl ?_
  refine me0 (pc' := 43) (S' := .int (40 : Int32) :: _) dm_X12_keep_41 rfl rfl rfl rfl ?_
  refine me_2f (pc' := 46) dm_X12_keep_43 rfl (by decide) rfl ?_
  refine me1 (pc' := 47) dm_X12_keep_46 rfl rfl rfl rfl ?_
  refine me3 (pc' := 50) dm_X12_keep_47 (g_get (v := .ref 114) (lu (n := 102) (j := 0) hn rfl) rfl rfl (Nat.le_of_ble_eq_true rfl)) rfl rfl rfl ?_
  refine me0 (pc' := 52) (S' := .int (80 : Int32) :: _) dm_X12_keep_50 rfl rfl rfl rfl ?_
  refine me1 (pc' := 53) dm_X12_keep_52 rfl rfl rfl rfl ?_
  refine me0 (pc' := 54) (S' := .int (240 : Int32) :: _) dm_X12_keep_53 rfl rfl rfl rfl ?_
  refine me1 (pc' := 55) dm_X12_keep_54 rfl rfl rfl rfl ?_
  refine me0 (pc' := 56) (S' := .int (241 : Int32) :: _) dm_X12_keep_55 rfl rfl rfl rfl ?_
  refine me1 (pc' := 57) dm_X12_keep_56 rfl rfl rfl rfl ?_
  refine me3 (pc' := 60) dm_X12_keep_57 (g_get (v := .ref 110) (lu (n := 102) (j := 0) hn rfl) rfl rfl (Nat.le_of_ble_eq_true rfl)) rfl rfl rfl ?_
  refine me1 (pc' := 61) dm_X12_keep_60 rfl rfl rfl rfl ?_
  refine me3 (pc' := 62) dm_X12_keep_61 (g_lald (v := (0 : Int64)) (lu (n := 102) (j := 8) hn rfl) rfl (by decide) rfl (Nat.le_of_ble_eq_true rfl)) rfl rfl rfl ?_
  refine me3 (pc' := 63) dm_X12_keep_62 (u_last (n := 102) (j := 12) hn rfl rfl (by decide) rfl (Nat.le_of_ble_eq_true rfl)) rfl rfl rfl ?_
  refine me1 (pc' := 64) dm_X12_keep_63 rfl rfl rfl rfl ?_
  refine me3 (pc' := 67) dm_X12_keep_64 (g_get (v := .ref 115) (lu (n := 102) (j := 0) hn rfl) rfl rfl (Nat.le_of_ble_eq_true rfl)) rfl rfl rfl ?_
  refine me0 (pc' := 69) (S' := .int (80 : Int32) :: _) dm_X12_keep_67 rfl rfl rfl rfl ?_
  refine me1 (pc' := 70) dm_X12_keep_69 rfl rfl rfl rfl ?_
  refine me0 (pc' := 71) (S' := .int (240 : Int32) :: _) dm_X12_keep_70 rfl rfl rfl rfl ?_
  refine me1 (pc' := 72) dm_X12_keep_71 rfl rfl rfl rfl ?_
  refine me0 (pc' := 73) (S' := .int (241 : Int32) :: _) dm_X12_keep_72 rfl rfl rfl rfl ?_
  refine me1 (pc' := 74) dm_X12_keep_73 rfl rfl rfl rfl ?_
  refine me3 (pc' := 77) dm_X12_keep_74 (g_get (v := .ref 112) (lu (n := 102) (j := 0) hn rfl) rfl rfl (Nat.le_of_ble_eq_true rfl)) rfl rfl rfl ?_
  refine me1 (pc' := 78) dm_X12_keep_77 rfl rfl rfl rfl ?_
  refine me3 (pc' := 79) dm_X12_keep_78 (g_iald (v := (0 : Int32)) (lu (n := 102) (j := 10) hn rfl) rfl (by decide) rfl (Nat.le_of_ble_eq_true rfl)) rfl rfl rfl ?_
  refine me3 (pc' := 80) dm_X12_keep_79 (u_iast (n := 102) (j := 13) hn rfl rfl (by decide) rfl (Nat.le_of_ble_eq_true rfl)) rfl rfl rfl ?_
  refine me1 (pc' := 81) dm_X12_keep_80 rfl rfl rfl rfl ?_
  refine me3 (pc' := 84) dm_X12_keep_81 (g_get (v := .ref 114) (lu (n := 102) (j := 0) hn rfl) rfl rfl (Nat.le_of_ble_eq_true rfl)) rfl rfl rfl ?_
  refine me0 (pc' := 86) (S' := .int (80 : Int32) :: _) dm_X12_keep_84 rfl rfl rfl rfl ?_
  refine me1 (pc' := 87) dm_X12_keep_86 rfl rfl rfl rfl ?_
  refine me0 (pc' := 88) (S' := .int (240 : Int32) :: _) dm_X12_keep_87 rfl rfl rfl rfl ?_
  refine me0 (pc' := 90) (S' := .int (40 : Int32) :: _) dm_X12_keep_88 rfl rfl rfl rfl ?_
  refine me0 (pc' := 91) (S' := .int (280 : Int32) :: _) dm_X12_keep_90 rfl rfl rfl rfl ?_
  refine me1 (pc' := 92) dm_X12_keep_91 rfl rfl rfl rfl ?_
  refine me0 (pc' := 93) (S' := .int (281 : Int32) :: _) dm_X12_keep_92 rfl rfl rfl rfl ?_
  refine me1 (pc' := 94) dm_X12_keep_93 rfl rfl rfl rfl ?_
  refine me3 (pc' := 97) dm_X12_keep_94 (g_get (v := .ref 111) (lu (n := 102) (j := 0) hn rfl) rfl rfl (Nat.le_of_ble_eq_true rfl)) rfl rfl rfl ?_
  refine me1 (pc' := 98) dm_X12_keep_97 rfl rfl rfl rfl ?_
  refine me3 (pc' := 99) dm_X12_keep_98 (g_lald (v := (0 : Int64)) (lu (n := 102) (j := 9) hn rfl) rfl (by decide) rfl (Nat.le_of_ble_eq_true rfl)) rfl rfl rfl ?_
  refine me3 (pc' := 100) dm_X12_keep_99 (u_last (n := 102) (j := 12) hn rfl rfl (by decide) rfl (Nat.le_of_ble_eq_true rfl)) rfl rfl rfl ?_
  refine me1 (pc' := 101) dm_X12_keep_100 rfl rfl rfl rfl ?_
  refine me3 (pc' := 104) dm_X12_keep_101 (g_get (v := .ref 115) (lu (n := 102) (j := 0) hn rfl) rfl rfl (Nat.le_of_ble_eq_true rfl)) rfl rfl rfl ?_
  refine me0 (pc' := 106) (S' := .int (80 : Int32) :: _) dm_X12_keep_104 rfl rfl rfl rfl ?_
  refine me1 (pc' := 107) dm_X12_keep_106 rfl rfl rfl rfl ?_
  refine me0 (pc' := 108) (S' := .int (240 : Int32) :: _) dm_X12_keep_107 rfl rfl rfl rfl ?_
  refine me0 (pc' := 110) (S' := .int (40 : Int32) :: _) dm_X12_keep_108 rfl rfl rfl rfl ?_
  refine me0 (pc' := 111) (S' := .int (280 : Int32) :: _) dm_X12_keep_110 rfl rfl rfl rfl ?_
  refine me1 (pc' := 112) dm_X12_keep_111 rfl rfl rfl rfl ?_
  refine me0 (pc' := 113) (S' := .int (281 : Int32) :: _) dm_X12_keep_112 rfl rfl rfl rfl ?_
  refine me1 (pc' := 114) dm_X12_keep_113 rfl rfl rfl rfl ?_
  refine me3 (pc' := 117) dm_X12_keep_114 (g_get (v := .ref 113) (lu (n := 102) (j := 0) hn rfl) rfl rfl (Nat.le_of_ble_eq_true rfl)) rfl rfl rfl ?_
  refine me1 (pc' := 118) dm_X12_keep_117 rfl rfl rfl rfl ?_
  refine me3 (pc' := 119) dm_X12_keep_118 (g_iald (v := (0 : Int32)) (lu (n := 102) (j := 11) hn rfl) rfl (by decide) rfl (Nat.le_of_ble_eq_true rfl)) rfl rfl rfl ?_
  refine me3 (pc' := 120) dm_X12_keep_119 (u_iast (n := 102) (j := 13) hn rfl rfl (by decide) rfl (Nat.le_of_ble_eq_true rfl)) rfl rfl rfl ?_
  refine me1 (pc' := 123) (L' := [(2, .int (2 : Int32)), (0, .ref 102), (1, .int (3 : Int32))]) dm_X12_keep_120 rfl rfl rfl rfl ?_
  refine me2 (pc' := 40) dm_X12_keep_123 rfl rfl rfl ?_
  refine me1 (pc' := 41) dm_X12_keep_40 rfl rfl rfl rfl ?_
  refine me0 (pc' := 43) (S' := .int (40 : Int32) :: _) dm_X12_keep_41 rfl rfl rfl rfl ?_
  refine me_2f (pc' := 46) dm_X12_keep_43 rfl (by decide) rfl ?_
  refine me1 (pc' := 47) dm_X12_keep_46 rfl rfl rfl rfl ?_
  refine me3 (pc' := 50) dm_X12_keep_47 (g_get (v := .ref 114) (lu (n := 102) (j := 0) hn rfl) rfl rfl (Nat.le_of_ble_eq_true rfl)) rfl rfl rfl ?_
  refine me0 (pc' := 52) (S' := .int (80 : Int32) :: _) dm_X12_keep_50 rfl rfl rfl rfl ?_
  refine me1 (pc' := 53) dm_X12_keep_52 rfl rfl rfl rfl ?_
  refine me0 (pc' := 54) (S' := .int (240 : Int32) :: _) dm_X12_keep_53 rfl rfl rfl rfl ?_
  refine me1 (pc' := 55) dm_X12_keep_54 rfl rfl rfl rfl ?_
  refine me0 (pc' := 56) (S' := .int (242 : Int32) :: _) dm_X12_keep_55 rfl rfl rfl rfl ?_
  refine me1 (pc' := 57) dm_X12_keep_56 rfl rfl rfl rfl ?_
  refine me3 (pc' := 60) dm_X12_keep_57 (g_get (v := .ref 110) (lu (n := 102) (j := 0) hn rfl) rfl rfl (Nat.le_of_ble_eq_true rfl)) rfl rfl rfl ?_
  refine me1 (pc' := 61) dm_X12_keep_60 rfl rfl rfl rfl ?_
  refine me3 (pc' := 62) dm_X12_keep_61 (g_lald (v := (0 : Int64)) (lu (n := 102) (j := 8) hn rfl) rfl (by decide) rfl (Nat.le_of_ble_eq_true rfl)) rfl rfl rfl ?_
  refine me3 (pc' := 63) dm_X12_keep_62 (u_last (n := 102) (j := 12) hn rfl rfl (by decide) rfl (Nat.le_of_ble_eq_true rfl)) rfl rfl rfl ?_
  refine me1 (pc' := 64) dm_X12_keep_63 rfl rfl rfl rfl ?_
  refine me3 (pc' := 67) dm_X12_keep_64 (g_get (v := .ref 115) (lu (n := 102) (j := 0) hn rfl) rfl rfl (Nat.le_of_ble_eq_true rfl)) rfl rfl rfl ?_
  refine me0 (pc' := 69) (S' := .int (80 : Int32) :: _) dm_X12_keep_67 rfl rfl rfl rfl ?_
  refine me1 (pc' := 70) dm_X12_keep_69 rfl rfl rfl rfl ?_
  refine me0 (pc' := 71) (S' := .int (240 : Int32) :: _) dm_X12_keep_70 rfl rfl rfl rfl ?_
  refine me1 (pc' := 72) dm_X12_keep_71 rfl rfl rfl rfl ?_
  refine me0 (pc' := 73) (S' := .int (242 : Int32) :: _) dm_X12_keep_72 rfl rfl rfl rfl ?_
  refine me1 (pc' := 74) dm_X12_keep_73 rfl rfl rfl rfl ?_
  refine me3 (pc' := 77) dm_X12_keep_74 (g_get (v := .ref 112) (lu (n := 102) (j := 0) hn rfl) rfl rfl (Nat.le_of_ble_eq_true rfl)) rfl rfl rfl ?_
  refine me1 (pc' := 78) dm_X12_keep_77 rfl rfl rfl rfl ?_
  refine me3 (pc' := 79) dm_X12_keep_78 (g_iald (v := (0 : Int32)) (lu (n := 102) (j := 10) hn rfl) rfl (by decide) rfl (Nat.le_of_ble_eq_true rfl)) rfl rfl rfl ?_
  refine me3 (pc' := 80) dm_X12_keep_79 (u_iast (n := 102) (j := 13) hn rfl rfl (by decide) rfl (Nat.le_of_ble_eq_true rfl)) rfl rfl rfl ?_
  refine me1 (pc' := 81) dm_X12_keep_80 rfl rfl rfl rfl ?_
  refine me3 (pc' := 84) dm_X12_keep_81 (g_get (v := .ref 114) (lu (n := 102) (j := 0) hn rfl) rfl rfl (Nat.le_of_ble_eq_true rfl)) rfl rfl rfl ?_
  refine me0 (pc' := 86) (S' := .int (80 : Int32) :: _) dm_X12_keep_84 rfl rfl rfl rfl ?_
  refine me1 (pc' := 87) dm_X12_keep_86 rfl rfl rfl rfl ?_
  refine me0 (pc' := 88) (S' := .int (240 : Int32) :: _) dm_X12_keep_87 rfl rfl rfl rfl ?_
  refine me0 (pc' := 90) (S' := .int (40 : Int32) :: _) dm_X12_keep_88 rfl rfl rfl rfl ?_
  refine me0 (pc' := 91) (S' := .int (280 : Int32) :: _) dm_X12_keep_90 rfl rfl rfl rfl ?_
  refine me1 (pc' := 92) dm_X12_keep_91 rfl rfl rfl rfl ?_
  refine me0 (pc' := 93) (S' := .int (282 : Int32) :: _) dm_X12_keep_92 rfl rfl rfl rfl ?_
  refine me1 (pc' := 94) dm_X12_keep_93 rfl rfl rfl rfl ?_
  refine me3 (pc' := 97) dm_X12_keep_94 (g_get (v := .ref 111) (lu (n := 102) (j := 0) hn rfl) rfl rfl (Nat.le_of_ble_eq_true rfl)) rfl rfl rfl ?_
  refine me1 (pc' := 98) dm_X12_keep_97 rfl rfl rfl rfl ?_
  refine me3 (pc' := 99) dm_X12_keep_98 (g_lald (v := (0 : Int64)) (lu (n := 102) (j := 9) hn rfl) rfl (by decide) rfl (Nat.le_of_ble_eq_true rfl)) rfl rfl rfl ?_
  refine me3 (pc' := 100) dm_X12_keep_99 (u_last (n := 102) (j := 12) hn rfl rfl (by decide) rfl (Nat.le_of_ble_eq_true rfl)) rfl rfl rfl ?_
  refine me1 (pc' := 101) dm_X12_keep_100 rfl rfl rfl rfl ?_
  refine me3 (pc' := 104) dm_X12_keep_101 (g_get (v := .ref 115) (lu (n := 102) (j := 0) hn rfl) rfl rfl (Nat.le_of_ble_eq_true rfl)) rfl rfl rfl ?_
  refine me0 (pc' := 106) (S' := .int (80 : Int32) :: _) dm_X12_keep_104 rfl rfl rfl rfl ?_
  refine me1 (pc' := 107) dm_X12_keep_106 rfl rfl rfl rfl ?_
  refine me0 (pc' := 108) (S' := .int (240 : Int32) :: _) dm_X12_keep_107 rfl rfl rfl rfl ?_
  refine me0 (pc' := 110) (S' := .int (40 : Int32) :: _) dm_X12_keep_108 rfl rfl rfl rfl ?_
  refine me0 (pc' := 111) (S' := .int (280 : Int32) :: _) dm_X12_keep_110 rfl rfl rfl rfl ?_
  refine me1 (pc' := 112) dm_X12_keep_111 rfl rfl rfl rfl ?_
  refine me0 (pc' := 113) (S' := .int (282 : Int32) :: _) dm_X12_keep_112 rfl rfl rfl rfl ?_
  refine me1 (pc' := 114) dm_X12_keep_113 rfl rfl rfl rfl ?_
  refine me3 (pc' := 117) dm_X12_keep_114 (g_get (v := .ref 113) (lu (n := 102) (j := 0) hn rfl) rfl rfl (Nat.le_of_ble_eq_true rfl)) rfl rfl rfl ?_
  refine me1 (pc' := 118) dm_X12_keep_117 rfl rfl rfl rfl ?_
  refine me3 (pc' := 119) dm_X12_keep_118 (g_iald (v := (0 : Int32)) (lu (n := 102) (j := 11) hn rfl) rfl (by decide) rfl (Nat.le_of_ble_eq_true rfl)) rfl rfl rfl ?_
  refine me3 (pc' := 120) dm_X12_keep_119 (u_iast (n := 102) (j := 13) hn rfl rfl (by decide) rfl (Nat.le_of_ble_eq_true rfl)) rfl rfl rfl ?_
  refine me1 (pc' := 123) (L' := [(2, .int (3 : Int32)), (0, .ref 102), (1, .int (3 : Int32))]) dm_X12_keep_120 rfl rfl rfl rfl ?_
  refine me2 (pc' := 40) dm_X12_keep_123 rfl rfl rfl ?_
  refine me1 (pc' := 41) dm_X12_keep_40 rfl rfl rfl rfl ?_
  refine me0 (pc' := 43) (S' := .int (40 : Int32) :: _) dm_X12_keep_41 rfl rfl rfl rfl ?_
  refine me_2f (pc' := 46) dm_X12_keep_43 rfl (by decide) rfl ?_
  refine me1 (pc' := 47) dm_X12_keep_46 rfl rfl rfl rfl ?_
  refine me3 (pc' := 50) dm_X12_keep_47 (g_get (v := .ref 114) (lu (n := 102) (j := 0) hn rfl) rfl rfl (Nat.le_of_ble_eq_true rfl)) rfl rfl rfl ?_
  refine me0 (pc' := 52) (S' := .int (80 : Int32) :: _) dm_X12_keep_50 rfl rfl rfl rfl ?_
  refine me1 (pc' := 53) dm_X12_keep_52 rfl rfl rfl rfl ?_
  refine me0 (pc' := 54) (S' := .int (240 : Int32) :: _) dm_X12_keep_53 rfl rfl rfl rfl ?_
  refine me1 (pc' := 55) dm_X12_keep_54 rfl rfl rfl rfl ?_
  refine me0 (pc' := 56) (S' := .int (243 : Int32) :: _) dm_X12_keep_55 rfl rfl rfl rfl ?_
  refine me1 (pc' := 57) dm_X12_keep_56 rfl rfl rfl rfl ?_
  refine me3 (pc' := 60) dm_X12_keep_57 (g_get (v := .ref 110) (lu (n := 102) (j := 0) hn rfl) rfl rfl (Nat.le_of_ble_eq_true rfl)) rfl rfl rfl ?_
  refine me1 (pc' := 61) dm_X12_keep_60 rfl rfl rfl rfl ?_
  refine me3 (pc' := 62) dm_X12_keep_61 (g_lald (v := (0 : Int64)) (lu (n := 102) (j := 8) hn rfl) rfl (by decide) rfl (Nat.le_of_ble_eq_true rfl)) rfl rfl rfl ?_
  refine me3 (pc' := 63) dm_X12_keep_62 (u_last (n := 102) (j := 12) hn rfl rfl (by decide) rfl (Nat.le_of_ble_eq_true rfl)) rfl rfl rfl ?_
  refine me1 (pc' := 64) dm_X12_keep_63 rfl rfl rfl rfl ?_
  refine me3 (pc' := 67) dm_X12_keep_64 (g_get (v := .ref 115) (lu (n := 102) (j := 0) hn rfl) rfl rfl (Nat.le_of_ble_eq_true rfl)) rfl rfl rfl ?_
  refine me0 (pc' := 69) (S' := .int (80 : Int32) :: _) dm_X12_keep_67 rfl rfl rfl rfl ?_
  refine me1 (pc' := 70) dm_X12_keep_69 rfl rfl rfl rfl ?_
  refine me0 (pc' := 71) (S' := .int (240 : Int32) :: _) dm_X12_keep_70 rfl rfl rfl rfl ?_
  refine me1 (pc' := 72) dm_X12_keep_71 rfl rfl rfl rfl ?_
  refine me0 (pc' := 73) (S' := .int (243 : Int32) :: _) dm_X12_keep_72 rfl rfl rfl rfl ?_
  refine me1 (pc' := 74) dm_X12_keep_73 rfl rfl rfl rfl ?_
  refine me3 (pc' := 77) dm_X12_keep_74 (g_get (v := .ref 112) (lu (n := 102) (j := 0) hn rfl) rfl rfl (Nat.le_of_ble_eq_true rfl)) rfl rfl rfl ?_
  refine me1 (pc' := 78) dm_X12_keep_77 rfl rfl rfl rfl ?_
  refine me3 (pc' := 79) dm_X12_keep_78 (g_iald (v := (0 : Int32)) (lu (n := 102) (j := 10) hn rfl) rfl (by decide) rfl (Nat.le_of_ble_eq_true rfl)) rfl rfl rfl ?_
  refine me3 (pc' := 80) dm_X12_keep_79 (u_iast (n := 102) (j := 13) hn rfl rfl (by decide) rfl (Nat.le_of_ble_eq_true rfl)) rfl rfl rfl ?_
  refine me1 (pc' := 81) dm_X12_keep_80 rfl rfl rfl rfl ?_
  refine me3 (pc' := 84) dm_X12_keep_81 (g_get (v := .ref 114) (lu (n := 102) (j := 0) hn rfl) rfl rfl (Nat.le_of_ble_eq_true rfl)) rfl rfl rfl ?_
  refine me0 (pc' := 86) (S' := .int (80 : Int32) :: _) dm_X12_keep_84 rfl rfl rfl rfl ?_
  refine me1 (pc' := 87) dm_X12_keep_86 rfl rfl rfl rfl ?_
  refine me0 (pc' := 88) (S' := .int (240 : Int32) :: _) dm_X12_keep_87 rfl rfl rfl rfl ?_
  refine me0 (pc' := 90) (S' := .int (40 : Int32) :: _) dm_X12_keep_88 rfl rfl rfl rfl ?_
  refine me0 (pc' := 91) (S' := .int (280 : Int32) :: _) dm_X12_keep_90 rfl rfl rfl rfl ?_
  refine me1 (pc' := 92) dm_X12_keep_91 rfl rfl rfl rfl ?_
  refine me0 (pc' := 93) (S' := .int (283 : Int32) :: _) dm_X12_keep_92 rfl rfl rfl rfl ?_
  refine me1 (pc' := 94) dm_X12_keep_93 rfl rfl rfl rfl ?_
  refine me3 (pc' := 97) dm_X12_keep_94 (g_get (v := .ref 111) (lu (n := 102) (j := 0) hn rfl) rfl rfl (Nat.le_of_ble_eq_true rfl)) rfl rfl rfl ?_
  refine me1 (pc' := 98) dm_X12_keep_97 rfl rfl rfl rfl ?_
  refine me3 (pc' := 99) dm_X12_keep_98 (g_lald (v := (0 : Int64)) (lu (n := 102) (j := 9) hn rfl) rfl (by decide) rfl (Nat.le_of_ble_eq_true rfl)) rfl rfl rfl ?_
  refine me3 (pc' := 100) dm_X12_keep_99 (u_last (n := 102) (j := 12) hn rfl rfl (by decide) rfl (Nat.le_of_ble_eq_true rfl)) rfl rfl rfl ?_
  refine me1 (pc' := 101) dm_X12_keep_100 rfl rfl rfl rfl ?_
  refine me3 (pc' := 104) dm_X12_keep_101 (g_get (v := .ref 115) (lu (n := 102) (j := 0) hn rfl) rfl rfl (Nat.le_of_ble_eq_true rfl)) rfl rfl rfl ?_
  refine me0 (pc' := 106) (S' := .int (80 : Int32) :: _) dm_X12_keep_104 rfl rfl rfl rfl ?_
  refine me1 (pc' := 107) dm_X12_keep_106 rfl rfl rfl rfl ?_
  refine me0 (pc' := 108) (S' := .int (240 : Int32) :: _) dm_X12_keep_107 rfl rfl rfl rfl ?_
  refine me0 (pc' := 110) (S' := .int (40 : Int32) :: _) dm_X12_keep_108 rfl rfl rfl rfl ?_
  refine me0 (pc' := 111) (S' := .int (280 : Int32) :: _) dm_X12_keep_110 rfl rfl rfl rfl ?_
  refine me1 (pc' := 112) dm_X12_keep_111 rfl rfl rfl rfl ?_
  refine me0 (pc' := 113) (S' := .int (283 : Int32) :: _) dm_X12_keep_112 rfl rfl rfl rfl ?_
  refine me1 (pc' := 114) dm_X12_keep_113 rfl rfl rfl rfl ?_
  refine me3 (pc' := 117) dm_X12_keep_114 (g_get (v := .ref 113) (lu (n := 102) (j := 0) hn rfl) rfl rfl (Nat.le_of_ble_eq_true rfl)) rfl rfl rfl ?_
  refine me1 (pc' := 118) dm_X12_keep_117 rfl rfl rfl rfl ?_
  refine me3 (pc' := 119) dm_X12_keep_118 (g_iald (v := (0 : Int32)) (lu (n := 102) (j := 11) hn rfl) rfl (by decide) rfl (Nat.le_of_ble_eq_true rfl)) rfl rfl rfl ?_
  refine me3 (pc' := 120) dm_X12_keep_119 (u_iast (n := 102) (j := 13) hn rfl rfl (by decide) rfl (Nat.le_of_ble_eq_true rfl)) rfl rfl rfl ?_
  refine me1 (pc' := 123) (L' := [(2, .int (4 : Int32)), (0, .ref 102), (1, .int (3 : Int32))]) dm_X12_keep_120 rfl rfl rfl rfl ?_
  refine me2 (pc' := 40) dm_X12_keep_123 rfl rfl rfl ?_
  refine me1 (pc' := 41) dm_X12_keep_40 rfl rfl rfl rfl ?_
  refine me0 (pc' := 43) (S' := .int (40 : Int32) :: _) dm_X12_keep_41 rfl rfl rfl rfl ?_
  refine me_2f (pc' := 46) dm_X12_keep_43 rfl (by decide) rfl ?_
  refine me1 (pc' := 47) dm_X12_keep_46 rfl rfl rfl rfl ?_
  refine me3 (pc' := 50) dm_X12_keep_47 (g_get (v := .ref 114) (lu (n := 102) (j := 0) hn rfl) rfl rfl (Nat.le_of_ble_eq_true rfl)) rfl rfl rfl ?_
  refine me0 (pc' := 52) (S' := .int (80 : Int32) :: _) dm_X12_keep_50 rfl rfl rfl rfl ?_
  refine me1 (pc' := 53) dm_X12_keep_52 rfl rfl rfl rfl ?_
  refine me0 (pc' := 54) (S' := .int (240 : Int32) :: _) dm_X12_keep_53 rfl rfl rfl rfl ?_
  refine me1 (pc' := 55) dm_X12_keep_54 rfl rfl rfl rfl ?_
  refine me0 (pc' := 56) (S' := .int (244 : Int32) :: _) dm_X12_keep_55 rfl rfl rfl rfl ?_
  refine me1 (pc' := 57) dm_X12_keep_56 rfl rfl rfl rfl ?_
  refine me3 (pc' := 60) dm_X12_keep_57 (g_get (v := .ref 110) (lu (n := 102) (j := 0) hn rfl) rfl rfl (Nat.le_of_ble_eq_true rfl)) rfl rfl rfl ?_
  refine me1 (pc' := 61) dm_X12_keep_60 rfl rfl rfl rfl ?_
  refine me3 (pc' := 62) dm_X12_keep_61 (g_lald (v := (0 : Int64)) (lu (n := 102) (j := 8) hn rfl) rfl (by decide) rfl (Nat.le_of_ble_eq_true rfl)) rfl rfl rfl ?_
  refine me3 (pc' := 63) dm_X12_keep_62 (u_last (n := 102) (j := 12) hn rfl rfl (by decide) rfl (Nat.le_of_ble_eq_true rfl)) rfl rfl rfl ?_
  refine me1 (pc' := 64) dm_X12_keep_63 rfl rfl rfl rfl ?_
  refine me3 (pc' := 67) dm_X12_keep_64 (g_get (v := .ref 115) (lu (n := 102) (j := 0) hn rfl) rfl rfl (Nat.le_of_ble_eq_true rfl)) rfl rfl rfl ?_
  refine me0 (pc' := 69) (S' := .int (80 : Int32) :: _) dm_X12_keep_67 rfl rfl rfl rfl ?_
  refine me1 (pc' := 70) dm_X12_keep_69 rfl rfl rfl rfl ?_
  refine me0 (pc' := 71) (S' := .int (240 : Int32) :: _) dm_X12_keep_70 rfl rfl rfl rfl ?_
  refine me1 (pc' := 72) dm_X12_keep_71 rfl rfl rfl rfl ?_
  refine me0 (pc' := 73) (S' := .int (244 : Int32) :: _) dm_X12_keep_72 rfl rfl rfl rfl ?_
  refine me1 (pc' := 74) dm_X12_keep_73 rfl rfl rfl rfl ?_
  refine me3 (pc' := 77) dm_X12_keep_74 (g_get (v := .ref 112) (lu (n := 102) (j := 0) hn rfl) rfl rfl (Nat.le_of_ble_eq_true rfl)) rfl rfl rfl ?_
  refine me1 (pc' := 78) dm_X12_keep_77 rfl rfl rfl rfl ?_
  refine me3 (pc' := 79) dm_X12_keep_78 (g_iald (v := (0 : Int32)) (lu (n := 102) (j := 10) hn rfl) rfl (by decide) rfl (Nat.le_of_ble_eq_true rfl)) rfl rfl rfl ?_
  refine me3 (pc' := 80) dm_X12_keep_79 (u_iast (n := 102) (j := 13) hn rfl rfl (by decide) rfl (Nat.le_of_ble_eq_true rfl)) rfl rfl rfl ?_
  refine me1 (pc' := 81) dm_X12_keep_80 rfl rfl rfl rfl ?_
  refine me3 (pc' := 84) dm_X12_keep_81 (g_get (v := .ref 114) (lu (n := 102) (j := 0) hn rfl) rfl rfl (Nat.le_of_ble_eq_true rfl)) rfl rfl rfl ?_
  refine me0 (pc' := 86) (S' := .int (80 : Int32) :: _) dm_X12_keep_84 rfl rfl rfl rfl ?_
  refine me1 (pc' := 87) dm_X12_keep_86 rfl rfl rfl rfl ?_
  refine me0 (pc' := 88) (S' := .int (240 : Int32) :: _) dm_X12_keep_87 rfl rfl rfl rfl ?_
  refine me0 (pc' := 90) (S' := .int (40 : Int32) :: _) dm_X12_keep_88 rfl rfl rfl rfl ?_
  refine me0 (pc' := 91) (S' := .int (280 : Int32) :: _) dm_X12_keep_90 rfl rfl rfl rfl ?_
  refine me1 (pc' := 92) dm_X12_keep_91 rfl rfl rfl rfl ?_
  refine me0 (pc' := 93) (S' := .int (284 : Int32) :: _) dm_X12_keep_92 rfl rfl rfl rfl ?_
  refine me1 (pc' := 94) dm_X12_keep_93 rfl rfl rfl rfl ?_
  refine me3 (pc' := 97) dm_X12_keep_94 (g_get (v := .ref 111) (lu (n := 102) (j := 0) hn rfl) rfl rfl (Nat.le_of_ble_eq_true rfl)) rfl rfl rfl ?_
  refine me1 (pc' := 98) dm_X12_keep_97 rfl rfl rfl rfl ?_
  refine me3 (pc' := 99) dm_X12_keep_98 (g_lald (v := (0 : Int64)) (lu (n := 102) (j := 9) hn rfl) rfl (by decide) rfl (Nat.le_of_ble_eq_true rfl)) rfl rfl rfl ?_
  refine me3 (pc' := 100) dm_X12_keep_99 (u_last (n := 102) (j := 12) hn rfl rfl (by decide) rfl (Nat.le_of_ble_eq_true rfl)) rfl rfl rfl ?_
  refine me1 (pc' := 101) dm_X12_keep_100 rfl rfl rfl rfl ?_
  refine me3 (pc' := 104) dm_X12_keep_101 (g_get (v := .ref 115) (lu (n := 102) (j := 0) hn rfl) rfl rfl (Nat.le_of_ble_eq_true rfl)) rfl rfl rfl ?_
  refine me0 (pc' := 106) (S' := .int (80 : Int32) :: _) dm_X12_keep_104 rfl rfl rfl rfl ?_
  refine me1 (pc' := 107) dm_X12_keep_106 rfl rfl rfl rfl ?_
  refine me0 (pc' := 108) (S' := .int (240 : Int32) :: _) dm_X12_keep_107 rfl rfl rfl rfl ?_
  refine me0 (pc' := 110) (S' := .int (40 : Int32) :: _) dm_X12_keep_108 rfl rfl rfl rfl ?_
  refine me0 (pc' := 111) (S' := .int (280 : Int32) :: _) dm_X12_keep_110 rfl rfl rfl rfl ?_
  refine me1 (pc' := 112) dm_X12_keep_111 rfl rfl rfl rfl ?_
  refine me0 (pc' := 113) (S' := .int (284 : Int32) :: _) dm_X12_keep_112 rfl rfl rfl rfl ?_
  refine me1 (pc' := 114) dm_X12_keep_113 rfl rfl rfl rfl ?_
  refine me3 (pc' := 117) dm_X12_keep_114 (g_get (v := .ref 113) (lu (n := 102) (j := 0) hn rfl) rfl rfl (Nat.le_of_ble_eq_true rfl)) rfl rfl rfl ?_
  refine me1 (pc' := 118) dm_X12_keep_117 rfl rfl rfl rfl ?_
  refine me3 (pc' := 119) dm_X12_keep_118 (g_iald (v := (0 : Int32)) (lu (n := 102) (j := 11) hn rfl) rfl (by decide) rfl (Nat.le_of_ble_eq_true rfl)) rfl rfl rfl ?_
  refine me3 (pc' := 120) dm_X12_keep_119 (u_iast (n := 102) (j := 13) hn rfl rfl (by decide) rfl (Nat.le_of_ble_eq_true rfl)) rfl rfl rfl ?_
  refine me1 (pc' := 123) (L' := [(2, .int (5 : Int32)), (0, .ref 102), (1, .int (3 : Int32))]) dm_X12_keep_120 rfl rfl rfl rfl ?_
  refine me2 (pc' := 40) dm_X12_keep_123 rfl rfl rfl ?_
  refine me1 (pc' := 41) dm_X12_keep_40 rfl rfl rfl rfl ?_
  refine me0 (pc' := 43) (S' := .int (40 : Int32) :: _) dm_X12_keep_41 rfl rfl rfl rfl ?_
  refine me_2f (pc' := 46) dm_X12_keep_43 rfl (by decide) rfl ?_
  refine me1 (pc' := 47) dm_X12_keep_46 rfl rfl rfl rfl ?_
  refine me3 (pc' := 50) dm_X12_keep_47 (g_get (v := .ref 114) (lu (n := 102) (j := 0) hn rfl) rfl rfl (Nat.le_of_ble_eq_true rfl)) rfl rfl rfl ?_
  refine me0 (pc' := 52) (S' := .int (80 : Int32) :: _) dm_X12_keep_50 rfl rfl rfl rfl ?_
  refine me1 (pc' := 53) dm_X12_keep_52 rfl rfl rfl rfl ?_
  refine me0 (pc' := 54) (S' := .int (240 : Int32) :: _) dm_X12_keep_53 rfl rfl rfl rfl ?_
  refine me1 (pc' := 55) dm_X12_keep_54 rfl rfl rfl rfl ?_
  refine me0 (pc' := 56) (S' := .int (245 : Int32) :: _) dm_X12_keep_55 rfl rfl rfl rfl ?_
  refine me1 (pc' := 57) dm_X12_keep_56 rfl rfl rfl rfl ?_
  refine me3 (pc' := 60) dm_X12_keep_57 (g_get (v := .ref 110) (lu (n := 102) (j := 0) hn rfl) rfl rfl (Nat.le_of_ble_eq_true rfl)) rfl rfl rfl ?_
  refine me1 (pc' := 61) dm_X12_keep_60 rfl rfl rfl rfl ?_
  refine me3 (pc' := 62) dm_X12_keep_61 (g_lald (v := (0 : Int64)) (lu (n := 102) (j := 8) hn rfl) rfl (by decide) rfl (Nat.le_of_ble_eq_true rfl)) rfl rfl rfl ?_
  refine me3 (pc' := 63) dm_X12_keep_62 (u_last (n := 102) (j := 12) hn rfl rfl (by decide) rfl (Nat.le_of_ble_eq_true rfl)) rfl rfl rfl ?_
  refine me1 (pc' := 64) dm_X12_keep_63 rfl rfl rfl rfl ?_
  refine me3 (pc' := 67) dm_X12_keep_64 (g_get (v := .ref 115) (lu (n := 102) (j := 0) hn rfl) rfl rfl (Nat.le_of_ble_eq_true rfl)) rfl rfl rfl ?_
  refine me0 (pc' := 69) (S' := .int (80 : Int32) :: _) dm_X12_keep_67 rfl rfl rfl rfl ?_
  refine me1 (pc' := 70) dm_X12_keep_69 rfl rfl rfl rfl ?_
  refine me0 (pc' := 71) (S' := .int (240 : Int32) :: _) dm_X12_keep_70 rfl rfl rfl rfl ?_
  refine me1 (pc' := 72) dm_X12_keep_71 rfl rfl rfl rfl ?_
  refine me0 (pc' := 73) (S' := .int (245 : Int32) :: _) dm_X12_keep_72 rfl rfl rfl rfl ?_
  refine me1 (pc' := 74) dm_X12_keep_73 rfl rfl rfl rfl ?_
  refine me3 (pc' := 77) dm_X12_keep_74 (g_get (v := .ref 112) (lu (n := 102) (j := 0) hn rfl) rfl rfl (Nat.le_of_ble_eq_true rfl)) rfl rfl rfl ?_
  refine me1 (pc' := 78) dm_X12_keep_77 rfl rfl rfl rfl ?_
  refine me3 (pc' := 79) dm_X12_keep_78 (g_iald (v := (0 : Int32)) (lu (n := 102) (j := 10) hn rfl) rfl (by decide) rfl (Nat.le_of_ble_eq_true rfl)) rfl rfl rfl ?_
  refine me3 (pc' := 80) dm_X12_keep_79 (u_iast (n := 102) (j := 13) hn rfl rfl (by decide) rfl (Nat.le_of_ble_eq_true rfl)) rfl rfl rfl ?_
  refine me1 (pc' := 81) dm_X12_keep_80 rfl rfl rfl rfl ?_
  refine me3 (pc' := 84) dm_X12_keep_81 (g_get (v := .ref 114) (lu (n := 102) (j := 0) hn rfl) rfl rfl (Nat.le_of_ble_eq_true rfl)) rfl rfl rfl ?_
  refine me0 (pc' := 86) (S' := .int (80 : Int32) :: _) dm_X12_keep_84 rfl rfl rfl rfl ?_
  refine me1 (pc' := 87) dm_X12_keep_86 rfl rfl rfl rfl ?_
  refine me0 (pc' := 88) (S' := .int (240 : Int32) :: _) dm_X12_keep_87 rfl rfl rfl rfl ?_
  refine me0 (pc' := 90) (S' := .int (40 : Int32) :: _) dm_X12_keep_88 rfl rfl rfl rfl ?_
  refine me0 (pc' := 91) (S' := .int (280 : Int32) :: _) dm_X12_keep_90 rfl rfl rfl rfl ?_
  refine me1 (pc' := 92) dm_X12_keep_91 rfl rfl rfl rfl ?_
  refine me0 (pc' := 93) (S' := .int (285 : Int32) :: _) dm_X12_keep_92 rfl rfl rfl rfl ?_
  refine me1 (pc' := 94) dm_X12_keep_93 rfl rfl rfl rfl ?_
  refine me3 (pc' := 97) dm_X12_keep_94 (g_get (v := .ref 111) (lu (n := 102) (j := 0) hn rfl) rfl rfl (Nat.le_of_ble_eq_true rfl)) rfl rfl rfl ?_
  refine me1 (pc' := 98) dm_X12_keep_97 rfl rfl rfl rfl ?_
  refine me3 (pc' := 99) dm_X12_keep_98 (g_lald (v := (0 : Int64)) (lu (n := 102) (j := 9) hn rfl) rfl (by decide) rfl (Nat.le_of_ble_eq_true rfl)) rfl rfl rfl ?_
  refine me3 (pc' := 100) dm_X12_keep_99 (u_last (n := 102) (j := 12) hn rfl rfl (by decide) rfl (Nat.le_of_ble_eq_true rfl)) rfl rfl rfl ?_
  refine me1 (pc' := 101) dm_X12_keep_100 rfl rfl rfl rfl ?_
  refine me3 (pc' := 104) dm_X12_keep_101 (g_get (v := .ref 115) (lu (n := 102) (j := 0) hn rfl) rfl rfl (Nat.le_of_ble_eq_true rfl)) rfl rfl rfl ?_
  refine me0 (pc' := 106) (S' := .int (80 : Int32) :: _) dm_X12_keep_104 rfl rfl rfl rfl ?_
  refine me1 (pc' := 107) dm_X12_keep_106 rfl rfl rfl rfl ?_
  refine me0 (pc' := 108) (S' := .int (240 : Int32) :: _) dm_X12_keep_107 rfl rfl rfl rfl ?_
  refine me0 (pc' := 110) (S' := .int (40 : Int32) :: _) dm_X12_keep_108 rfl rfl rfl rfl ?_
  refine me0 (pc' := 111) (S' := .int (280 : Int32) :: _) dm_X12_keep_110 rfl rfl rfl rfl ?_
  refine me1 (pc' := 112) dm_X12_keep_111 rfl rfl rfl rfl ?_
  refine me0 (pc' := 113) (S' := .int (285 : Int32) :: _) dm_X12_keep_112 rfl rfl rfl rfl ?_
  refine me1 (pc' := 114) dm_X12_keep_113 rfl rfl rfl rfl ?_
  refine me3 (pc' := 117) dm_X12_keep_114 (g_get (v := .ref 113) (lu (n := 102) (j := 0) hn rfl) rfl rfl (Nat.le_of_ble_eq_true rfl)) rfl rfl rfl ?_
  refine me1 (pc' := 118) dm_X12_keep_117 rfl rfl rfl rfl ?_
  refine me3 (pc' := 119) dm_X12_keep_118 (g_iald (v := (0 : Int32)) (lu (n := 102) (j := 11) hn rfl) rfl (by decide) rfl (Nat.le_of_ble_eq_true rfl)) rfl rfl rfl ?_
  refine me3 (pc' := 120) dm_X12_keep_119 (u_iast (n := 102) (j := 13) hn rfl rfl (by decide) rfl (Nat.le_of_ble_eq_true rfl)) rfl rfl rfl ?_
  refine me1 (pc' := 123) (L' := [(2, .int (6 : Int32)), (0, .ref 102), (1, .int (3 : Int32))]) dm_X12_keep_120 rfl rfl rfl rfl ?_
  refine me2 (pc' := 40) dm_X12_keep_123 rfl rfl rfl ?_
  refine me1 (pc' := 41) dm_X12_keep_40 rfl rfl rfl rfl ?_
  refine me0 (pc' := 43) (S' := .int (40 : Int32) :: _) dm_X12_keep_41 rfl rfl rfl rfl ?_
  refine me_2f (pc' := 46) dm_X12_keep_43 rfl (by decide) rfl ?_
  refine me1 (pc' := 47) dm_X12_keep_46 rfl rfl rfl rfl ?_
  refine me3 (pc' := 50) dm_X12_keep_47 (g_get (v := .ref 114) (lu (n := 102) (j := 0) hn rfl) rfl rfl (Nat.le_of_ble_eq_true rfl)) rfl rfl rfl ?_
  refine me0 (pc' := 52) (S' := .int (80 : Int32) :: _) dm_X12_keep_50 rfl rfl rfl rfl ?_
  refine me1 (pc' := 53) dm_X12_keep_52 rfl rfl rfl rfl ?_
  refine me0 (pc' := 54) (S' := .int (240 : Int32) :: _) dm_X12_keep_53 rfl rfl rfl rfl ?_
  refine me1 (pc' := 55) dm_X12_keep_54 rfl rfl rfl rfl ?_
  refine me0 (pc' := 56) (S' := .int (246 : Int32) :: _) dm_X12_keep_55 rfl rfl rfl rfl ?_
  refine me1 (pc' := 57) dm_X12_keep_56 rfl rfl rfl rfl ?_
  refine me3 (pc' := 60) dm_X12_keep_57 (g_get (v := .ref 110) (lu (n := 102) (j := 0) hn rfl) rfl rfl (Nat.le_of_ble_eq_true rfl)) rfl rfl rfl ?_
  refine me1 (pc' := 61) dm_X12_keep_60 rfl rfl rfl rfl ?_
  refine me3 (pc' := 62) dm_X12_keep_61 (g_lald (v := (0 : Int64)) (lu (n := 102) (j := 8) hn rfl) rfl (by decide) rfl (Nat.le_of_ble_eq_true rfl)) rfl rfl rfl ?_
  refine me3 (pc' := 63) dm_X12_keep_62 (u_last (n := 102) (j := 12) hn rfl rfl (by decide) rfl (Nat.le_of_ble_eq_true rfl)) rfl rfl rfl ?_
  refine me1 (pc' := 64) dm_X12_keep_63 rfl rfl rfl rfl ?_
  refine me3 (pc' := 67) dm_X12_keep_64 (g_get (v := .ref 115) (lu (n := 102) (j := 0) hn rfl) rfl rfl (Nat.le_of_ble_eq_true rfl)) rfl rfl rfl ?_
  refine me0 (pc' := 69) (S' := .int (80 : Int32) :: _) dm_X12_keep_67 rfl rfl rfl rfl ?_
  refine me1 (pc' := 70) dm_X12_keep_69 rfl rfl rfl rfl ?_
  refine me0 (pc' := 71) (S' := .int (240 : Int32) :: _) dm_X12_keep_70 rfl rfl rfl rfl ?_
  refine me1 (pc' := 72) dm_X12_keep_71 rfl rfl rfl rfl ?_
  refine me0 (pc' := 73) (S' := .int (246 : Int32) :: _) dm_X12_keep_72 rfl rfl rfl rfl ?_
  refine me1 (pc' := 74) dm_X12_keep_73 rfl rfl rfl rfl ?_
  refine me3 (pc' := 77) dm_X12_keep_74 (g_get (v := .ref 112) (lu (n := 102) (j := 0) hn rfl) rfl rfl (Nat.le_of_ble_eq_true rfl)) rfl rfl rfl ?_
  refine me1 (pc' := 78) dm_X12_keep_77 rfl rfl rfl rfl ?_
  refine me3 (pc' := 79) dm_X12_keep_78 (g_iald (v := (0 : Int32)) (lu (n := 102) (j := 10) hn rfl) rfl (by decide) rfl (Nat.le_of_ble_eq_true rfl)) rfl rfl rfl ?_
  refine me3 (pc' := 80) dm_X12_keep_79 (u_iast (n := 102) (j := 13) hn rfl rfl (by decide) rfl (Nat.le_of_ble_eq_true rfl)) rfl rfl rfl ?_
  refine me1 (pc' := 81) dm_X12_keep_80 rfl rfl rfl rfl ?_
  refine me3 (pc' := 84) dm_X12_keep_81 (g_get (v := .ref 114) (lu (n := 102) (j := 0) hn rfl) rfl rfl (Nat.le_of_ble_eq_true rfl)) rfl rfl rfl ?_
  refine me0 (pc' := 86) (S' := .int (80 : Int32) :: _) dm_X12_keep_84 rfl rfl rfl rfl ?_
  refine me1 (pc' := 87) dm_X12_keep_86 rfl rfl rfl rfl ?_
  refine me0 (pc' := 88) (S' := .int (240 : Int32) :: _) dm_X12_keep_87 rfl rfl rfl rfl ?_
  refine me0 (pc' := 90) (S' := .int (40 : Int32) :: _) dm_X12_keep_88 rfl rfl rfl rfl ?_
  refine me0 (pc' := 91) (S' := .int (280 : Int32) :: _) dm_X12_keep_90 rfl rfl rfl rfl ?_
  refine me1 (pc' := 92) dm_X12_keep_91 rfl rfl rfl rfl ?_
  refine me0 (pc' := 93) (S' := .int (286 : Int32) :: _) dm_X12_keep_92 rfl rfl rfl rfl ?_
  refine me1 (pc' := 94) dm_X12_keep_93 rfl rfl rfl rfl ?_
  refine me3 (pc' := 97) dm_X12_keep_94 (g_get (v := .ref 111) (lu (n := 102) (j := 0) hn rfl) rfl rfl (Nat.le_of_ble_eq_true rfl)) rfl rfl rfl ?_
  refine me1 (pc' := 98) dm_X12_keep_97 rfl rfl rfl rfl ?_
  refine me3 (pc' := 99) dm_X12_keep_98 (g_lald (v := (0 : Int64)) (lu (n := 102) (j := 9) hn rfl) rfl (by decide) rfl (Nat.le_of_ble_eq_true rfl)) rfl rfl rfl ?_
  refine me3 (pc' := 100) dm_X12_keep_99 (u_last (n := 102) (j := 12) hn rfl rfl (by decide) rfl (Nat.le_of_ble_eq_true rfl)) rfl rfl rfl ?_
  refine me1 (pc' := 101) dm_X12_keep_100 rfl rfl rfl rfl ?_
  refine me3 (pc' := 104) dm_X12_keep_101 (g_get (v := .ref 115) (lu (n := 102) (j := 0) hn rfl) rfl rfl (Nat.le_of_ble_eq_true rfl)) rfl rfl rfl ?_
  refine me0 (pc' := 106) (S' := .int (80 : Int32) :: _) dm_X12_keep_104 rfl rfl rfl rfl ?_
  refine me1 (pc' := 107) dm_X12_keep_106 rfl rfl rfl rfl ?_
  refine me0 (pc' := 108) (S' := .int (240 : Int32) :: _) dm_X12_keep_107 rfl rfl rfl rfl ?_
  refine me0 (pc' := 110) (S' := .int (40 : Int32) :: _) dm_X12_keep_108 rfl rfl rfl rfl ?_
  refine me0 (pc' := 111) (S' := .int (280 : Int32) :: _) dm_X12_keep_110 rfl rfl rfl rfl ?_
  refine me1 (pc' := 112) dm_X12_keep_111 rfl rfl rfl rfl ?_
  refine me0 (pc' := 113) (S' := .int (286 : Int32) :: _) dm_X12_keep_112 rfl rfl rfl rfl ?_
  refine me1 (pc' := 114) dm_X12_keep_113 rfl rfl rfl rfl ?_
  refine me3 (pc' := 117) dm_X12_keep_114 (g_get (v := .ref 113) (lu (n := 102) (j := 0) hn rfl) rfl rfl (Nat.le_of_ble_eq_true rfl)) rfl rfl rfl ?_
  refine me1 (pc' := 118) dm_X12_keep_117 rfl rfl rfl rfl ?_
  refine me3 (pc' := 119) dm_X12_keep_118 (g_iald (v := (0 : Int32)) (lu (n := 102) (j := 11) hn rfl) rfl (by decide) rfl (Nat.le_of_ble_eq_true rfl)) rfl rfl rfl ?_
  refine me3 (pc' := 120) dm_X12_keep_119 (u_iast (n := 102) (j := 13) hn rfl rfl (by decide) rfl (Nat.le_of_ble_eq_true rfl)) rfl rfl rfl ?_
  refine me1 (pc' := 123) (L' := [(2, .int (7 : Int32)), (0, .ref 102), (1, .int (3 : Int32))]) dm_X12_keep_120 rfl rfl rfl rfl ?_
  refine me2 (pc' := 40) dm_X12_keep_123 rfl rfl rfl ?_
  refine me1 (pc' := 41) dm_X12_keep_40 rfl rfl rfl rfl ?_
  refine me0 (pc' := 43) (S' := .int (40 : Int32) :: _) dm_X12_keep_41 rfl rfl rfl rfl ?_
  refine me_2f (pc' := 46) dm_X12_keep_43 rfl (by decide) rfl ?_
  refine me1 (pc' := 47) dm_X12_keep_46 rfl rfl rfl rfl ?_
  refine me3 (pc' := 50) dm_X12_keep_47 (g_get (v := .ref 114) (lu (n := 102) (j := 0) hn rfl) rfl rfl (Nat.le_of_ble_eq_true rfl)) rfl rfl rfl ?_
  refine me0 (pc' := 52) (S' := .int (80 : Int32) :: _) dm_X12_keep_50 rfl rfl rfl rfl ?_
  refine me1 (pc' := 53) dm_X12_keep_52 rfl rfl rfl rfl ?_
  refine me0 (pc' := 54) (S' := .int (240 : Int32) :: _) dm_X12_keep_53 rfl rfl rfl rfl ?_
  refine me1 (pc' := 55) dm_X12_keep_54 rfl rfl rfl rfl ?_
  refine me0 (pc' := 56) (S' := .int (247 : Int32) :: _) dm_X12_keep_55 rfl rfl rfl rfl ?_
  refine me1 (pc' := 57) dm_X12_keep_56 rfl rfl rfl rfl ?_
  refine me3 (pc' := 60) dm_X12_keep_57 (g_get (v := .ref 110) (lu (n := 102) (j := 0) hn rfl) rfl rfl (Nat.le_of_ble_eq_true rfl)) rfl rfl rfl ?_
  refine me1 (pc' := 61) dm_X12_keep_60 rfl rfl rfl rfl ?_
  refine me3 (pc' := 62) dm_X12_keep_61 (g_lald (v := (0 : Int64)) (lu (n := 102) (j := 8) hn rfl) rfl (by decide) rfl (Nat.le_of_ble_eq_true rfl)) rfl rfl rfl ?_
  refine me3 (pc' := 63) dm_X12_keep_62 (u_last (n := 102) (j := 12) hn rfl rfl (by decide) rfl (Nat.le_of_ble_eq_true rfl)) rfl rfl rfl ?_
  refine me1 (pc' := 64) dm_X12_keep_63 rfl rfl rfl rfl ?_
  refine me3 (pc' := 67) dm_X12_keep_64 (g_get (v := .ref 115) (lu (n := 102) (j := 0) hn rfl) rfl rfl (Nat.le_of_ble_eq_true rfl)) rfl rfl rfl ?_
  refine me0 (pc' := 69) (S' := .int (80 : Int32) :: _) dm_X12_keep_67 rfl rfl rfl rfl ?_
  refine me1 (pc' := 70) dm_X12_keep_69 rfl rfl rfl rfl ?_
  refine me0 (pc' := 71) (S' := .int (240 : Int32) :: _) dm_X12_keep_70 rfl rfl rfl rfl ?_
  refine me1 (pc' := 72) dm_X12_keep_71 rfl rfl rfl rfl ?_
  refine me0 (pc' := 73) (S' := .int (247 : Int32) :: _) dm_X12_keep_72 rfl rfl rfl rfl ?_
  refine me1 (pc' := 74) dm_X12_keep_73 rfl rfl rfl rfl ?_
  refine me3 (pc' := 77) dm_X12_keep_74 (g_get (v := .ref 112) (lu (n := 102) (j := 0) hn rfl) rfl rfl (Nat.le_of_ble_eq_true rfl)) rfl rfl rfl ?_
  refine me1 (pc' := 78) dm_X12_keep_77 rfl rfl rfl rfl ?_
  refine me3 (pc' := 79) dm_X12_keep_78 (g_iald (v := (0 : Int32)) (lu (n := 102) (j := 10) hn rfl) rfl (by decide) rfl (Nat.le_of_ble_eq_true rfl)) rfl rfl rfl ?_
  refine me3 (pc' := 80) dm_X12_keep_79 (u_iast (n := 102) (j := 13) hn rfl rfl (by decide) rfl (Nat.le_of_ble_eq_true rfl)) rfl rfl rfl ?_
  refine me1 (pc' := 81) dm_X12_keep_80 rfl rfl rfl rfl ?_
  refine me3 (pc' := 84) dm_X12_keep_81 (g_get (v := .ref 114) (lu (n := 102) (j := 0) hn rfl) rfl rfl (Nat.le_of_ble_eq_true rfl)) rfl rfl rfl ?_
  refine me0 (pc' := 86) (S' := .int (80 : Int32) :: _) dm_X12_keep_84 rfl rfl rfl rfl ?_
  refine me1 (pc' := 87) dm_X12_keep_86 rfl rfl rfl rfl ?_
  refine me0 (pc' := 88) (S' := .int (240 : Int32) :: _) dm_X12_keep_87 rfl rfl rfl rfl ?_
  refine me0 (pc' := 90) (S' := .int (40 : Int32) :: _) dm_X12_keep_88 rfl rfl rfl rfl ?_
  refine me0 (pc' := 91) (S' := .int (280 : Int32) :: _) dm_X12_keep_90 rfl rfl rfl rfl ?_
  refine me1 (pc' := 92) dm_X12_keep_91 rfl rfl rfl rfl ?_
  refine me0 (pc' := 93) (S' := .int (287 : Int32) :: _) dm_X12_keep_92 rfl rfl rfl rfl ?_
  refine me1 (pc' := 94) dm_X12_keep_93 rfl rfl rfl rfl ?_
  refine me3 (pc' := 97) dm_X12_keep_94 (g_get (v := .ref 111) (lu (n := 102) (j := 0) hn rfl) rfl rfl (Nat.le_of_ble_eq_true rfl)) rfl rfl rfl ?_
  refine me1 (pc' := 98) dm_X12_keep_97 rfl rfl rfl rfl ?_
  refine me3 (pc' := 99) dm_X12_keep_98 (g_lald (v := (0 : Int64)) (lu (n := 102) (j := 9) hn rfl) rfl (by decide) rfl (Nat.le_of_ble_eq_true rfl)) rfl rfl rfl ?_
  refine me3 (pc' := 100) dm_X12_keep_99 (u_last (n := 102) (j := 12) hn rfl rfl (by decide) rfl (Nat.le_of_ble_eq_true rfl)) rfl rfl rfl ?_
  refine me1 (pc' := 101) dm_X12_keep_100 rfl rfl rfl rfl ?_
  refine me3 (pc' := 104) dm_X12_keep_101 (g_get (v := .ref 115) (lu (n := 102) (j := 0) hn rfl) rfl rfl (Nat.le_of_ble_eq_true rfl)) rfl rfl rfl ?_
  refine me0 (pc' := 106) (S' := .int (80 : Int32) :: _) dm_X12_keep_104 rfl rfl rfl rfl ?_
  refine me1 (pc' := 107) dm_X12_keep_106 rfl rfl rfl rfl ?_
  refine me0 (pc' := 108) (S' := .int (240 : Int32) :: _) dm_X12_keep_107 rfl rfl rfl rfl ?_
  refine me0 (pc' := 110) (S' := .int (40 : Int32) :: _) dm_X12_keep_108 rfl rfl rfl rfl ?_
  refine me0 (pc' := 111) (S' := .int (280 : Int32) :: _) dm_X12_keep_110 rfl rfl rfl rfl ?_
  refine me1 (pc' := 112) dm_X12_keep_111 rfl rfl rfl rfl ?_
  refine me0 (pc' := 113) (S' := .int (287 : Int32) :: _) dm_X12_keep_112 rfl rfl rfl rfl ?_
  refine me1 (pc' := 114) dm_X12_keep_113 rfl rfl rfl rfl ?_
  refine me3 (pc' := 117) dm_X12_keep_114 (g_get (v := .ref 113) (lu (n := 102) (j := 0) hn rfl) rfl rfl (Nat.le_of_ble_eq_true rfl)) rfl rfl rfl ?_
  refine me1 (pc' := 118) dm_X12_keep_117 rfl rfl rfl rfl ?_
  refine me3 (pc' := 119) dm_X12_keep_118 (g_iald (v := (0 : Int32)) (lu (n := 102) (j := 11) hn rfl) rfl (by decide) rfl (Nat.le_of_ble_eq_true rfl)) rfl rfl rfl ?_
  refine me3 (pc' := 120) dm_X12_keep_119 (u_iast (n := 102) (j := 13) hn rfl rfl (by decide) rfl (Nat.le_of_ble_eq_true rfl)) rfl rfl rfl ?_
  refine me1 (pc' := 123) (L' := [(2, .int (8 : Int32)), (0, .ref 102), (1, .int (3 : Int32))]) dm_X12_keep_120 rfl rfl rfl rfl ?_
  refine me2 (pc' := 40) dm_X12_keep_123 rfl rfl rfl ?_
  refine me1 (pc' := 41) dm_X12_keep_40 rfl rfl rfl rfl ?_
  refine me0 (pc' := 43) (S' := .int (40 : Int32) :: _) dm_X12_keep_41 rfl rfl rfl rfl ?_
  refine me_2f (pc' := 46) dm_X12_keep_43 rfl (by decide) rfl ?_
  refine me1 (pc' := 47) dm_X12_keep_46 rfl rfl rfl rfl ?_
  refine me3 (pc' := 50) dm_X12_keep_47 (g_get (v := .ref 114) (lu (n := 102) (j := 0) hn rfl) rfl rfl (Nat.le_of_ble_eq_true rfl)) rfl rfl rfl ?_
  refine me0 (pc' := 52) (S' := .int (80 : Int32) :: _) dm_X12_keep_50 rfl rfl rfl rfl ?_
  refine me1 (pc' := 53) dm_X12_keep_52 rfl rfl rfl rfl ?_
  refine me0 (pc' := 54) (S' := .int (240 : Int32) :: _) dm_X12_keep_53 rfl rfl rfl rfl ?_
  refine me1 (pc' := 55) dm_X12_keep_54 rfl rfl rfl rfl ?_
  refine me0 (pc' := 56) (S' := .int (248 : Int32) :: _) dm_X12_keep_55 rfl rfl rfl rfl ?_
  refine me1 (pc' := 57) dm_X12_keep_56 rfl rfl rfl rfl ?_
  refine me3 (pc' := 60) dm_X12_keep_57 (g_get (v := .ref 110) (lu (n := 102) (j := 0) hn rfl) rfl rfl (Nat.le_of_ble_eq_true rfl)) rfl rfl rfl ?_
  refine me1 (pc' := 61) dm_X12_keep_60 rfl rfl rfl rfl ?_
  refine me3 (pc' := 62) dm_X12_keep_61 (g_lald (v := (0 : Int64)) (lu (n := 102) (j := 8) hn rfl) rfl (by decide) rfl (Nat.le_of_ble_eq_true rfl)) rfl rfl rfl ?_
  refine me3 (pc' := 63) dm_X12_keep_62 (u_last (n := 102) (j := 12) hn rfl rfl (by decide) rfl (Nat.le_of_ble_eq_true rfl)) rfl rfl rfl ?_
  refine me1 (pc' := 64) dm_X12_keep_63 rfl rfl rfl rfl ?_
  refine me3 (pc' := 67) dm_X12_keep_64 (g_get (v := .ref 115) (lu (n := 102) (j := 0) hn rfl) rfl rfl (Nat.le_of_ble_eq_true rfl)) rfl rfl rfl ?_
  refine me0 (pc' := 69) (S' := .int (80 : Int32) :: _) dm_X12_keep_67 rfl rfl rfl rfl ?_
  refine me1 (pc' := 70) dm_X12_keep_69 rfl rfl rfl rfl ?_
  refine me0 (pc' := 71) (S' := .int (240 : Int32) :: _) dm_X12_keep_70 rfl rfl rfl rfl ?_
  refine me1 (pc' := 72) dm_X12_keep_71 rfl rfl rfl rfl ?_
  refine me0 (pc' := 73) (S' := .int (248 : Int32) :: _) dm_X12_keep_72 rfl rfl rfl rfl ?_
  refine me1 (pc' := 74) dm_X12_keep_73 rfl rfl rfl rfl ?_
  refine me3 (pc' := 77) dm_X12_keep_74 (g_get (v := .ref 112) (lu (n := 102) (j := 0) hn rfl) rfl rfl (Nat.le_of_ble_eq_true rfl)) rfl rfl rfl ?_
  refine me1 (pc' := 78) dm_X12_keep_77 rfl rfl rfl rfl ?_
  refine me3 (pc' := 79) dm_X12_keep_78 (g_iald (v := (0 : Int32)) (lu (n := 102) (j := 10) hn rfl) rfl (by decide) rfl (Nat.le_of_ble_eq_true rfl)) rfl rfl rfl ?_
  refine me3 (pc' := 80) dm_X12_keep_79 (u_iast (n := 102) (j := 13) hn rfl rfl (by decide) rfl (Nat.le_of_ble_eq_true rfl)) rfl rfl rfl ?_
  refine me1 (pc' := 81) dm_X12_keep_80 rfl rfl rfl rfl ?_
  refine me3 (pc' := 84) dm_X12_keep_81 (g_get (v := .ref 114) (lu (n := 102) (j := 0) hn rfl) rfl rfl (Nat.le_of_ble_eq_true rfl)) rfl rfl rfl ?_
  refine me0 (pc' := 86) (S' := .int (80 : Int32) :: _) dm_X12_keep_84 rfl rfl rfl rfl ?_
  refine me1 (pc' := 87) dm_X12_keep_86 rfl rfl rfl rfl ?_
  refine me0 (pc' := 88) (S' := .int (240 : Int32) :: _) dm_X12_keep_87 rfl rfl rfl rfl ?_
  refine me0 (pc' := 90) (S' := .int (40 : Int32) :: _) dm_X12_keep_88 rfl rfl rfl rfl ?_
  refine me0 (pc' := 91) (S' := .int (280 : Int32) :: _) dm_X12_keep_90 rfl rfl rfl rfl ?_
  refine me1 (pc' := 92) dm_X12_keep_91 rfl rfl rfl rfl ?_
  refine me0 (pc' := 93) (S' := .int (288 : Int32) :: _) dm_X12_keep_92 rfl rfl rfl rfl ?_
  refine me1 (pc' := 94) dm_X12_keep_93 rfl rfl rfl rfl ?_
  refine me3 (pc' := 97) dm_X12_keep_94 (g_get (v := .ref 111) (lu (n := 102) (j := 0) hn rfl) rfl rfl (Nat.le_of_ble_eq_true rfl)) rfl rfl rfl ?_
  refine me1 (pc' := 98) dm_X12_keep_97 rfl rfl rfl rfl ?_
  refine me3 (pc' := 99) dm_X12_keep_98 (g_lald (v := (0 : Int64)) (lu (n := 102) (j := 9) hn rfl) rfl (by decide) rfl (Nat.le_of_ble_eq_true rfl)) rfl rfl rfl ?_
  refine me3 (pc' := 100) dm_X12_keep_99 (u_last (n := 102) (j := 12) hn rfl rfl (by decide) rfl (Nat.le_of_ble_eq_true rfl)) rfl rfl rfl ?_
  refine me1 (pc' := 101) dm_X12_keep_100 rfl rfl rfl rfl ?_
  refine me3 (pc' := 104) dm_X12_keep_101 (g_get (v := .ref 115) (lu (n := 102) (j := 0) hn rfl) rfl rfl (Nat.le_of_ble_eq_true rfl)) rfl rfl rfl ?_
  refine me0 (pc' := 106) (S' := .int (80 : Int32) :: _) dm_X12_keep_104 rfl rfl rfl rfl ?_
  refine me1 (pc' := 107) dm_X12_keep_106 rfl rfl rfl rfl ?_
  refine me0 (pc' := 108) (S' := .int (240 : Int32) :: _) dm_X12_keep_107 rfl rfl rfl rfl ?_
  refine me0 (pc' := 110) (S' := .int (40 : Int32) :: _) dm_X12_keep_108 rfl rfl rfl rfl ?_
  refine me0 (pc' := 111) (S' := .int (280 : Int32) :: _) dm_X12_keep_110 rfl rfl rfl rfl ?_
  refine me1 (pc' := 112) dm_X12_keep_111 rfl rfl rfl rfl ?_
  refine me0 (pc' := 113) (S' := .int (288 : Int32) :: _) dm_X12_keep_112 rfl rfl rfl rfl ?_
  refine me1 (pc' := 114) dm_X12_keep_113 rfl rfl rfl rfl ?_
  refine me3 (pc' := 117) dm_X12_keep_114 (g_get (v := .ref 113) (lu (n := 102) (j := 0) hn rfl) rfl rfl (Nat.le_of_ble_eq_true rfl)) rfl rfl rfl ?_
  refine me1 (pc' := 118) dm_X12_keep_117 rfl rfl rfl rfl ?_
  refine me3 (pc' := 119) dm_X12_keep_118 (g_iald (v := (0 : Int32)) (lu (n := 102) (j := 11) hn rfl) rfl (by decide) rfl (Nat.le_of_ble_eq_true rfl)) rfl rfl rfl ?_
  refine me3 (pc' := 120) dm_X12_keep_119 (u_iast (n := 102) (j := 13) hn rfl rfl (by decide) rfl (Nat.le_of_ble_eq_true rfl)) rfl rfl rfl ?_
  refine me1 (pc' := 123) (L' := [(2, .int (9 : Int32)), (0, .ref 102), (1, .int (3 : Int32))]) dm_X12_keep_120 rfl rfl rfl rfl ?_
  refine me2 (pc' := 40) dm_X12_keep_123 rfl rfl rfl ?_
  refine me1 (pc' := 41) dm_X12_keep_40 rfl rfl rfl rfl ?_
  refine me0 (pc' := 43) (S' := .int (40 : Int32) :: _) dm_X12_keep_41 rfl rfl rfl rfl ?_
  refine me_2f (pc' := 46) dm_X12_keep_43 rfl (by decide) rfl ?_
  refine me1 (pc' := 47) dm_X12_keep_46 rfl rfl rfl rfl ?_
  refine me3 (pc' := 50) dm_X12_keep_47 (g_get (v := .ref 114) (lu (n := 102) (j := 0) hn rfl) rfl rfl (Nat.le_of_ble_eq_true rfl)) rfl rfl rfl ?_
  refine me0 (pc' := 52) (S' := .int (80 : Int32) :: _) dm_X12_keep_50 rfl rfl rfl rfl ?_
  refine me1 (pc' := 53) dm_X12_keep_52 rfl rfl rfl rfl ?_
  refine me0 (pc' := 54) (S' := .int (240 : Int32) :: _) dm_X12_keep_53 rfl rfl rfl rfl ?_
  refine me1 (pc' := 55) dm_X12_keep_54 rfl rfl rfl rfl ?_
  refine me0 (pc' := 56) (S' := .int (249 : Int32) :: _) dm_X12_keep_55 rfl rfl rfl rfl ?_
  refine me1 (pc' := 57) dm_X12_keep_56 rfl rfl rfl rfl ?_
  refine me3 (pc' := 60) dm_X12_keep_57 (g_get (v := .ref 110) (lu (n := 102) (j := 0) hn rfl) rfl rfl (Nat.le_of_ble_eq_true rfl)) rfl rfl rfl ?_
  refine me1 (pc' := 61) dm_X12_keep_60 rfl rfl rfl rfl ?_
  refine me3 (pc' := 62) dm_X12_keep_61 (g_lald (v := (0 : Int64)) (lu (n := 102) (j := 8) hn rfl) rfl (by decide) rfl (Nat.le_of_ble_eq_true rfl)) rfl rfl rfl ?_
  refine me3 (pc' := 63) dm_X12_keep_62 (u_last (n := 102) (j := 12) hn rfl rfl (by decide) rfl (Nat.le_of_ble_eq_true rfl)) rfl rfl rfl ?_
  refine me1 (pc' := 64) dm_X12_keep_63 rfl rfl rfl rfl ?_
  refine me3 (pc' := 67) dm_X12_keep_64 (g_get (v := .ref 115) (lu (n := 102) (j := 0) hn rfl) rfl rfl (Nat.le_of_ble_eq_true rfl)) rfl rfl rfl ?_
  refine me0 (pc' := 69) (S' := .int (80 : Int32) :: _) dm_X12_keep_67 rfl rfl rfl rfl ?_
  refine me1 (pc' := 70) dm_X12_keep_69 rfl rfl rfl rfl ?_
  refine me0 (pc' := 71) (S' := .int (240 : Int32) :: _) dm_X12_keep_70 rfl rfl rfl rfl ?_
  refine me1 (pc' := 72) dm_X12_keep_71 rfl rfl rfl rfl ?_
  refine me0 (pc' := 73) (S' := .int (249 : Int32) :: _) dm_X12_keep_72 rfl rfl rfl rfl ?_
  refine me1 (pc' := 74) dm_X12_keep_73 rfl rfl rfl rfl ?_
  refine me3 (pc' := 77) dm_X12_keep_74 (g_get (v := .ref 112) (lu (n := 102) (j := 0) hn rfl) rfl rfl (Nat.le_of_ble_eq_true rfl)) rfl rfl rfl ?_
  refine me1 (pc' := 78) dm_X12_keep_77 rfl rfl rfl rfl ?_
  refine me3 (pc' := 79) dm_X12_keep_78 (g_iald (v := (0 : Int32)) (lu (n := 102) (j := 10) hn rfl) rfl (by decide) rfl (Nat.le_of_ble_eq_true rfl)) rfl rfl rfl ?_
  refine me3 (pc' := 80) dm_X12_keep_79 (u_iast (n := 102) (j := 13) hn rfl rfl (by decide) rfl (Nat.le_of_ble_eq_true rfl)) rfl rfl rfl ?_
  refine me1 (pc' := 81) dm_X12_keep_80 rfl rfl rfl rfl ?_
  refine me3 (pc' := 84) dm_X12_keep_81 (g_get (v := .ref 114) (lu (n := 102) (j := 0) hn rfl) rfl rfl (Nat.le_of_ble_eq_true rfl)) rfl rfl rfl ?_
  refine me0 (pc' := 86) (S' := .int (80 : Int32) :: _) dm_X12_keep_84 rfl rfl rfl rfl ?_
  refine me1 (pc' := 87) dm_X12_keep_86 rfl rfl rfl rfl ?_
  refine me0 (pc' := 88) (S' := .int (240 : Int32) :: _) dm_X12_keep_87 rfl rfl rfl rfl ?_
  refine me0 (pc' := 90) (S' := .int (40 : Int32) :: _) dm_X12_keep_88 rfl rfl rfl rfl ?_
  refine me0 (pc' := 91) (S' := .int (280 : Int32) :: _) dm_X12_keep_90 rfl rfl rfl rfl ?_
  refine me1 (pc' := 92) dm_X12_keep_91 rfl rfl rfl rfl ?_
  refine me0 (pc' := 93) (S' := .int (289 : Int32) :: _) dm_X12_keep_92 rfl rfl rfl rfl ?_
  refine me1 (pc' := 94) dm_X12_keep_93 rfl rfl rfl rfl ?_
  refine me3 (pc' := 97) dm_X12_keep_94 (g_get (v := .ref 111) (lu (n := 102) (j := 0) hn rfl) rfl rfl (Nat.le_of_ble_eq_true rfl)) rfl rfl rfl ?_
  refine me1 (pc' := 98) dm_X12_keep_97 rfl rfl rfl rfl ?_
  refine me3 (pc' := 99) dm_X12_keep_98 (g_lald (v := (0 : Int64)) (lu (n := 102) (j := 9) hn rfl) rfl (by decide) rfl (Nat.le_of_ble_eq_true rfl)) rfl rfl rfl ?_
  refine me3 (pc' := 100) dm_X12_keep_99 (u_last (n := 102) (j := 12) hn rfl rfl (by decide) rfl (Nat.le_of_ble_eq_true rfl)) rfl rfl rfl ?_
  refine me1 (pc' := 101) dm_X12_keep_100 rfl rfl rfl rfl ?_
  refine me3 (pc' := 104) dm_X12_keep_101 (g_get (v := .ref 115) (lu (n := 102) (j := 0) hn rfl) rfl rfl (Nat.le_of_ble_eq_true rfl)) rfl rfl rfl ?_
  refine me0 (pc' := 106) (S' := .int (80 : Int32) :: _) dm_X12_keep_104 rfl rfl rfl rfl ?_
  refine me1 (pc' := 107) dm_X12_keep_106 rfl rfl rfl rfl ?_
  refine me0 (pc' := 108) (S' := .int (240 : Int32) :: _) dm_X12_keep_107 rfl rfl rfl rfl ?_
  refine me0 (pc' := 110) (S' := .int (40 : Int32) :: _) dm_X12_keep_108 rfl rfl rfl rfl ?_
  refine me0 (pc' := 111) (S' := .int (280 : Int32) :: _) dm_X12_keep_110 rfl rfl rfl rfl ?_
  refine me1 (pc' := 112) dm_X12_keep_111 rfl rfl rfl rfl ?_
  refine me0 (pc' := 113) (S' := .int (289 : Int32) :: _) dm_X12_keep_112 rfl rfl rfl rfl ?_
  refine me1 (pc' := 114) dm_X12_keep_113 rfl rfl rfl rfl ?_
  refine me3 (pc' := 117) dm_X12_keep_114 (g_get (v := .ref 113) (lu (n := 102) (j := 0) hn rfl) rfl rfl (Nat.le_of_ble_eq_true rfl)) rfl rfl rfl ?_
  refine me1 (pc' := 118) dm_X12_keep_117 rfl rfl rfl rfl ?_
  refine me3 (pc' := 119) dm_X12_keep_118 (g_iald (v := (0 : Int32)) (lu (n := 102) (j := 11) hn rfl) rfl (by decide) rfl (Nat.le_of_ble_eq_true rfl)) rfl rfl rfl ?_
  refine me3 (pc' := 120) dm_X12_keep_119 (u_iast (n := 102) (j := 13) hn rfl rfl (by decide) rfl (Nat.le_of_ble_eq_true rfl)) rfl rfl rfl ?_
  refine me1 (pc' := 123) (L' := [(2, .int (10 : Int32)), (0, .ref 102), (1, .int (3 : Int32))]) dm_X12_keep_120 rfl rfl rfl rfl ?_
  refine me2 (pc' := 40) dm_X12_keep_123 rfl rfl rfl ?_
  refine me1 (pc' := 41) dm_X12_keep_40 rfl rfl rfl rfl ?_
  refine me0 (pc' := 43) (S' := .int (40 : Int32) :: _) dm_X12_keep_41 rfl rfl rfl rfl ?_
  refine me_2f (pc' := 46) dm_X12_keep_43 rfl (by decide) rfl ?_
  refine me1 (pc' := 47) dm_X12_keep_46 rfl rfl rfl rfl ?_
  refine me3 (pc' := 50) dm_X12_keep_47 (g_get (v := .ref 114) (lu (n := 102) (j := 0) hn rfl) rfl rfl (Nat.le_of_ble_eq_true rfl)) rfl rfl rfl ?_
  refine me0 (pc' := 52) (S' := .int (80 : Int32) :: _) dm_X12_keep_50 rfl rfl rfl rfl ?_
  refine me1 (pc' := 53) dm_X12_keep_52 rfl rfl rfl rfl ?_
  refine me0 (pc' := 54) (S' := .int (240 : Int32) :: _) dm_X12_keep_53 rfl rfl rfl rfl ?_
  refine me1 (pc' := 55) dm_X12_keep_54 rfl rfl rfl rfl ?_
  refine me0 (pc' := 56) (S' := .int (250 : Int32) :: _) dm_X12_keep_55 rfl rfl rfl rfl ?_
  refine me1 (pc' := 57) dm_X12_keep_56 rfl rfl rfl rfl ?_
  refine me3 (pc' := 60) dm_X12_keep_57 (g_get (v := .ref 110) (lu (n := 102) (j := 0) hn rfl) rfl rfl (Nat.le_of_ble_eq_true rfl)) rfl rfl rfl ?_
  refine me1 (pc' := 61) dm_X12_keep_60 rfl rfl rfl rfl ?_
  refine me3 (pc' := 62) dm_X12_keep_61 (g_lald (v := (0 : Int64)) (lu (n := 102) (j := 8) hn rfl) rfl (by decide) rfl (Nat.le_of_ble_eq_true rfl)) rfl rfl rfl ?_
  refine me3 (pc' := 63) dm_X12_keep_62 (u_last (n := 102) (j := 12) hn rfl rfl (by decide) rfl (Nat.le_of_ble_eq_true rfl)) rfl rfl rfl ?_
  refine me1 (pc' := 64) dm_X12_keep_63 rfl rfl rfl rfl ?_
  refine me3 (pc' := 67) dm_X12_keep_64 (g_get (v := .ref 115) (lu (n := 102) (j := 0) hn rfl) rfl rfl (Nat.le_of_ble_eq_true rfl)) rfl rfl rfl ?_
  refine me0 (pc' := 69) (S' := .int (80 : Int32) :: _) dm_X12_keep_67 rfl rfl rfl rfl ?_
  refine me1 (pc' := 70) dm_X12_keep_69 rfl rfl rfl rfl ?_
  refine me0 (pc' := 71) (S' := .int (240 : Int32) :: _) dm_X12_keep_70 rfl rfl rfl rfl ?_
  refine me1 (pc' := 72) dm_X12_keep_71 rfl rfl rfl rfl ?_
  refine me0 (pc' := 73) (S' := .int (250 : Int32) :: _) dm_X12_keep_72 rfl rfl rfl rfl ?_
  refine me1 (pc' := 74) dm_X12_keep_73 rfl rfl rfl rfl ?_
  refine me3 (pc' := 77) dm_X12_keep_74 (g_get (v := .ref 112) (lu (n := 102) (j := 0) hn rfl) rfl rfl (Nat.le_of_ble_eq_true rfl)) rfl rfl rfl ?_
  refine me1 (pc' := 78) dm_X12_keep_77 rfl rfl rfl rfl ?_
  refine me3 (pc' := 79) dm_X12_keep_78 (g_iald (v := (0 : Int32)) (lu (n := 102) (j := 10) hn rfl) rfl (by decide) rfl (Nat.le_of_ble_eq_true rfl)) rfl rfl rfl ?_
  refine me3 (pc' := 80) dm_X12_keep_79 (u_iast (n := 102) (j := 13) hn rfl rfl (by decide) rfl (Nat.le_of_ble_eq_true rfl)) rfl rfl rfl ?_
  refine me1 (pc' := 81) dm_X12_keep_80 rfl rfl rfl rfl ?_
  refine me3 (pc' := 84) dm_X12_keep_81 (g_get (v := .ref 114) (lu (n := 102) (j := 0) hn rfl) rfl rfl (Nat.le_of_ble_eq_true rfl)) rfl rfl rfl ?_
  refine me0 (pc' := 86) (S' := .int (80 : Int32) :: _) dm_X12_keep_84 rfl rfl rfl rfl ?_
  refine me1 (pc' := 87) dm_X12_keep_86 rfl rfl rfl rfl ?_
  refine me0 (pc' := 88) (S' := .int (240 : Int32) :: _) dm_X12_keep_87 rfl rfl rfl rfl ?_
  refine me0 (pc' := 90) (S' := .int (40 : Int32) :: _) dm_X12_keep_88 rfl rfl rfl rfl ?_
  refine me0 (pc' := 91) (S' := .int (280 : Int32) :: _) dm_X12_keep_90 rfl rfl rfl rfl ?_
  refine me1 (pc' := 92) dm_X12_keep_91 rfl rfl rfl rfl ?_
  refine me0 (pc' := 93) (S' := .int (290 : Int32) :: _) dm_X12_keep_92 rfl rfl rfl rfl ?_
  refine me1 (pc' := 94) dm_X12_keep_93 rfl rfl rfl rfl ?_
  refine me3 (pc' := 97) dm_X12_keep_94 (g_get (v := .ref 111) (lu (n := 102) (j := 0) hn rfl) rfl rfl (Nat.le_of_ble_eq_true rfl)) rfl rfl rfl ?_
  refine me1 (pc' := 98) dm_X12_keep_97 rfl rfl rfl rfl ?_
  refine me3 (pc' := 99) dm_X12_keep_98 (g_lald (v := (0 : Int64)) (lu (n := 102) (j := 9) hn rfl) rfl (by decide) rfl (Nat.le_of_ble_eq_true rfl)) rfl rfl rfl ?_
  refine me3 (pc' := 100) dm_X12_keep_99 (u_last (n := 102) (j := 12) hn rfl rfl (by decide) rfl (Nat.le_of_ble_eq_true rfl)) rfl rfl rfl ?_
  refine me1 (pc' := 101) dm_X12_keep_100 rfl rfl rfl rfl ?_
  refine me3 (pc' := 104) dm_X12_keep_101 (g_get (v := .ref 115) (lu (n := 102) (j := 0) hn rfl) rfl rfl (Nat.le_of_ble_eq_true rfl)) rfl rfl rfl ?_
  refine me0 (pc' := 106) (S' := .int (80 : Int32) :: _) dm_X12_keep_104 rfl rfl rfl rfl ?_
  refine me1 (pc' := 107) dm_X12_keep_106 rfl rfl rfl rfl ?_
  refine me0 (pc' := 108) (S' := .int (240 : Int32) :: _) dm_X12_keep_107 rfl rfl rfl rfl ?_
  refine me0 (pc' := 110) (S' := .int (40 : Int32) :: _) dm_X12_keep_108 rfl rfl rfl rfl ?_
  refine me0 (pc' := 111) (S' := .int (280 : Int32) :: _) dm_X12_keep_110 rfl rfl rfl rfl ?_
  refine me1 (pc' := 112) dm_X12_keep_111 rfl rfl rfl rfl ?_
  refine me0 (pc' := 113) (S' := .int (290 : Int32) :: _) dm_X12_keep_112 rfl rfl rfl rfl ?_
  refine me1 (pc' := 114) dm_X12_keep_113 rfl rfl rfl rfl ?_
  refine me3 (pc' := 117) dm_X12_keep_114 (g_get (v := .ref 113) (lu (n := 102) (j := 0) hn rfl) rfl rfl (Nat.le_of_ble_eq_true rfl)) rfl rfl rfl ?_
  refine me1 (pc' := 118) dm_X12_keep_117 rfl rfl rfl rfl ?_
  refine me3 (pc' := 119) dm_X12_keep_118 (g_iald (v := (0 : Int32)) (lu (n := 102) (j := 11) hn rfl) rfl (by decide) rfl (Nat.le_of_ble_eq_true rfl)) rfl rfl rfl ?_
  refine me3 (pc' := 120) dm_X12_keep_119 (u_iast (n := 102) (j := 13) hn rfl rfl (by decide) rfl (Nat.le_of_ble_eq_true rfl)) rfl rfl rfl ?_
  refine me1 (pc' := 123) (L' := [(2, .int (11 : Int32)), (0, .ref 102), (1, .int (3 : Int32))]) dm_X12_keep_120 rfl rfl rfl rfl ?_
  refine me2 (pc' := 40) dm_X12_keep_123 rfl rfl rfl ?_
  refine me1 (pc' := 41) dm_X12_keep_40 rfl rfl rfl rfl ?_
  refine me0 (pc' := 43) (S' := .int (40 : Int32) :: _) dm_X12_keep_41 rfl rfl rfl rfl ?_
  refine me_2f (pc' := 46) dm_X12_keep_43 rfl (by decide) rfl ?_
  refine me1 (pc' := 47) dm_X12_keep_46 rfl rfl rfl rfl ?_
  refine me3 (pc' := 50) dm_X12_keep_47 (g_get (v := .ref 114) (lu (n := 102) (j := 0) hn rfl) rfl rfl (Nat.le_of_ble_eq_true rfl)) rfl rfl rfl ?_
  refine me0 (pc' := 52) (S' := .int (80 : Int32) :: _) dm_X12_keep_50 rfl rfl rfl rfl ?_
  refine me1 (pc' := 53) dm_X12_keep_52 rfl rfl rfl rfl ?_
  refine me0 (pc' := 54) (S' := .int (240 : Int32) :: _) dm_X12_keep_53 rfl rfl rfl rfl ?_
  refine me1 (pc' := 55) dm_X12_keep_54 rfl rfl rfl rfl ?_
  refine me0 (pc' := 56) (S' := .int (251 : Int32) :: _) dm_X12_keep_55 rfl rfl rfl rfl ?_
  refine me1 (pc' := 57) dm_X12_keep_56 rfl rfl rfl rfl ?_
  refine me3 (pc' := 60) dm_X12_keep_57 (g_get (v := .ref 110) (lu (n := 102) (j := 0) hn rfl) rfl rfl (Nat.le_of_ble_eq_true rfl)) rfl rfl rfl ?_
  refine me1 (pc' := 61) dm_X12_keep_60 rfl rfl rfl rfl ?_
  refine me3 (pc' := 62) dm_X12_keep_61 (g_lald (v := (0 : Int64)) (lu (n := 102) (j := 8) hn rfl) rfl (by decide) rfl (Nat.le_of_ble_eq_true rfl)) rfl rfl rfl ?_
  refine me3 (pc' := 63) dm_X12_keep_62 (u_last (n := 102) (j := 12) hn rfl rfl (by decide) rfl (Nat.le_of_ble_eq_true rfl)) rfl rfl rfl ?_
  refine me1 (pc' := 64) dm_X12_keep_63 rfl rfl rfl rfl ?_
  refine me3 (pc' := 67) dm_X12_keep_64 (g_get (v := .ref 115) (lu (n := 102) (j := 0) hn rfl) rfl rfl (Nat.le_of_ble_eq_true rfl)) rfl rfl rfl ?_
  refine me0 (pc' := 69) (S' := .int (80 : Int32) :: _) dm_X12_keep_67 rfl rfl rfl rfl ?_
  refine me1 (pc' := 70) dm_X12_keep_69 rfl rfl rfl rfl ?_
  refine me0 (pc' := 71) (S' := .int (240 : Int32) :: _) dm_X12_keep_70 rfl rfl rfl rfl ?_
  refine me1 (pc' := 72) dm_X12_keep_71 rfl rfl rfl rfl ?_
  refine me0 (pc' := 73) (S' := .int (251 : Int32) :: _) dm_X12_keep_72 rfl rfl rfl rfl ?_
  refine me1 (pc' := 74) dm_X12_keep_73 rfl rfl rfl rfl ?_
  refine me3 (pc' := 77) dm_X12_keep_74 (g_get (v := .ref 112) (lu (n := 102) (j := 0) hn rfl) rfl rfl (Nat.le_of_ble_eq_true rfl)) rfl rfl rfl ?_
  refine me1 (pc' := 78) dm_X12_keep_77 rfl rfl rfl rfl ?_
  refine me3 (pc' := 79) dm_X12_keep_78 (g_iald (v := (0 : Int32)) (lu (n := 102) (j := 10) hn rfl) rfl (by decide) rfl (Nat.le_of_ble_eq_true rfl)) rfl rfl rfl ?_
  refine me3 (pc' := 80) dm_X12_keep_79 (u_iast (n := 102) (j := 13) hn rfl rfl (by decide) rfl (Nat.le_of_ble_eq_true rfl)) rfl rfl rfl ?_
  refine me1 (pc' := 81) dm_X12_keep_80 rfl rfl rfl rfl ?_
  refine me3 (pc' := 84) dm_X12_keep_81 (g_get (v := .ref 114) (lu (n := 102) (j := 0) hn rfl) rfl rfl (Nat.le_of_ble_eq_true rfl)) rfl rfl rfl ?_
  refine me0 (pc' := 86) (S' := .int (80 : Int32) :: _) dm_X12_keep_84 rfl rfl rfl rfl ?_
  refine me1 (pc' := 87) dm_X12_keep_86 rfl rfl rfl rfl ?_
  refine me0 (pc' := 88) (S' := .int (240 : Int32) :: _) dm_X12_keep_87 rfl rfl rfl rfl ?_
  refine me0 (pc' := 90) (S' := .int (40 : Int32) :: _) dm_X12_keep_88 rfl rfl rfl rfl ?_
  refine me0 (pc' := 91) (S' := .int (280 : Int32) :: _) dm_X12_keep_90 rfl rfl rfl rfl ?_
  refine me1 (pc' := 92) dm_X12_keep_91 rfl rfl rfl rfl ?_
  refine me0 (pc' := 93) (S' := .int (291 : Int32) :: _) dm_X12_keep_92 rfl rfl rfl rfl ?_
  refine me1 (pc' := 94) dm_X12_keep_93 rfl rfl rfl rfl ?_
  refine me3 (pc' := 97) dm_X12_keep_94 (g_get (v := .ref 111) (lu (n := 102) (j := 0) hn rfl) rfl rfl (Nat.le_of_ble_eq_true rfl)) rfl rfl rfl ?_
  refine me1 (pc' := 98) dm_X12_keep_97 rfl rfl rfl rfl ?_
  refine me3 (pc' := 99) dm_X12_keep_98 (g_lald (v := (0 : Int64)) (lu (n := 102) (j := 9) hn rfl) rfl (by decide) rfl (Nat.le_of_ble_eq_true rfl)) rfl rfl rfl ?_
  refine me3 (pc' := 100) dm_X12_keep_99 (u_last (n := 102) (j := 12) hn rfl rfl (by decide) rfl (Nat.le_of_ble_eq_true rfl)) rfl rfl rfl ?_
  refine me1 (pc' := 101) dm_X12_keep_100 rfl rfl rfl rfl ?_
  refine me3 (pc' := 104) dm_X12_keep_101 (g_get (v := .ref 115) (lu (n := 102) (j := 0) hn rfl) rfl rfl (Nat.le_of_ble_eq_true rfl)) rfl rfl rfl ?_
  refine me0 (pc' := 106) (S' := .int (80 : Int32) :: _) dm_X12_keep_104 rfl rfl rfl rfl ?_
  refine me1 (pc' := 107) dm_X12_keep_106 rfl rfl rfl rfl ?_
  refine me0 (pc' := 108) (S' := .int (240 : Int32) :: _) dm_X12_keep_107 rfl rfl rfl rfl ?_
  refine me0 (pc' := 110) (S' := .int (40 : Int32) :: _) dm_X12_keep_108 rfl rfl rfl rfl ?_
  refine me0 (pc' := 111) (S' := .int (280 : Int32) :: _) dm_X12_keep_110 rfl rfl rfl rfl ?_
  refine me1 (pc' := 112) dm_X12_keep_111 rfl rfl rfl rfl ?_
  refine me0 (pc' := 113) (S' := .int (291 : Int32) :: _) dm_X12_keep_112 rfl rfl rfl rfl ?_
  refine me1 (pc' := 114) dm_X12_keep_113 rfl rfl rfl rfl ?_
  refine me3 (pc' := 117) dm_X12_keep_114 (g_get (v := .ref 113) (lu (n := 102) (j := 0) hn rfl) rfl rfl (Nat.le_of_ble_eq_true rfl)) rfl rfl rfl ?_
  refine me1 (pc' := 118) dm_X12_keep_117 rfl rfl rfl rfl ?_
  refine me3 (pc' := 119) dm_X12_keep_118 (g_iald (v := (0 : Int32)) (lu (n := 102) (j := 11) hn rfl) rfl (by decide) rfl (Nat.le_of_ble_eq_true rfl)) rfl rfl rfl ?_
  refine me3 (pc' := 120) dm_X12_keep_119 (u_iast (n := 102) (j := 13) hn rfl rfl (by decide) rfl (Nat.le_of_ble_eq_true rfl)) rfl rfl rfl ?_
  refine me1 (pc' := 123) (L' := [(2, .int (12 : Int32)), (0, .ref 102), (1, .int (3 : Int32))]) dm_X12_keep_120 rfl rfl rfl rfl ?_
  refine me2 (pc' := 40) dm_X12_keep_123 rfl rfl rfl ?_
  refine me1 (pc' := 41) dm_X12_keep_40 rfl rfl rfl rfl ?_
  refine me0 (pc' := 43) (S' := .int (40 : Int32) :: _) dm_X12_keep_41 rfl rfl rfl rfl ?_
  refine me_2f (pc' := 46) dm_X12_keep_43 rfl (by decide) rfl ?_
  refine me1 (pc' := 47) dm_X12_keep_46 rfl rfl rfl rfl ?_
  refine me3 (pc' := 50) dm_X12_keep_47 (g_get (v := .ref 114) (lu (n := 102) (j := 0) hn rfl) rfl rfl (Nat.le_of_ble_eq_true rfl)) rfl rfl rfl ?_
  refine me0 (pc' := 52) (S' := .int (80 : Int32) :: _) dm_X12_keep_50 rfl rfl rfl rfl ?_
  refine me1 (pc' := 53) dm_X12_keep_52 rfl rfl rfl rfl ?_
  refine me0 (pc' := 54) (S' := .int (240 : Int32) :: _) dm_X12_keep_53 rfl rfl rfl rfl ?_
  refine me1 (pc' := 55) dm_X12_keep_54 rfl rfl rfl rfl ?_
  refine me0 (pc' := 56) (S' := .int (252 : Int32) :: _) dm_X12_keep_55 rfl rfl rfl rfl ?_
  refine me1 (pc' := 57) dm_X12_keep_56 rfl rfl rfl rfl ?_
  refine me3 (pc' := 60) dm_X12_keep_57 (g_get (v := .ref 110) (lu (n := 102) (j := 0) hn rfl) rfl rfl (Nat.le_of_ble_eq_true rfl)) rfl rfl rfl ?_
  refine me1 (pc' := 61) dm_X12_keep_60 rfl rfl rfl rfl ?_
  refine me3 (pc' := 62) dm_X12_keep_61 (g_lald (v := (0 : Int64)) (lu (n := 102) (j := 8) hn rfl) rfl (by decide) rfl (Nat.le_of_ble_eq_true rfl)) rfl rfl rfl ?_
  refine me3 (pc' := 63) dm_X12_keep_62 (u_last (n := 102) (j := 12) hn rfl rfl (by decide) rfl (Nat.le_of_ble_eq_true rfl)) rfl rfl rfl ?_
  refine me1 (pc' := 64) dm_X12_keep_63 rfl rfl rfl rfl ?_
  refine me3 (pc' := 67) dm_X12_keep_64 (g_get (v := .ref 115) (lu (n := 102) (j := 0) hn rfl) rfl rfl (Nat.le_of_ble_eq_true rfl)) rfl rfl rfl ?_
  refine me0 (pc' := 69) (S' := .int (80 : Int32) :: _) dm_X12_keep_67 rfl rfl rfl rfl ?_
  refine me1 (pc' := 70) dm_X12_keep_69 rfl rfl rfl rfl ?_
  refine me0 (pc' := 71) (S' := .int (240 : Int32) :: _) dm_X12_keep_70 rfl rfl rfl rfl ?_
  refine me1 (pc' := 72) dm_X12_keep_71 rfl rfl rfl rfl ?_
  refine me0 (pc' := 73) (S' := .int (252 : Int32) :: _) dm_X12_keep_72 rfl rfl rfl rfl ?_
  refine me1 (pc' := 74) dm_X12_keep_73 rfl rfl rfl rfl ?_
  refine me3 (pc' := 77) dm_X12_keep_74 (g_get (v := .ref 112) (lu (n := 102) (j := 0) hn rfl) rfl rfl (Nat.le_of_ble_eq_true rfl)) rfl rfl rfl ?_
  refine me1 (pc' := 78) dm_X12_keep_77 rfl rfl rfl rfl ?_
  refine me3 (pc' := 79) dm_X12_keep_78 (g_iald (v := (0 : Int32)) (lu (n := 102) (j := 10) hn rfl) rfl (by decide) rfl (Nat.le_of_ble_eq_true rfl)) rfl rfl rfl ?_
  refine me3 (pc' := 80) dm_X12_keep_79 (u_iast (n := 102) (j := 13) hn rfl rfl (by decide) rfl (Nat.le_of_ble_eq_true rfl)) rfl rfl rfl ?_
  refine me1 (pc' := 81) dm_X12_keep_80 rfl rfl rfl rfl ?_
  refine me3 (pc' := 84) dm_X12_keep_81 (g_get (v := .ref 114) (lu (n := 102) (j := 0) hn rfl) rfl rfl (Nat.le_of_ble_eq_true rfl)) rfl rfl rfl ?_
  refine me0 (pc' := 86) (S' := .int (80 : Int32) :: _) dm_X12_keep_84 rfl rfl rfl rfl ?_
  refine me1 (pc' := 87) dm_X12_keep_86 rfl rfl rfl rfl ?_
  refine me0 (pc' := 88) (S' := .int (240 : Int32) :: _) dm_X12_keep_87 rfl rfl rfl rfl ?_
  refine me0 (pc' := 90) (S' := .int (40 : Int32) :: _) dm_X12_keep_88 rfl rfl rfl rfl ?_
  refine me0 (pc' := 91) (S' := .int (280 : Int32) :: _) dm_X12_keep_90 rfl rfl rfl rfl ?_
  refine me1 (pc' := 92) dm_X12_keep_91 rfl rfl rfl rfl ?_
  refine me0 (pc' := 93) (S' := .int (292 : Int32) :: _) dm_X12_keep_92 rfl rfl rfl rfl ?_
  refine me1 (pc' := 94) dm_X12_keep_93 rfl rfl rfl rfl ?_
  refine me3 (pc' := 97) dm_X12_keep_94 (g_get (v := .ref 111) (lu (n := 102) (j := 0) hn rfl) rfl rfl (Nat.le_of_ble_eq_true rfl)) rfl rfl rfl ?_
  refine me1 (pc' := 98) dm_X12_keep_97 rfl rfl rfl rfl ?_
  refine me3 (pc' := 99) dm_X12_keep_98 (g_lald (v := (0 : Int64)) (lu (n := 102) (j := 9) hn rfl) rfl (by decide) rfl (Nat.le_of_ble_eq_true rfl)) rfl rfl rfl ?_
  refine me3 (pc' := 100) dm_X12_keep_99 (u_last (n := 102) (j := 12) hn rfl rfl (by decide) rfl (Nat.le_of_ble_eq_true rfl)) rfl rfl rfl ?_
  refine me1 (pc' := 101) dm_X12_keep_100 rfl rfl rfl rfl ?_
  refine me3 (pc' := 104) dm_X12_keep_101 (g_get (v := .ref 115) (lu (n := 102) (j := 0) hn rfl) rfl rfl (Nat.le_of_ble_eq_true rfl)) rfl rfl rfl ?_
  refine me0 (pc' := 106) (S' := .int (80 : Int32) :: _) dm_X12_keep_104 rfl rfl rfl rfl ?_
  refine me1 (pc' := 107) dm_X12_keep_106 rfl rfl rfl rfl ?_
  refine me0 (pc' := 108) (S' := .int (240 : Int32) :: _) dm_X12_keep_107 rfl rfl rfl rfl ?_
  refine me0 (pc' := 110) (S' := .int (40 : Int32) :: _) dm_X12_keep_108 rfl rfl rfl rfl ?_
  refine me0 (pc' := 111) (S' := .int (280 : Int32) :: _) dm_X12_keep_110 rfl rfl rfl rfl ?_
  refine me1 (pc' := 112) dm_X12_keep_111 rfl rfl rfl rfl ?_
  refine me0 (pc' := 113) (S' := .int (292 : Int32) :: _) dm_X12_keep_112 rfl rfl rfl rfl ?_
  refine me1 (pc' := 114) dm_X12_keep_113 rfl rfl rfl rfl ?_
  refine me3 (pc' := 117) dm_X12_keep_114 (g_get (v := .ref 113) (lu (n := 102) (j := 0) hn rfl) rfl rfl (Nat.le_of_ble_eq_true rfl)) rfl rfl rfl ?_
  refine me1 (pc' := 118) dm_X12_keep_117 rfl rfl rfl rfl ?_
  refine me3 (pc' := 119) dm_X12_keep_118 (g_iald (v := (0 : Int32)) (lu (n := 102) (j := 11) hn rfl) rfl (by decide) rfl (Nat.le_of_ble_eq_true rfl)) rfl rfl rfl ?_
  refine me3 (pc' := 120) dm_X12_keep_119 (u_iast (n := 102) (j := 13) hn rfl rfl (by decide) rfl (Nat.le_of_ble_eq_true rfl)) rfl rfl rfl ?_
  refine me1 (pc' := 123) (L' := [(2, .int (13 : Int32)), (0, .ref 102), (1, .int (3 : Int32))]) dm_X12_keep_120 rfl rfl rfl rfl ?_
  refine me2 (pc' := 40) dm_X12_keep_123 rfl rfl rfl ?_
  refine me1 (pc' := 41) dm_X12_keep_40 rfl rfl rfl rfl ?_
  refine me0 (pc' := 43) (S' := .int (40 : Int32) :: _) dm_X12_keep_41 rfl rfl rfl rfl ?_
  refine me_2f (pc' := 46) dm_X12_keep_43 rfl (by decide) rfl ?_
  refine me1 (pc' := 47) dm_X12_keep_46 rfl rfl rfl rfl ?_
  refine me3 (pc' := 50) dm_X12_keep_47 (g_get (v := .ref 114) (lu (n := 102) (j := 0) hn rfl) rfl rfl (Nat.le_of_ble_eq_true rfl)) rfl rfl rfl ?_
  refine me0 (pc' := 52) (S' := .int (80 : Int32) :: _) dm_X12_keep_50 rfl rfl rfl rfl ?_
  refine me1 (pc' := 53) dm_X12_keep_52 rfl rfl rfl rfl ?_
  refine me0 (pc' := 54) (S' := .int (240 : Int32) :: _) dm_X12_keep_53 rfl rfl rfl rfl ?_
  refine me1 (pc' := 55) dm_X12_keep_54 rfl rfl rfl rfl ?_
  refine me0 (pc' := 56) (S' := .int (253 : Int32) :: _) dm_X12_keep_55 rfl rfl rfl rfl ?_
  refine me1 (pc' := 57) dm_X12_keep_56 rfl rfl rfl rfl ?_
  refine me3 (pc' := 60) dm_X12_keep_57 (g_get (v := .ref 110) (lu (n := 102) (j := 0) hn rfl) rfl rfl (Nat.le_of_ble_eq_true rfl)) rfl rfl rfl ?_
  refine me1 (pc' := 61) dm_X12_keep_60 rfl rfl rfl rfl ?_
  refine me3 (pc' := 62) dm_X12_keep_61 (g_lald (v := (0 : Int64)) (lu (n := 102) (j := 8) hn rfl) rfl (by decide) rfl (Nat.le_of_ble_eq_true rfl)) rfl rfl rfl ?_
  refine me3 (pc' := 63) dm_X12_keep_62 (u_last (n := 102) (j := 12) hn rfl rfl (by decide) rfl (Nat.le_of_ble_eq_true rfl)) rfl rfl rfl ?_
  refine me1 (pc' := 64) dm_X12_keep_63 rfl rfl rfl rfl ?_
  refine me3 (pc' := 67) dm_X12_keep_64 (g_get (v := .ref 115) (lu (n := 102) (j := 0) hn rfl) rfl rfl (Nat.le_of_ble_eq_true rfl)) rfl rfl rfl ?_
  refine me0 (pc' := 69) (S' := .int (80 : Int32) :: _) dm_X12_keep_67 rfl rfl rfl rfl ?_
  refine me1 (pc' := 70) dm_X12_keep_69 rfl rfl rfl rfl ?_
  refine me0 (pc' := 71) (S' := .int (240 : Int32) :: _) dm_X12_keep_70 rfl rfl rfl rfl ?_
  refine me1 (pc' := 72) dm_X12_keep_71 rfl rfl rfl rfl ?_
  refine me0 (pc' := 73) (S' := .int (253 : Int32) :: _) dm_X12_keep_72 rfl rfl rfl rfl ?_
  refine me1 (pc' := 74) dm_X12_keep_73 rfl rfl rfl rfl ?_
  refine me3 (pc' := 77) dm_X12_keep_74 (g_get (v := .ref 112) (lu (n := 102) (j := 0) hn rfl) rfl rfl (Nat.le_of_ble_eq_true rfl)) rfl rfl rfl ?_
  refine me1 (pc' := 78) dm_X12_keep_77 rfl rfl rfl rfl ?_
  refine me3 (pc' := 79) dm_X12_keep_78 (g_iald (v := (0 : Int32)) (lu (n := 102) (j := 10) hn rfl) rfl (by decide) rfl (Nat.le_of_ble_eq_true rfl)) rfl rfl rfl ?_
  refine me3 (pc' := 80) dm_X12_keep_79 (u_iast (n := 102) (j := 13) hn rfl rfl (by decide) rfl (Nat.le_of_ble_eq_true rfl)) rfl rfl rfl ?_
  refine me1 (pc' := 81) dm_X12_keep_80 rfl rfl rfl rfl ?_
  refine me3 (pc' := 84) dm_X12_keep_81 (g_get (v := .ref 114) (lu (n := 102) (j := 0) hn rfl) rfl rfl (Nat.le_of_ble_eq_true rfl)) rfl rfl rfl ?_
  refine me0 (pc' := 86) (S' := .int (80 : Int32) :: _) dm_X12_keep_84 rfl rfl rfl rfl ?_
  refine me1 (pc' := 87) dm_X12_keep_86 rfl rfl rfl rfl ?_
  refine me0 (pc' := 88) (S' := .int (240 : Int32) :: _) dm_X12_keep_87 rfl rfl rfl rfl ?_
  refine me0 (pc' := 90) (S' := .int (40 : Int32) :: _) dm_X12_keep_88 rfl rfl rfl rfl ?_
  refine me0 (pc' := 91) (S' := .int (280 : Int32) :: _) dm_X12_keep_90 rfl rfl rfl rfl ?_
  refine me1 (pc' := 92) dm_X12_keep_91 rfl rfl rfl rfl ?_
  refine me0 (pc' := 93) (S' := .int (293 : Int32) :: _) dm_X12_keep_92 rfl rfl rfl rfl ?_
  refine me1 (pc' := 94) dm_X12_keep_93 rfl rfl rfl rfl ?_
  refine me3 (pc' := 97) dm_X12_keep_94 (g_get (v := .ref 111) (lu (n := 102) (j := 0) hn rfl) rfl rfl (Nat.le_of_ble_eq_true rfl)) rfl rfl rfl ?_
  refine me1 (pc' := 98) dm_X12_keep_97 rfl rfl rfl rfl ?_
  refine me3 (pc' := 99) dm_X12_keep_98 (g_lald (v := (0 : Int64)) (lu (n := 102) (j := 9) hn rfl) rfl (by decide) rfl (Nat.le_of_ble_eq_true rfl)) rfl rfl rfl ?_
  refine me3 (pc' := 100) dm_X12_keep_99 (u_last (n := 102) (j := 12) hn rfl rfl (by decide) rfl (Nat.le_of_ble_eq_true rfl)) rfl rfl rfl ?_
  refine me1 (pc' := 101) dm_X12_keep_100 rfl rfl rfl rfl ?_
  refine me3 (pc' := 104) dm_X12_keep_101 (g_get (v := .ref 115) (lu (n := 102) (j := 0) hn rfl) rfl rfl (Nat.le_of_ble_eq_true rfl)) rfl rfl rfl ?_
  refine me0 (pc' := 106) (S' := .int (80 : Int32) :: _) dm_X12_keep_104 rfl rfl rfl rfl ?_
  refine me1 (pc' := 107) dm_X12_keep_106 rfl rfl rfl rfl ?_
  refine me0 (pc' := 108) (S' := .int (240 : Int32) :: _) dm_X12_keep_107 rfl rfl rfl rfl ?_
  refine me0 (pc' := 110) (S' := .int (40 : Int32) :: _) dm_X12_keep_108 rfl rfl rfl rfl ?_
  refine me0 (pc' := 111) (S' := .int (280 : Int32) :: _) dm_X12_keep_110 rfl rfl rfl rfl ?_
  refine me1 (pc' := 112) dm_X12_keep_111 rfl rfl rfl rfl ?_
  refine me0 (pc' := 113) (S' := .int (293 : Int32) :: _) dm_X12_keep_112 rfl rfl rfl rfl ?_
  refine me1 (pc' := 114) dm_X12_keep_113 rfl rfl rfl rfl ?_
  refine me3 (pc' := 117) dm_X12_keep_114 (g_get (v := .ref 113) (lu (n := 102) (j := 0) hn rfl) rfl rfl (Nat.le_of_ble_eq_true rfl)) rfl rfl rfl ?_
  refine me1 (pc' := 118) dm_X12_keep_117 rfl rfl rfl rfl ?_
  refine me3 (pc' := 119) dm_X12_keep_118 (g_iald (v := (0 : Int32)) (lu (n := 102) (j := 11) hn rfl) rfl (by decide) rfl (Nat.le_of_ble_eq_true rfl)) rfl rfl rfl ?_
  refine me3 (pc' := 120) dm_X12_keep_119 (u_iast (n := 102) (j := 13) hn rfl rfl (by decide) rfl (Nat.le_of_ble_eq_true rfl)) rfl rfl rfl ?_
  refine me1 (pc' := 123) (L' := [(2, .int (14 : Int32)), (0, .ref 102), (1, .int (3 : Int32))]) dm_X12_keep_120 rfl rfl rfl rfl ?_
  refine me2 (pc' := 40) dm_X12_keep_123 rfl rfl rfl ?_
  refine me1 (pc' := 41) dm_X12_keep_40 rfl rfl rfl rfl ?_
  refine me0 (pc' := 43) (S' := .int (40 : Int32) :: _) dm_X12_keep_41 rfl rfl rfl rfl ?_
  refine me_2f (pc' := 46) dm_X12_keep_43 rfl (by decide) rfl ?_
  refine me1 (pc' := 47) dm_X12_keep_46 rfl rfl rfl rfl ?_
  refine me3 (pc' := 50) dm_X12_keep_47 (g_get (v := .ref 114) (lu (n := 102) (j := 0) hn rfl) rfl rfl (Nat.le_of_ble_eq_true rfl)) rfl rfl rfl ?_
  refine me0 (pc' := 52) (S' := .int (80 : Int32) :: _) dm_X12_keep_50 rfl rfl rfl rfl ?_
  refine me1 (pc' := 53) dm_X12_keep_52 rfl rfl rfl rfl ?_
  refine me0 (pc' := 54) (S' := .int (240 : Int32) :: _) dm_X12_keep_53 rfl rfl rfl rfl ?_
  refine me1 (pc' := 55) dm_X12_keep_54 rfl rfl rfl rfl ?_
  refine me0 (pc' := 56) (S' := .int (254 : Int32) :: _) dm_X12_keep_55 rfl rfl rfl rfl ?_
  refine me1 (pc' := 57) dm_X12_keep_56 rfl rfl rfl rfl ?_
  refine me3 (pc' := 60) dm_X12_keep_57 (g_get (v := .ref 110) (lu (n := 102) (j := 0) hn rfl) rfl rfl (Nat.le_of_ble_eq_true rfl)) rfl rfl rfl ?_
  refine me1 (pc' := 61) dm_X12_keep_60 rfl rfl rfl rfl ?_
  refine me3 (pc' := 62) dm_X12_keep_61 (g_lald (v := (0 : Int64)) (lu (n := 102) (j := 8) hn rfl) rfl (by decide) rfl (Nat.le_of_ble_eq_true rfl)) rfl rfl rfl ?_
  refine me3 (pc' := 63) dm_X12_keep_62 (u_last (n := 102) (j := 12) hn rfl rfl (by decide) rfl (Nat.le_of_ble_eq_true rfl)) rfl rfl rfl ?_
  refine me1 (pc' := 64) dm_X12_keep_63 rfl rfl rfl rfl ?_
  refine me3 (pc' := 67) dm_X12_keep_64 (g_get (v := .ref 115) (lu (n := 102) (j := 0) hn rfl) rfl rfl (Nat.le_of_ble_eq_true rfl)) rfl rfl rfl ?_
  refine me0 (pc' := 69) (S' := .int (80 : Int32) :: _) dm_X12_keep_67 rfl rfl rfl rfl ?_
  refine me1 (pc' := 70) dm_X12_keep_69 rfl rfl rfl rfl ?_
  refine me0 (pc' := 71) (S' := .int (240 : Int32) :: _) dm_X12_keep_70 rfl rfl rfl rfl ?_
  refine me1 (pc' := 72) dm_X12_keep_71 rfl rfl rfl rfl ?_
  refine me0 (pc' := 73) (S' := .int (254 : Int32) :: _) dm_X12_keep_72 rfl rfl rfl rfl ?_
  refine me1 (pc' := 74) dm_X12_keep_73 rfl rfl rfl rfl ?_
  refine me3 (pc' := 77) dm_X12_keep_74 (g_get (v := .ref 112) (lu (n := 102) (j := 0) hn rfl) rfl rfl (Nat.le_of_ble_eq_true rfl)) rfl rfl rfl ?_
  refine me1 (pc' := 78) dm_X12_keep_77 rfl rfl rfl rfl ?_
  refine me3 (pc' := 79) dm_X12_keep_78 (g_iald (v := (0 : Int32)) (lu (n := 102) (j := 10) hn rfl) rfl (by decide) rfl (Nat.le_of_ble_eq_true rfl)) rfl rfl rfl ?_
  refine me3 (pc' := 80) dm_X12_keep_79 (u_iast (n := 102) (j := 13) hn rfl rfl (by decide) rfl (Nat.le_of_ble_eq_true rfl)) rfl rfl rfl ?_
  refine me1 (pc' := 81) dm_X12_keep_80 rfl rfl rfl rfl ?_
  refine me3 (pc' := 84) dm_X12_keep_81 (g_get (v := .ref 114) (lu (n := 102) (j := 0) hn rfl) rfl rfl (Nat.le_of_ble_eq_true rfl)) rfl rfl rfl ?_
  refine me0 (pc' := 86) (S' := .int (80 : Int32) :: _) dm_X12_keep_84 rfl rfl rfl rfl ?_
  refine me1 (pc' := 87) dm_X12_keep_86 rfl rfl rfl rfl ?_
  refine me0 (pc' := 88) (S' := .int (240 : Int32) :: _) dm_X12_keep_87 rfl rfl rfl rfl ?_
  refine me0 (pc' := 90) (S' := .int (40 : Int32) :: _) dm_X12_keep_88 rfl rfl rfl rfl ?_
  refine me0 (pc' := 91) (S' := .int (280 : Int32) :: _) dm_X12_keep_90 rfl rfl rfl rfl ?_
  refine me1 (pc' := 92) dm_X12_keep_91 rfl rfl rfl rfl ?_
  refine me0 (pc' := 93) (S' := .int (294 : Int32) :: _) dm_X12_keep_92 rfl rfl rfl rfl ?_
  refine me1 (pc' := 94) dm_X12_keep_93 rfl rfl rfl rfl ?_
  refine me3 (pc' := 97) dm_X12_keep_94 (g_get (v := .ref 111) (lu (n := 102) (j := 0) hn rfl) rfl rfl (Nat.le_of_ble_eq_true rfl)) rfl rfl rfl ?_
  refine me1 (pc' := 98) dm_X12_keep_97 rfl rfl rfl rfl ?_
  refine me3 (pc' := 99) dm_X12_keep_98 (g_lald (v := (0 : Int64)) (lu (n := 102) (j := 9) hn rfl) rfl (by decide) rfl (Nat.le_of_ble_eq_true rfl)) rfl rfl rfl ?_
  refine me3 (pc' := 100) dm_X12_keep_99 (u_last (n := 102) (j := 12) hn rfl rfl (by decide) rfl (Nat.le_of_ble_eq_true rfl)) rfl rfl rfl ?_
  refine me1 (pc' := 101) dm_X12_keep_100 rfl rfl rfl rfl ?_
  refine me3 (pc' := 104) dm_X12_keep_101 (g_get (v := .ref 115) (lu (n := 102) (j := 0) hn rfl) rfl rfl (Nat.le_of_ble_eq_true rfl)) rfl rfl rfl ?_
  refine me0 (pc' := 106) (S' := .int (80 : Int32) :: _) dm_X12_keep_104 rfl rfl rfl rfl ?_
  refine me1 (pc' := 107) dm_X12_keep_106 rfl rfl rfl rfl ?_
  refine me0 (pc' := 108) (S' := .int (240 : Int32) :: _) dm_X12_keep_107 rfl rfl rfl rfl ?_
  refine me0 (pc' := 110) (S' := .int (40 : Int32) :: _) dm_X12_keep_108 rfl rfl rfl rfl ?_
  refine me0 (pc' := 111) (S' := .int (280 : Int32) :: _) dm_X12_keep_110 rfl rfl rfl rfl ?_
  refine me1 (pc' := 112) dm_X12_keep_111 rfl rfl rfl rfl ?_
  refine me0 (pc' := 113) (S' := .int (294 : Int32) :: _) dm_X12_keep_112 rfl rfl rfl rfl ?_
  refine me1 (pc' := 114) dm_X12_keep_113 rfl rfl rfl rfl ?_
  refine me3 (pc' := 117) dm_X12_keep_114 (g_get (v := .ref 113) (lu (n := 102) (j := 0) hn rfl) rfl rfl (Nat.le_of_ble_eq_true rfl)) rfl rfl rfl ?_
  refine me1 (pc' := 118) dm_X12_keep_117 rfl rfl rfl rfl ?_
  refine me3 (pc' := 119) dm_X12_keep_118 (g_iald (v := (0 : Int32)) (lu (n := 102) (j := 11) hn rfl) rfl (by decide) rfl (Nat.le_of_ble_eq_true rfl)) rfl rfl rfl ?_
  refine me3 (pc' := 120) dm_X12_keep_119 (u_iast (n := 102) (j := 13) hn rfl rfl (by decide) rfl (Nat.le_of_ble_eq_true rfl)) rfl rfl rfl ?_
  refine me1 (pc' := 123) (L' := [(2, .int (15 : Int32)), (0, .ref 102), (1, .int (3 : Int32))]) dm_X12_keep_120 rfl rfl rfl rfl ?_
  refine me2 (pc' := 40) dm_X12_keep_123 rfl rfl rfl ?_
  refine me1 (pc' := 41) dm_X12_keep_40 rfl rfl rfl rfl ?_
  refine me0 (pc' := 43) (S' := .int (40 : Int32) :: _) dm_X12_keep_41 rfl rfl rfl rfl ?_
  refine me_2f (pc' := 46) dm_X12_keep_43 rfl (by decide) rfl ?_
  refine me1 (pc' := 47) dm_X12_keep_46 rfl rfl rfl rfl ?_
  refine me3 (pc' := 50) dm_X12_keep_47 (g_get (v := .ref 114) (lu (n := 102) (j := 0) hn rfl) rfl rfl (Nat.le_of_ble_eq_true rfl)) rfl rfl rfl ?_
  refine me0 (pc' := 52) (S' := .int (80 : Int32) :: _) dm_X12_keep_50 rfl rfl rfl rfl ?_
  refine me1 (pc' := 53) dm_X12_keep_52 rfl rfl rfl rfl ?_
  refine me0 (pc' := 54) (S' := .int (240 : Int32) :: _) dm_X12_keep_53 rfl rfl rfl rfl ?_
  refine me1 (pc' := 55) dm_X12_keep_54 rfl rfl rfl rfl ?_
  refine me0 (pc' := 56) (S' := .int (255 : Int32) :: _) dm_X12_keep_55 rfl rfl rfl rfl ?_
  refine me1 (pc' := 57) dm_X12_keep_56 rfl rfl rfl rfl ?_
  refine me3 (pc' := 60) dm_X12_keep_57 (g_get (v := .ref 110) (lu (n := 102) (j := 0) hn rfl) rfl rfl (Nat.le_of_ble_eq_true rfl)) rfl rfl rfl ?_
  refine me1 (pc' := 61) dm_X12_keep_60 rfl rfl rfl rfl ?_
  refine me3 (pc' := 62) dm_X12_keep_61 (g_lald (v := (0 : Int64)) (lu (n := 102) (j := 8) hn rfl) rfl (by decide) rfl (Nat.le_of_ble_eq_true rfl)) rfl rfl rfl ?_
  refine me3 (pc' := 63) dm_X12_keep_62 (u_last (n := 102) (j := 12) hn rfl rfl (by decide) rfl (Nat.le_of_ble_eq_true rfl)) rfl rfl rfl ?_
  refine me1 (pc' := 64) dm_X12_keep_63 rfl rfl rfl rfl ?_
  refine me3 (pc' := 67) dm_X12_keep_64 (g_get (v := .ref 115) (lu (n := 102) (j := 0) hn rfl) rfl rfl (Nat.le_of_ble_eq_true rfl)) rfl rfl rfl ?_
  refine me0 (pc' := 69) (S' := .int (80 : Int32) :: _) dm_X12_keep_67 rfl rfl rfl rfl ?_
  refine me1 (pc' := 70) dm_X12_keep_69 rfl rfl rfl rfl ?_
  refine me0 (pc' := 71) (S' := .int (240 : Int32) :: _) dm_X12_keep_70 rfl rfl rfl rfl ?_
  refine me1 (pc' := 72) dm_X12_keep_71 rfl rfl rfl rfl ?_
  refine me0 (pc' := 73) (S' := .int (255 : Int32) :: _) dm_X12_keep_72 rfl rfl rfl rfl ?_
  refine me1 (pc' := 74) dm_X12_keep_73 rfl rfl rfl rfl ?_
  refine me3 (pc' := 77) dm_X12_keep_74 (g_get (v := .ref 112) (lu (n := 102) (j := 0) hn rfl) rfl rfl (Nat.le_of_ble_eq_true rfl)) rfl rfl rfl ?_
  refine me1 (pc' := 78) dm_X12_keep_77 rfl rfl rfl rfl ?_
  refine me3 (pc' := 79) dm_X12_keep_78 (g_iald (v := (0 : Int32)) (lu (n := 102) (j := 10) hn rfl) rfl (by decide) rfl (Nat.le_of_ble_eq_true rfl)) rfl rfl rfl ?_
  refine me3 (pc' := 80) dm_X12_keep_79 (u_iast (n := 102) (j := 13) hn rfl rfl (by decide) rfl (Nat.le_of_ble_eq_true rfl)) rfl rfl rfl ?_
  refine me1 (pc' := 81) dm_X12_keep_80 rfl rfl rfl rfl ?_
  refine me3 (pc' := 84) dm_X12_keep_81 (g_get (v := .ref 114) (lu (n := 102) (j := 0) hn rfl) rfl rfl (Nat.le_of_ble_eq_true rfl)) rfl rfl rfl ?_
  refine me0 (pc' := 86) (S' := .int (80 : Int32) :: _) dm_X12_keep_84 rfl rfl rfl rfl ?_
  refine me1 (pc' := 87) dm_X12_keep_86 rfl rfl rfl rfl ?_
  refine me0 (pc' := 88) (S' := .int (240 : Int32) :: _) dm_X12_keep_87 rfl rfl rfl rfl ?_
  refine me0 (pc' := 90) (S' := .int (40 : Int32) :: _) dm_X12_keep_88 rfl rfl rfl rfl ?_
  refine me0 (pc' := 91) (S' := .int (280 : Int32) :: _) dm_X12_keep_90 rfl rfl rfl rfl ?_
  refine me1 (pc' := 92) dm_X12_keep_91 rfl rfl rfl rfl ?_
  refine me0 (pc' := 93) (S' := .int (295 : Int32) :: _) dm_X12_keep_92 rfl rfl rfl rfl ?_
  refine me1 (pc' := 94) dm_X12_keep_93 rfl rfl rfl rfl ?_
  refine me3 (pc' := 97) dm_X12_keep_94 (g_get (v := .ref 111) (lu (n := 102) (j := 0) hn rfl) rfl rfl (Nat.le_of_ble_eq_true rfl)) rfl rfl rfl ?_
  refine me1 (pc' := 98) dm_X12_keep_97 rfl rfl rfl rfl ?_
  refine me3 (pc' := 99) dm_X12_keep_98 (g_lald (v := (0 : Int64)) (lu (n := 102) (j := 9) hn rfl) rfl (by decide) rfl (Nat.le_of_ble_eq_true rfl)) rfl rfl rfl ?_
  refine me3 (pc' := 100) dm_X12_keep_99 (u_last (n := 102) (j := 12) hn rfl rfl (by decide) rfl (Nat.le_of_ble_eq_true rfl)) rfl rfl rfl ?_
  refine me1 (pc' := 101) dm_X12_keep_100 rfl rfl rfl rfl ?_
  refine me3 (pc' := 104) dm_X12_keep_101 (g_get (v := .ref 115) (lu (n := 102) (j := 0) hn rfl) rfl rfl (Nat.le_of_ble_eq_true rfl)) rfl rfl rfl ?_
  refine me0 (pc' := 106) (S' := .int (80 : Int32) :: _) dm_X12_keep_104 rfl rfl rfl rfl ?_
  refine me1 (pc' := 107) dm_X12_keep_106 rfl rfl rfl rfl ?_
  refine me0 (pc' := 108) (S' := .int (240 : Int32) :: _) dm_X12_keep_107 rfl rfl rfl rfl ?_
  refine me0 (pc' := 110) (S' := .int (40 : Int32) :: _) dm_X12_keep_108 rfl rfl rfl rfl ?_
  refine me0 (pc' := 111) (S' := .int (280 : Int32) :: _) dm_X12_keep_110 rfl rfl rfl rfl ?_
  refine me1 (pc' := 112) dm_X12_keep_111 rfl rfl rfl rfl ?_
  refine me0 (pc' := 113) (S' := .int (295 : Int32) :: _) dm_X12_keep_112 rfl rfl rfl rfl ?_
  refine me1 (pc' := 114) dm_X12_keep_113 rfl rfl rfl rfl ?_
  refine me3 (pc' := 117) dm_X12_keep_114 (g_get (v := .ref 113) (lu (n := 102) (j := 0) hn rfl) rfl rfl (Nat.le_of_ble_eq_true rfl)) rfl rfl rfl ?_
  refine me1 (pc' := 118) dm_X12_keep_117 rfl rfl rfl rfl ?_
  refine me3 (pc' := 119) dm_X12_keep_118 (g_iald (v := (0 : Int32)) (lu (n := 102) (j := 11) hn rfl) rfl (by decide) rfl (Nat.le_of_ble_eq_true rfl)) rfl rfl rfl ?_
  refine me3 (pc' := 120) dm_X12_keep_119 (u_iast (n := 102) (j := 13) hn rfl rfl (by decide) rfl (Nat.le_of_ble_eq_true rfl)) rfl rfl rfl ?_
  refine me1 (pc' := 123) (L' := [(2, .int (16 : Int32)), (0, .ref 102), (1, .int (3 : Int32))]) dm_X12_keep_120 rfl rfl rfl rfl ?_
  refine me2 (pc' := 40) dm_X12_keep_123 rfl rfl rfl ?_
  refine me1 (pc' := 41) dm_X12_keep_40 rfl rfl rfl rfl ?_
  refine me0 (pc' := 43) (S' := .int (40 : Int32) :: _) dm_X12_keep_41 rfl rfl rfl rfl ?_
  refine me_2f (pc' := 46) dm_X12_keep_43 rfl (by decide) rfl ?_
  refine me1 (pc' := 47) dm_X12_keep_46 rfl rfl rfl rfl ?_
  refine me3 (pc' := 50) dm_X12_keep_47 (g_get (v := .ref 114) (lu (n := 102) (j := 0) hn rfl) rfl rfl (Nat.le_of_ble_eq_true rfl)) rfl rfl rfl ?_
  refine me0 (pc' := 52) (S' := .int (80 : Int32) :: _) dm_X12_keep_50 rfl rfl rfl rfl ?_
  refine me1 (pc' := 53) dm_X12_keep_52 rfl rfl rfl rfl ?_
  refine me0 (pc' := 54) (S' := .int (240 : Int32) :: _) dm_X12_keep_53 rfl rfl rfl rfl ?_
  refine me1 (pc' := 55) dm_X12_keep_54 rfl rfl rfl rfl ?_
  refine me0 (pc' := 56) (S' := .int (256 : Int32) :: _) dm_X12_keep_55 rfl rfl rfl rfl ?_
  refine me1 (pc' := 57) dm_X12_keep_56 rfl rfl rfl rfl ?_
  refine me3 (pc' := 60) dm_X12_keep_57 (g_get (v := .ref 110) (lu (n := 102) (j := 0) hn rfl) rfl rfl (Nat.le_of_ble_eq_true rfl)) rfl rfl rfl ?_
  refine me1 (pc' := 61) dm_X12_keep_60 rfl rfl rfl rfl ?_
  refine me3 (pc' := 62) dm_X12_keep_61 (g_lald (v := (0 : Int64)) (lu (n := 102) (j := 8) hn rfl) rfl (by decide) rfl (Nat.le_of_ble_eq_true rfl)) rfl rfl rfl ?_
  refine me3 (pc' := 63) dm_X12_keep_62 (u_last (n := 102) (j := 12) hn rfl rfl (by decide) rfl (Nat.le_of_ble_eq_true rfl)) rfl rfl rfl ?_
  refine me1 (pc' := 64) dm_X12_keep_63 rfl rfl rfl rfl ?_
  refine me3 (pc' := 67) dm_X12_keep_64 (g_get (v := .ref 115) (lu (n := 102) (j := 0) hn rfl) rfl rfl (Nat.le_of_ble_eq_true rfl)) rfl rfl rfl ?_
  refine me0 (pc' := 69) (S' := .int (80 : Int32) :: _) dm_X12_keep_67 rfl rfl rfl rfl ?_
  refine me1 (pc' := 70) dm_X12_keep_69 rfl rfl rfl rfl ?_
  refine me0 (pc' := 71) (S' := .int (240 : Int32) :: _) dm_X12_keep_70 rfl rfl rfl rfl ?_
  refine me1 (pc' := 72) dm_X12_keep_71 rfl rfl rfl rfl ?_
  refine me0 (pc' := 73) (S' := .int (256 : Int32) :: _) dm_X12_keep_72 rfl rfl rfl rfl ?_
  refine me1 (pc' := 74) dm_X12_keep_73 rfl rfl rfl rfl ?_
  refine me3 (pc' := 77) dm_X12_keep_74 (g_get (v := .ref 112) (lu (n := 102) (j := 0) hn rfl) rfl rfl (Nat.le_of_ble_eq_true rfl)) rfl rfl rfl ?_
  refine me1 (pc' := 78) dm_X12_keep_77 rfl rfl rfl rfl ?_
  refine me3 (pc' := 79) dm_X12_keep_78 (g_iald (v := (0 : Int32)) (lu (n := 102) (j := 10) hn rfl) rfl (by decide) rfl (Nat.le_of_ble_eq_true rfl)) rfl rfl rfl ?_
  refine me3 (pc' := 80) dm_X12_keep_79 (u_iast (n := 102) (j := 13) hn rfl rfl (by decide) rfl (Nat.le_of_ble_eq_true rfl)) rfl rfl rfl ?_
  refine me1 (pc' := 81) dm_X12_keep_80 rfl rfl rfl rfl ?_
  refine me3 (pc' := 84) dm_X12_keep_81 (g_get (v := .ref 114) (lu (n := 102) (j := 0) hn rfl) rfl rfl (Nat.le_of_ble_eq_true rfl)) rfl rfl rfl ?_
  refine me0 (pc' := 86) (S' := .int (80 : Int32) :: _) dm_X12_keep_84 rfl rfl rfl rfl ?_
  refine me1 (pc' := 87) dm_X12_keep_86 rfl rfl rfl rfl ?_
  refine me0 (pc' := 88) (S' := .int (240 : Int32) :: _) dm_X12_keep_87 rfl rfl rfl rfl ?_
  refine me0 (pc' := 90) (S' := .int (40 : Int32) :: _) dm_X12_keep_88 rfl rfl rfl rfl ?_
  refine me0 (pc' := 91) (S' := .int (280 : Int32) :: _) dm_X12_keep_90 rfl rfl rfl rfl ?_
  refine me1 (pc' := 92) dm_X12_keep_91 rfl rfl rfl rfl ?_
  refine me0 (pc' := 93) (S' := .int (296 : Int32) :: _) dm_X12_keep_92 rfl rfl rfl rfl ?_
  refine me1 (pc' := 94) dm_X12_keep_93 rfl rfl rfl rfl ?_
  refine me3 (pc' := 97) dm_X12_keep_94 (g_get (v := .ref 111) (lu (n := 102) (j := 0) hn rfl) rfl rfl (Nat.le_of_ble_eq_true rfl)) rfl rfl rfl ?_
  refine me1 (pc' := 98) dm_X12_keep_97 rfl rfl rfl rfl ?_
  refine me3 (pc' := 99) dm_X12_keep_98 (g_lald (v := (0 : Int64)) (lu (n := 102) (j := 9) hn rfl) rfl (by decide) rfl (Nat.le_of_ble_eq_true rfl)) rfl rfl rfl ?_
  refine me3 (pc' := 100) dm_X12_keep_99 (u_last (n := 102) (j := 12) hn rfl rfl (by decide) rfl (Nat.le_of_ble_eq_true rfl)) rfl rfl rfl ?_
  refine me1 (pc' := 101) dm_X12_keep_100 rfl rfl rfl rfl ?_
  refine me3 (pc' := 104) dm_X12_keep_101 (g_get (v := .ref 115) (lu (n := 102) (j := 0) hn rfl) rfl rfl (Nat.le_of_ble_eq_true rfl)) rfl rfl rfl ?_
  refine me0 (pc' := 106) (S' := .int (80 : Int32) :: _) dm_X12_keep_104 rfl rfl rfl rfl ?_
  refine me1 (pc' := 107) dm_X12_keep_106 rfl rfl rfl rfl ?_
  refine me0 (pc' := 108) (S' := .int (240 : Int32) :: _) dm_X12_keep_107 rfl rfl rfl rfl ?_
  refine me0 (pc' := 110) (S' := .int (40 : Int32) :: _) dm_X12_keep_108 rfl rfl rfl rfl ?_
  refine me0 (pc' := 111) (S' := .int (280 : Int32) :: _) dm_X12_keep_110 rfl rfl rfl rfl ?_
  refine me1 (pc' := 112) dm_X12_keep_111 rfl rfl rfl rfl ?_
  refine me0 (pc' := 113) (S' := .int (296 : Int32) :: _) dm_X12_keep_112 rfl rfl rfl rfl ?_
  refine me1 (pc' := 114) dm_X12_keep_113 rfl rfl rfl rfl ?_
  refine me3 (pc' := 117) dm_X12_keep_114 (g_get (v := .ref 113) (lu (n := 102) (j := 0) hn rfl) rfl rfl (Nat.le_of_ble_eq_true rfl)) rfl rfl rfl ?_
  refine me1 (pc' := 118) dm_X12_keep_117 rfl rfl rfl rfl ?_
  refine me3 (pc' := 119) dm_X12_keep_118 (g_iald (v := (0 : Int32)) (lu (n := 102) (j := 11) hn rfl) rfl (by decide) rfl (Nat.le_of_ble_eq_true rfl)) rfl rfl rfl ?_
  refine me3 (pc' := 120) dm_X12_keep_119 (u_iast (n := 102) (j := 13) hn rfl rfl (by decide) rfl (Nat.le_of_ble_eq_true rfl)) rfl rfl rfl ?_
  refine me1 (pc' := 123) (L' := [(2, .int (17 : Int32)), (0, .ref 102), (1, .int (3 : Int32))]) dm_X12_keep_120 rfl rfl rfl rfl ?_
  refine me2 (pc' := 40) dm_X12_keep_123 rfl rfl rfl ?_
  refine me1 (pc' := 41) dm_X12_keep_40 rfl rfl rfl rfl ?_
  refine me0 (pc' := 43) (S' := .int (40 : Int32) :: _) dm_X12_keep_41 rfl rfl rfl rfl ?_
  refine me_2f (pc' := 46) dm_X12_keep_43 rfl (by decide) rfl ?_
  refine me1 (pc' := 47) dm_X12_keep_46 rfl rfl rfl rfl ?_
  refine me3 (pc' := 50) dm_X12_keep_47 (g_get (v := .ref 114) (lu (n := 102) (j := 0) hn rfl) rfl rfl (Nat.le_of_ble_eq_true rfl)) rfl rfl rfl ?_
  refine me0 (pc' := 52) (S' := .int (80 : Int32) :: _) dm_X12_keep_50 rfl rfl rfl rfl ?_
  refine me1 (pc' := 53) dm_X12_keep_52 rfl rfl rfl rfl ?_
  refine me0 (pc' := 54) (S' := .int (240 : Int32) :: _) dm_X12_keep_53 rfl rfl rfl rfl ?_
  refine me1 (pc' := 55) dm_X12_keep_54 rfl rfl rfl rfl ?_
  refine me0 (pc' := 56) (S' := .int (257 : Int32) :: _) dm_X12_keep_55 rfl rfl rfl rfl ?_
  refine me1 (pc' := 57) dm_X12_keep_56 rfl rfl rfl rfl ?_
  refine me3 (pc' := 60) dm_X12_keep_57 (g_get (v := .ref 110) (lu (n := 102) (j := 0) hn rfl) rfl rfl (Nat.le_of_ble_eq_true rfl)) rfl rfl rfl ?_
  refine me1 (pc' := 61) dm_X12_keep_60 rfl rfl rfl rfl ?_
  refine me3 (pc' := 62) dm_X12_keep_61 (g_lald (v := (0 : Int64)) (lu (n := 102) (j := 8) hn rfl) rfl (by decide) rfl (Nat.le_of_ble_eq_true rfl)) rfl rfl rfl ?_
  refine me3 (pc' := 63) dm_X12_keep_62 (u_last (n := 102) (j := 12) hn rfl rfl (by decide) rfl (Nat.le_of_ble_eq_true rfl)) rfl rfl rfl ?_
  refine me1 (pc' := 64) dm_X12_keep_63 rfl rfl rfl rfl ?_
  refine me3 (pc' := 67) dm_X12_keep_64 (g_get (v := .ref 115) (lu (n := 102) (j := 0) hn rfl) rfl rfl (Nat.le_of_ble_eq_true rfl)) rfl rfl rfl ?_
  refine me0 (pc' := 69) (S' := .int (80 : Int32) :: _) dm_X12_keep_67 rfl rfl rfl rfl ?_
  refine me1 (pc' := 70) dm_X12_keep_69 rfl rfl rfl rfl ?_
  refine me0 (pc' := 71) (S' := .int (240 : Int32) :: _) dm_X12_keep_70 rfl rfl rfl rfl ?_
  refine me1 (pc' := 72) dm_X12_keep_71 rfl rfl rfl rfl ?_
  refine me0 (pc' := 73) (S' := .int (257 : Int32) :: _) dm_X12_keep_72 rfl rfl rfl rfl ?_
  refine me1 (pc' := 74) dm_X12_keep_73 rfl rfl rfl rfl ?_
  refine me3 (pc' := 77) dm_X12_keep_74 (g_get (v := .ref 112) (lu (n := 102) (j := 0) hn rfl) rfl rfl (Nat.le_of_ble_eq_true rfl)) rfl rfl rfl ?_
  refine me1 (pc' := 78) dm_X12_keep_77 rfl rfl rfl rfl ?_
  refine me3 (pc' := 79) dm_X12_keep_78 (g_iald (v := (0 : Int32)) (lu (n := 102) (j := 10) hn rfl) rfl (by decide) rfl (Nat.le_of_ble_eq_true rfl)) rfl rfl rfl ?_
  refine me3 (pc' := 80) dm_X12_keep_79 (u_iast (n := 102) (j := 13) hn rfl rfl (by decide) rfl (Nat.le_of_ble_eq_true rfl)) rfl rfl rfl ?_
  refine me1 (pc' := 81) dm_X12_keep_80 rfl rfl rfl rfl ?_
  refine me3 (pc' := 84) dm_X12_keep_81 (g_get (v := .ref 114) (lu (n := 102) (j := 0) hn rfl) rfl rfl (Nat.le_of_ble_eq_true rfl)) rfl rfl rfl ?_
  refine me0 (pc' := 86) (S' := .int (80 : Int32) :: _) dm_X12_keep_84 rfl rfl rfl rfl ?_
  refine me1 (pc' := 87) dm_X12_keep_86 rfl rfl rfl rfl ?_
  refine me0 (pc' := 88) (S' := .int (240 : Int32) :: _) dm_X12_keep_87 rfl rfl rfl rfl ?_
  refine me0 (pc' := 90) (S' := .int (40 : Int32) :: _) dm_X12_keep_88 rfl rfl rfl rfl ?_
  refine me0 (pc' := 91) (S' := .int (280 : Int32) :: _) dm_X12_keep_90 rfl rfl rfl rfl ?_
  refine me1 (pc' := 92) dm_X12_keep_91 rfl rfl rfl rfl ?_
  refine me0 (pc' := 93) (S' := .int (297 : Int32) :: _) dm_X12_keep_92 rfl rfl rfl rfl ?_
  refine me1 (pc' := 94) dm_X12_keep_93 rfl rfl rfl rfl ?_
  refine me3 (pc' := 97) dm_X12_keep_94 (g_get (v := .ref 111) (lu (n := 102) (j := 0) hn rfl) rfl rfl (Nat.le_of_ble_eq_true rfl)) rfl rfl rfl ?_
  refine me1 (pc' := 98) dm_X12_keep_97 rfl rfl rfl rfl ?_
  refine me3 (pc' := 99) dm_X12_keep_98 (g_lald (v := (0 : Int64)) (lu (n := 102) (j := 9) hn rfl) rfl (by decide) rfl (Nat.le_of_ble_eq_true rfl)) rfl rfl rfl ?_
  refine me3 (pc' := 100) dm_X12_keep_99 (u_last (n := 102) (j := 12) hn rfl rfl (by decide) rfl (Nat.le_of_ble_eq_true rfl)) rfl rfl rfl ?_
  refine me1 (pc' := 101) dm_X12_keep_100 rfl rfl rfl rfl ?_
  refine me3 (pc' := 104) dm_X12_keep_101 (g_get (v := .ref 115) (lu (n := 102) (j := 0) hn rfl) rfl rfl (Nat.le_of_ble_eq_true rfl)) rfl rfl rfl ?_
  refine me0 (pc' := 106) (S' := .int (80 : Int32) :: _) dm_X12_keep_104 rfl rfl rfl rfl ?_
  refine me1 (pc' := 107) dm_X12_keep_106 rfl rfl rfl rfl ?_
  refine me0 (pc' := 108) (S' := .int (240 : Int32) :: _) dm_X12_keep_107 rfl rfl rfl rfl ?_
  refine me0 (pc' := 110) (S' := .int (40 : Int32) :: _) dm_X12_keep_108 rfl rfl rfl rfl ?_
  refine me0 (pc' := 111) (S' := .int (280 : Int32) :: _) dm_X12_keep_110 rfl rfl rfl rfl ?_
  refine me1 (pc' := 112) dm_X12_keep_111 rfl rfl rfl rfl ?_
  refine me0 (pc' := 113) (S' := .int (297 : Int32) :: _) dm_X12_keep_112 rfl rfl rfl rfl ?_
  refine me1 (pc' := 114) dm_X12_keep_113 rfl rfl rfl rfl ?_
  refine me3 (pc' := 117) dm_X12_keep_114 (g_get (v := .ref 113) (lu (n := 102) (j := 0) hn rfl) rfl rfl (Nat.le_of_ble_eq_true rfl)) rfl rfl rfl ?_
  refine me1 (pc' := 118) dm_X12_keep_117 rfl rfl rfl rfl ?_
  refine me3 (pc' := 119) dm_X12_keep_118 (g_iald (v := (0 : Int32)) (lu (n := 102) (j := 11) hn rfl) rfl (by decide) rfl (Nat.le_of_ble_eq_true rfl)) rfl rfl rfl ?_
  refine me3 (pc' := 120) dm_X12_keep_119 (u_iast (n := 102) (j := 13) hn rfl rfl (by decide) rfl (Nat.le_of_ble_eq_true rfl)) rfl rfl rfl ?_
  refine me1 (pc' := 123) (L' := [(2, .int (18 : Int32)), (0, .ref 102), (1, .int (3 : Int32))]) dm_X12_keep_120 rfl rfl rfl rfl ?_
  refine me2 (pc' := 40) dm_X12_keep_123 rfl rfl rfl ?_
  refine me1 (pc' := 41) dm_X12_keep_40 rfl rfl rfl rfl ?_
  refine me0 (pc' := 43) (S' := .int (40 : Int32) :: _) dm_X12_keep_41 rfl rfl rfl rfl ?_
  refine me_2f (pc' := 46) dm_X12_keep_43 rfl (by decide) rfl ?_
  refine me1 (pc' := 47) dm_X12_keep_46 rfl rfl rfl rfl ?_
  refine me3 (pc' := 50) dm_X12_keep_47 (g_get (v := .ref 114) (lu (n := 102) (j := 0) hn rfl) rfl rfl (Nat.le_of_ble_eq_true rfl)) rfl rfl rfl ?_
  refine me0 (pc' := 52) (S' := .int (80 : Int32) :: _) dm_X12_keep_50 rfl rfl rfl rfl ?_
  refine me1 (pc' := 53) dm_X12_keep_52 rfl rfl rfl rfl ?_
  refine me0 (pc' := 54) (S' := .int (240 : Int32) :: _) dm_X12_keep_53 rfl rfl rfl rfl ?_
  refine me1 (pc' := 55) dm_X12_keep_54 rfl rfl rfl rfl ?_
  refine me0 (pc' := 56) (S' := .int (258 : Int32) :: _) dm_X12_keep_55 rfl rfl rfl rfl ?_
  refine me1 (pc' := 57) dm_X12_keep_56 rfl rfl rfl rfl ?_
  refine me3 (pc' := 60) dm_X12_keep_57 (g_get (v := .ref 110) (lu (n := 102) (j := 0) hn rfl) rfl rfl (Nat.le_of_ble_eq_true rfl)) rfl rfl rfl ?_
  refine me1 (pc' := 61) dm_X12_keep_60 rfl rfl rfl rfl ?_
  refine me3 (pc' := 62) dm_X12_keep_61 (g_lald (v := (0 : Int64)) (lu (n := 102) (j := 8) hn rfl) rfl (by decide) rfl (Nat.le_of_ble_eq_true rfl)) rfl rfl rfl ?_
  refine me3 (pc' := 63) dm_X12_keep_62 (u_last (n := 102) (j := 12) hn rfl rfl (by decide) rfl (Nat.le_of_ble_eq_true rfl)) rfl rfl rfl ?_
  refine me1 (pc' := 64) dm_X12_keep_63 rfl rfl rfl rfl ?_
  refine me3 (pc' := 67) dm_X12_keep_64 (g_get (v := .ref 115) (lu (n := 102) (j := 0) hn rfl) rfl rfl (Nat.le_of_ble_eq_true rfl)) rfl rfl rfl ?_
  refine me0 (pc' := 69) (S' := .int (80 : Int32) :: _) dm_X12_keep_67 rfl rfl rfl rfl ?_
  refine me1 (pc' := 70) dm_X12_keep_69 rfl rfl rfl rfl ?_
  refine me0 (pc' := 71) (S' := .int (240 : Int32) :: _) dm_X12_keep_70 rfl rfl rfl rfl ?_
  refine me1 (pc' := 72) dm_X12_keep_71 rfl rfl rfl rfl ?_
  refine me0 (pc' := 73) (S' := .int (258 : Int32) :: _) dm_X12_keep_72 rfl rfl rfl rfl ?_
  refine me1 (pc' := 74) dm_X12_keep_73 rfl rfl rfl rfl ?_
  refine me3 (pc' := 77) dm_X12_keep_74 (g_get (v := .ref 112) (lu (n := 102) (j := 0) hn rfl) rfl rfl (Nat.le_of_ble_eq_true rfl)) rfl rfl rfl ?_
  refine me1 (pc' := 78) dm_X12_keep_77 rfl rfl rfl rfl ?_
  refine me3 (pc' := 79) dm_X12_keep_78 (g_iald (v := (0 : Int32)) (lu (n := 102) (j := 10) hn rfl) rfl (by decide) rfl (Nat.le_of_ble_eq_true rfl)) rfl rfl rfl ?_
  refine me3 (pc' := 80) dm_X12_keep_79 (u_iast (n := 102) (j := 13) hn rfl rfl (by decide) rfl (Nat.le_of_ble_eq_true rfl)) rfl rfl rfl ?_
  refine me1 (pc' := 81) dm_X12_keep_80 rfl rfl rfl rfl ?_
  refine me3 (pc' := 84) dm_X12_keep_81 (g_get (v := .ref 114) (lu (n := 102) (j := 0) hn rfl) rfl rfl (Nat.le_of_ble_eq_true rfl)) rfl rfl rfl ?_
  refine me0 (pc' := 86) (S' := .int (80 : Int32) :: _) dm_X12_keep_84 rfl rfl rfl rfl ?_
  refine me1 (pc' := 87) dm_X12_keep_86 rfl rfl rfl rfl ?_
  refine me0 (pc' := 88) (S' := .int (240 : Int32) :: _) dm_X12_keep_87 rfl rfl rfl rfl ?_
  refine me0 (pc' := 90) (S' := .int (40 : Int32) :: _) dm_X12_keep_88 rfl rfl rfl rfl ?_
  refine me0 (pc' := 91) (S' := .int (280 : Int32) :: _) dm_X12_keep_90 rfl rfl rfl rfl ?_
  refine me1 (pc' := 92) dm_X12_keep_91 rfl rfl rfl rfl ?_
  refine me0 (pc' := 93) (S' := .int (298 : Int32) :: _) dm_X12_keep_92 rfl rfl rfl rfl ?_
  refine me1 (pc' := 94) dm_X12_keep_93 rfl rfl rfl rfl ?_
  refine me3 (pc' := 97) dm_X12_keep_94 (g_get (v := .ref 111) (lu (n := 102) (j := 0) hn rfl) rfl rfl (Nat.le_of_ble_eq_true rfl)) rfl rfl rfl ?_
  refine me1 (pc' := 98) dm_X12_keep_97 rfl rfl rfl rfl ?_
  refine me3 (pc' := 99) dm_X12_keep_98 (g_lald (v := (0 : Int64)) (lu (n := 102) (j := 9) hn rfl) rfl (by decide) rfl (Nat.le_of_ble_eq_true rfl)) rfl rfl rfl ?_
  refine me3 (pc' := 100) dm_X12_keep_99 (u_last (n := 102) (j := 12) hn rfl rfl (by decide) rfl (Nat.le_of_ble_eq_true rfl)) rfl rfl rfl ?_
  refine me1 (pc' := 101) dm_X12_keep_100 rfl rfl rfl rfl ?_
  refine me3 (pc' := 104) dm_X12_keep_101 (g_get (v := .ref 115) (lu (n := 102) (j := 0) hn rfl) rfl rfl (Nat.le_of_ble_eq_true rfl)) rfl rfl rfl ?_
  refine me0 (pc' := 106) (S' := .int (80 : Int32) :: _) dm_X12_keep_104 rfl rfl rfl rfl ?_
  refine me1 (pc' := 107) dm_X12_keep_106 rfl rfl rfl rfl ?_
  refine me0 (pc' := 108) (S' := .int (240 : Int32) :: _) dm_X12_keep_107 rfl rfl rfl rfl ?_
  refine me0 (pc' := 110) (S' := .int (40 : Int32) :: _) dm_X12_keep_108 rfl rfl rfl rfl ?_
  refine me0 (pc' := 111) (S' := .int (280 : Int32) :: _) dm_X12_keep_110 rfl rfl rfl rfl ?_
  refine me1 (pc' := 112) dm_X12_keep_111 rfl rfl rfl rfl ?_
  refine me0 (pc' := 113) (S' := .int (298 : Int32) :: _) dm_X12_keep_112 rfl rfl rfl rfl ?_
  refine me1 (pc' := 114) dm_X12_keep_113 rfl rfl rfl rfl ?_
  refine me3 (pc' := 117) dm_X12_keep_114 (g_get (v := .ref 113) (lu (n := 102) (j := 0) hn rfl) rfl rfl (Nat.le_of_ble_eq_true rfl)) rfl rfl rfl ?_
  refine me1 (pc' := 118) dm_X12_keep_117 rfl rfl rfl rfl ?_
  refine me3 (pc' := 119) dm_X12_keep_118 (g_iald (v := (0 : Int32)) (lu (n := 102) (j := 11) hn rfl) rfl (by decide) rfl (Nat.le_of_ble_eq_true rfl)) rfl rfl rfl ?_
  refine me3 (pc' := 120) dm_X12_keep_119 (u_iast (n := 102) (j := 13) hn rfl rfl (by decide) rfl (Nat.le_of_ble_eq_true rfl)) rfl rfl rfl ?_
  refine me1 (pc' := 123) (L' := [(2, .int (19 : Int32)), (0, .ref 102), (1, .int (3 : Int32))]) dm_X12_keep_120 rfl rfl rfl rfl ?_
  refine me2 (pc' := 40) dm_X12_keep_123 rfl rfl rfl ?_
  refine me1 (pc' := 41) dm_X12_keep_40 rfl rfl rfl rfl ?_
  refine me0 (pc' := 43) (S' := .int (40 : Int32) :: _) dm_X12_keep_41 rfl rfl rfl rfl ?_
  refine me_2f (pc' := 46) dm_X12_keep_43 rfl (by decide) rfl ?_
  refine me1 (pc' := 47) dm_X12_keep_46 rfl rfl rfl rfl ?_
  refine me3 (pc' := 50) dm_X12_keep_47 (g_get (v := .ref 114) (lu (n := 102) (j := 0) hn rfl) rfl rfl (Nat.le_of_ble_eq_true rfl)) rfl rfl rfl ?_
  refine me0 (pc' := 52) (S' := .int (80 : Int32) :: _) dm_X12_keep_50 rfl rfl rfl rfl ?_
  refine me1 (pc' := 53) dm_X12_keep_52 rfl rfl rfl rfl ?_
  refine me0 (pc' := 54) (S' := .int (240 : Int32) :: _) dm_X12_keep_53 rfl rfl rfl rfl ?_
  refine me1 (pc' := 55) dm_X12_keep_54 rfl rfl rfl rfl ?_
  refine me0 (pc' := 56) (S' := .int (259 : Int32) :: _) dm_X12_keep_55 rfl rfl rfl rfl ?_
  refine me1 (pc' := 57) dm_X12_keep_56 rfl rfl rfl rfl ?_
  refine me3 (pc' := 60) dm_X12_keep_57 (g_get (v := .ref 110) (lu (n := 102) (j := 0) hn rfl) rfl rfl (Nat.le_of_ble_eq_true rfl)) rfl rfl rfl ?_
  refine me1 (pc' := 61) dm_X12_keep_60 rfl rfl rfl rfl ?_
  refine me3 (pc' := 62) dm_X12_keep_61 (g_lald (v := (0 : Int64)) (lu (n := 102) (j := 8) hn rfl) rfl (by decide) rfl (Nat.le_of_ble_eq_true rfl)) rfl rfl rfl ?_
  refine me3 (pc' := 63) dm_X12_keep_62 (u_last (n := 102) (j := 12) hn rfl rfl (by decide) rfl (Nat.le_of_ble_eq_true rfl)) rfl rfl rfl ?_
  refine me1 (pc' := 64) dm_X12_keep_63 rfl rfl rfl rfl ?_
  refine me3 (pc' := 67) dm_X12_keep_64 (g_get (v := .ref 115) (lu (n := 102) (j := 0) hn rfl) rfl rfl (Nat.le_of_ble_eq_true rfl)) rfl rfl rfl ?_
  refine me0 (pc' := 69) (S' := .int (80 : Int32) :: _) dm_X12_keep_67 rfl rfl rfl rfl ?_
  refine me1 (pc' := 70) dm_X12_keep_69 rfl rfl rfl rfl ?_
  refine me0 (pc' := 71) (S' := .int (240 : Int32) :: _) dm_X12_keep_70 rfl rfl rfl rfl ?_
  refine me1 (pc' := 72) dm_X12_keep_71 rfl rfl rfl rfl ?_
  refine me0 (pc' := 73) (S' := .int (259 : Int32) :: _) dm_X12_keep_72 rfl rfl rfl rfl ?_
  refine me1 (pc' := 74) dm_X12_keep_73 rfl rfl rfl rfl ?_
  refine me3 (pc' := 77) dm_X12_keep_74 (g_get (v := .ref 112) (lu (n := 102) (j := 0) hn rfl) rfl rfl (Nat.le_of_ble_eq_true rfl)) rfl rfl rfl ?_
  refine me1 (pc' := 78) dm_X12_keep_77 rfl rfl rfl rfl ?_
  refine me3 (pc' := 79) dm_X12_keep_78 (g_iald (v := (0 : Int32)) (lu (n := 102) (j := 10) hn rfl) rfl (by decide) rfl (Nat.le_of_ble_eq_true rfl)) rfl rfl rfl ?_
  refine me3 (pc' := 80) dm_X12_keep_79 (u_iast (n := 102) (j := 13) hn rfl rfl (by decide) rfl (Nat.le_of_ble_eq_true rfl)) rfl rfl rfl ?_
  refine me1 (pc' := 81) dm_X12_keep_80 rfl rfl rfl rfl ?_
  refine me3 (pc' := 84) dm_X12_keep_81 (g_get (v := .ref 114) (lu (n := 102) (j := 0) hn rfl) rfl rfl (Nat.le_of_ble_eq_true rfl)) rfl rfl rfl ?_
  refine me0 (pc' := 86) (S' := .int (80 : Int32) :: _) dm_X12_keep_84 rfl rfl rfl rfl ?_
  refine me1 (pc' := 87) dm_X12_keep_86 rfl rfl rfl rfl ?_
  refine me0 (pc' := 88) (S' := .int (240 : Int32) :: _) dm_X12_keep_87 rfl rfl rfl rfl ?_
  refine me0 (pc' := 90) (S' := .int (40 : Int32) :: _) dm_X12_keep_88 rfl rfl rfl rfl ?_
  refine me0 (pc' := 91) (S' := .int (280 : Int32) :: _) dm_X12_keep_90 rfl rfl rfl rfl ?_
  refine me1 (pc' := 92) dm_X12_keep_91 rfl rfl rfl rfl ?_
  refine me0 (pc' := 93) (S' := .int (299 : Int32) :: _) dm_X12_keep_92 rfl rfl rfl rfl ?_
  refine me1 (pc' := 94) dm_X12_keep_93 rfl rfl rfl rfl ?_
  refine me3 (pc' := 97) dm_X12_keep_94 (g_get (v := .ref 111) (lu (n := 102) (j := 0) hn rfl) rfl rfl (Nat.le_of_ble_eq_true rfl)) rfl rfl rfl ?_
  refine me1 (pc' := 98) dm_X12_keep_97 rfl rfl rfl rfl ?_
  refine me3 (pc' := 99) dm_X12_keep_98 (g_lald (v := (0 : Int64)) (lu (n := 102) (j := 9) hn rfl) rfl (by decide) rfl (Nat.le_of_ble_eq_true rfl)) rfl rfl rfl ?_
  refine me3 (pc' := 100) dm_X12_keep_99 (u_last (n := 102) (j := 12) hn rfl rfl (by decide) rfl (Nat.le_of_ble_eq_true rfl)) rfl rfl rfl ?_
  refine me1 (pc' := 101) dm_X12_keep_100 rfl rfl rfl rfl ?_
  refine me3 (pc' := 104) dm_X12_keep_101 (g_get (v := .ref 115) (lu (n := 102) (j := 0) hn rfl) rfl rfl (Nat.le_of_ble_eq_true rfl)) rfl rfl rfl ?_
  refine me0 (pc' := 106) (S' := .int (80 : Int32) :: _) dm_X12_keep_104 rfl rfl rfl rfl ?_
  refine me1 (pc' := 107) dm_X12_keep_106 rfl rfl rfl rfl ?_
  refine me0 (pc' := 108) (S' := .int (240 : Int32) :: _) dm_X12_keep_107 rfl rfl rfl rfl ?_
  refine me0 (pc' := 110) (S' := .int (40 : Int32) :: _) dm_X12_keep_108 rfl rfl rfl rfl ?_
  refine me0 (pc' := 111) (S' := .int (280 : Int32) :: _) dm_X12_keep_110 rfl rfl rfl rfl ?_
  refine me1 (pc' := 112) dm_X12_keep_111 rfl rfl rfl rfl ?_
  refine me0 (pc' := 113) (S' := .int (299 : Int32) :: _) dm_X12_keep_112 rfl rfl rfl rfl ?_
  refine me1 (pc' := 114) dm_X12_keep_113 rfl rfl rfl rfl ?_
  refine me3 (pc' := 117) dm_X12_keep_114 (g_get (v := .ref 113) (lu (n := 102) (j := 0) hn rfl) rfl rfl (Nat.le_of_ble_eq_true rfl)) rfl rfl rfl ?_
  refine me1 (pc' := 118) dm_X12_keep_117 rfl rfl rfl rfl ?_
  refine me3 (pc' := 119) dm_X12_keep_118 (g_iald (v := (0 : Int32)) (lu (n := 102) (j := 11) hn rfl) rfl (by decide) rfl (Nat.le_of_ble_eq_true rfl)) rfl rfl rfl ?_
  refine me3 (pc' := 120) dm_X12_keep_119 (u_iast (n := 102) (j := 13) hn rfl rfl (by decide) rfl (Nat.le_of_ble_eq_true rfl)) rfl rfl rfl ?_
  refine me1 (pc' := 123) (L' := [(2, .int (20 : Int32)), (0, .ref 102), (1, .int (3 : Int32))]) dm_X12_keep_120 rfl rfl rfl rfl ?_
  refine me2 (pc' := 40) dm_X12_keep_123 rfl rfl rfl ?_
  refine me1 (pc' := 41) dm_X12_keep_40 rfl rfl rfl rfl ?_
  refine me0 (pc' := 43) (S' := .int (40 : Int32) :: _) dm_X12_keep_41 rfl rfl rfl rfl ?_
  refine me_2f (pc' := 46) dm_X12_keep_43 rfl (by decide) rfl ?_
  refine me1 (pc' := 47) dm_X12_keep_46 rfl rfl rfl rfl ?_
  refine me3 (pc' := 50) dm_X12_keep_47 (g_get (v := .ref 114) (lu (n := 102) (j := 0) hn rfl) rfl rfl (Nat.le_of_ble_eq_true rfl)) rfl rfl rfl ?_
  refine me0 (pc' := 52) (S' := .int (80 : Int32) :: _) dm_X12_keep_50 rfl rfl rfl rfl ?_
  refine me1 (pc' := 53) dm_X12_keep_52 rfl rfl rfl rfl ?_
  refine me0 (pc' := 54) (S' := .int (240 : Int32) :: _) dm_X12_keep_53 rfl rfl rfl rfl ?_
  refine me1 (pc' := 55) dm_X12_keep_54 rfl rfl rfl rfl ?_
  refine me0 (pc' := 56) (S' := .int (260 : Int32) :: _) dm_X12_keep_55 rfl rfl rfl rfl ?_
  refine me1 (pc' := 57) dm_X12_keep_56 rfl rfl rfl rfl ?_
  refine me3 (pc' := 60) dm_X12_keep_57 (g_get (v := .ref 110) (lu (n := 102) (j := 0) hn rfl) rfl rfl (Nat.le_of_ble_eq_true rfl)) rfl rfl rfl ?_
  refine me1 (pc' := 61) dm_X12_keep_60 rfl rfl rfl rfl ?_
  refine me3 (pc' := 62) dm_X12_keep_61 (g_lald (v := (0 : Int64)) (lu (n := 102) (j := 8) hn rfl) rfl (by decide) rfl (Nat.le_of_ble_eq_true rfl)) rfl rfl rfl ?_
  refine me3 (pc' := 63) dm_X12_keep_62 (u_last (n := 102) (j := 12) hn rfl rfl (by decide) rfl (Nat.le_of_ble_eq_true rfl)) rfl rfl rfl ?_
  refine me1 (pc' := 64) dm_X12_keep_63 rfl rfl rfl rfl ?_
  refine me3 (pc' := 67) dm_X12_keep_64 (g_get (v := .ref 115) (lu (n := 102) (j := 0) hn rfl) rfl rfl (Nat.le_of_ble_eq_true rfl)) rfl rfl rfl ?_
  refine me0 (pc' := 69) (S' := .int (80 : Int32) :: _) dm_X12_keep_67 rfl rfl rfl rfl ?_
  refine me1 (pc' := 70) dm_X12_keep_69 rfl rfl rfl rfl ?_
  refine me0 (pc' := 71) (S' := .int (240 : Int32) :: _) dm_X12_keep_70 rfl rfl rfl rfl ?_
  refine me1 (pc' := 72) dm_X12_keep_71 rfl rfl rfl rfl ?_
  refine me0 (pc' := 73) (S' := .int (260 : Int32) :: _) dm_X12_keep_72 rfl rfl rfl rfl ?_
  refine me1 (pc' := 74) dm_X12_keep_73 rfl rfl rfl rfl ?_
  refine me3 (pc' := 77) dm_X12_keep_74 (g_get (v := .ref 112) (lu (n := 102) (j := 0) hn rfl) rfl rfl (Nat.le_of_ble_eq_true rfl)) rfl rfl rfl ?_
  refine me1 (pc' := 78) dm_X12_keep_77 rfl rfl rfl rfl ?_
  refine me3 (pc' := 79) dm_X12_keep_78 (g_iald (v := (0 : Int32)) (lu (n := 102) (j := 10) hn rfl) rfl (by decide) rfl (Nat.le_of_ble_eq_true rfl)) rfl rfl rfl ?_
  refine me3 (pc' := 80) dm_X12_keep_79 (u_iast (n := 102) (j := 13) hn rfl rfl (by decide) rfl (Nat.le_of_ble_eq_true rfl)) rfl rfl rfl ?_
  refine me1 (pc' := 81) dm_X12_keep_80 rfl rfl rfl rfl ?_
  refine me3 (pc' := 84) dm_X12_keep_81 (g_get (v := .ref 114) (lu (n := 102) (j := 0) hn rfl) rfl rfl (Nat.le_of_ble_eq_true rfl)) rfl rfl rfl ?_
  refine me0 (pc' := 86) (S' := .int (80 : Int32) :: _) dm_X12_keep_84 rfl rfl rfl rfl ?_
  refine me1 (pc' := 87) dm_X12_keep_86 rfl rfl rfl rfl ?_
  refine me0 (pc' := 88) (S' := .int (240 : Int32) :: _) dm_X12_keep_87 rfl rfl rfl rfl ?_
  refine me0 (pc' := 90) (S' := .int (40 : Int32) :: _) dm_X12_keep_88 rfl rfl rfl rfl ?_
  refine me0 (pc' := 91) (S' := .int (280 : Int32) :: _) dm_X12_keep_90 rfl rfl rfl rfl ?_
  refine me1 (pc' := 92) dm_X12_keep_91 rfl rfl rfl rfl ?_
  refine me0 (pc' := 93) (S' := .int (300 : Int32) :: _) dm_X12_keep_92 rfl rfl rfl rfl ?_
  refine me1 (pc' := 94) dm_X12_keep_93 rfl rfl rfl rfl ?_
  refine me3 (pc' := 97) dm_X12_keep_94 (g_get (v := .ref 111) (lu (n := 102) (j := 0) hn rfl) rfl rfl (Nat.le_of_ble_eq_true rfl)) rfl rfl rfl ?_
  refine me1 (pc' := 98) dm_X12_keep_97 rfl rfl rfl rfl ?_
  refine me3 (pc' := 99) dm_X12_keep_98 (g_lald (v := (0 : Int64)) (lu (n := 102) (j := 9) hn rfl) rfl (by decide) rfl (Nat.le_of_ble_eq_true rfl)) rfl rfl rfl ?_
  refine me3 (pc' := 100) dm_X12_keep_99 (u_last (n := 102) (j := 12) hn rfl rfl (by decide) rfl (Nat.le_of_ble_eq_true rfl)) rfl rfl rfl ?_
  refine me1 (pc' := 101) dm_X12_keep_100 rfl rfl rfl rfl ?_
  refine me3 (pc' := 104) dm_X12_keep_101 (g_get (v := .ref 115) (lu (n := 102) (j := 0) hn rfl) rfl rfl (Nat.le_of_ble_eq_true rfl)) rfl rfl rfl ?_
  refine me0 (pc' := 106) (S' := .int (80 : Int32) :: _) dm_X12_keep_104 rfl rfl rfl rfl ?_
  refine me1 (pc' := 107) dm_X12_keep_106 rfl rfl rfl rfl ?_
  refine me0 (pc' := 108) (S' := .int (240 : Int32) :: _) dm_X12_keep_107 rfl rfl rfl rfl ?_
  refine me0 (pc' := 110) (S' := .int (40 : Int32) :: _) dm_X12_keep_108 rfl rfl rfl rfl ?_
  refine me0 (pc' := 111) (S' := .int (280 : Int32) :: _) dm_X12_keep_110 rfl rfl rfl rfl ?_
  refine me1 (pc' := 112) dm_X12_keep_111 rfl rfl rfl rfl ?_
  refine me0 (pc' := 113) (S' := .int (300 : Int32) :: _) dm_X12_keep_112 rfl rfl rfl rfl ?_
  refine me1 (pc' := 114) dm_X12_keep_113 rfl rfl rfl rfl ?_
  refine me3 (pc' := 117) dm_X12_keep_114 (g_get (v := .ref 113) (lu (n := 102) (j := 0) hn rfl) rfl rfl (Nat.le_of_ble_eq_true rfl)) rfl rfl rfl ?_
  refine me1 (pc' := 118) dm_X12_keep_117 rfl rfl rfl rfl ?_
  refine me3 (pc' := 119) dm_X12_keep_118 (g_iald (v := (0 : Int32)) (lu (n := 102) (j := 11) hn rfl) rfl (by decide) rfl (Nat.le_of_ble_eq_true rfl)) rfl rfl rfl ?_
  refine me3 (pc' := 120) dm_X12_keep_119 (u_iast (n := 102) (j := 13) hn rfl rfl (by decide) rfl (Nat.le_of_ble_eq_true rfl)) rfl rfl rfl ?_
  refine me1 (pc' := 123) (L' := [(2, .int (21 : Int32)), (0, .ref 102), (1, .int (3 : Int32))]) dm_X12_keep_120 rfl rfl rfl rfl ?_
  refine me2 (pc' := 40) dm_X12_keep_123 rfl rfl rfl ?_
  refine me1 (pc' := 41) dm_X12_keep_40 rfl rfl rfl rfl ?_
  refine me0 (pc' := 43) (S' := .int (40 : Int32) :: _) dm_X12_keep_41 rfl rfl rfl rfl ?_
  refine me_2f (pc' := 46) dm_X12_keep_43 rfl (by decide) rfl ?_
  refine me1 (pc' := 47) dm_X12_keep_46 rfl rfl rfl rfl ?_
  refine me3 (pc' := 50) dm_X12_keep_47 (g_get (v := .ref 114) (lu (n := 102) (j := 0) hn rfl) rfl rfl (Nat.le_of_ble_eq_true rfl)) rfl rfl rfl ?_
  refine me0 (pc' := 52) (S' := .int (80 : Int32) :: _) dm_X12_keep_50 rfl rfl rfl rfl ?_
  refine me1 (pc' := 53) dm_X12_keep_52 rfl rfl rfl rfl ?_
  refine me0 (pc' := 54) (S' := .int (240 : Int32) :: _) dm_X12_keep_53 rfl rfl rfl rfl ?_
  refine me1 (pc' := 55) dm_X12_keep_54 rfl rfl rfl rfl ?_
  refine me0 (pc' := 56) (S' := .int (261 : Int32) :: _) dm_X12_keep_55 rfl rfl rfl rfl ?_
  refine me1 (pc' := 57) dm_X12_keep_56 rfl rfl rfl rfl ?_
  refine me3 (pc' := 60) dm_X12_keep_57 (g_get (v := .ref 110) (lu (n := 102) (j := 0) hn rfl) rfl rfl (Nat.le_of_ble_eq_true rfl)) rfl rfl rfl ?_
  refine me1 (pc' := 61) dm_X12_keep_60 rfl rfl rfl rfl ?_
  refine me3 (pc' := 62) dm_X12_keep_61 (g_lald (v := (0 : Int64)) (lu (n := 102) (j := 8) hn rfl) rfl (by decide) rfl (Nat.le_of_ble_eq_true rfl)) rfl rfl rfl ?_
  refine me3 (pc' := 63) dm_X12_keep_62 (u_last (n := 102) (j := 12) hn rfl rfl (by decide) rfl (Nat.le_of_ble_eq_true rfl)) rfl rfl rfl ?_
  refine me1 (pc' := 64) dm_X12_keep_63 rfl rfl rfl rfl ?_
  refine me3 (pc' := 67) dm_X12_keep_64 (g_get (v := .ref 115) (lu (n := 102) (j := 0) hn rfl) rfl rfl (Nat.le_of_ble_eq_true rfl)) rfl rfl rfl ?_
  refine me0 (pc' := 69) (S' := .int (80 : Int32) :: _) dm_X12_keep_67 rfl rfl rfl rfl ?_
  refine me1 (pc' := 70) dm_X12_keep_69 rfl rfl rfl rfl ?_
  refine me0 (pc' := 71) (S' := .int (240 : Int32) :: _) dm_X12_keep_70 rfl rfl rfl rfl ?_
  refine me1 (pc' := 72) dm_X12_keep_71 rfl rfl rfl rfl ?_
  refine me0 (pc' := 73) (S' := .int (261 : Int32) :: _) dm_X12_keep_72 rfl rfl rfl rfl ?_
  refine me1 (pc' := 74) dm_X12_keep_73 rfl rfl rfl rfl ?_
  refine me3 (pc' := 77) dm_X12_keep_74 (g_get (v := .ref 112) (lu (n := 102) (j := 0) hn rfl) rfl rfl (Nat.le_of_ble_eq_true rfl)) rfl rfl rfl ?_
  refine me1 (pc' := 78) dm_X12_keep_77 rfl rfl rfl rfl ?_
  refine me3 (pc' := 79) dm_X12_keep_78 (g_iald (v := (0 : Int32)) (lu (n := 102) (j := 10) hn rfl) rfl (by decide) rfl (Nat.le_of_ble_eq_true rfl)) rfl rfl rfl ?_
  refine me3 (pc' := 80) dm_X12_keep_79 (u_iast (n := 102) (j := 13) hn rfl rfl (by decide) rfl (Nat.le_of_ble_eq_true rfl)) rfl rfl rfl ?_
  refine me1 (pc' := 81) dm_X12_keep_80 rfl rfl rfl rfl ?_
  refine me3 (pc' := 84) dm_X12_keep_81 (g_get (v := .ref 114) (lu (n := 102) (j := 0) hn rfl) rfl rfl (Nat.le_of_ble_eq_true rfl)) rfl rfl rfl ?_
  refine me0 (pc' := 86) (S' := .int (80 : Int32) :: _) dm_X12_keep_84 rfl rfl rfl rfl ?_
  refine me1 (pc' := 87) dm_X12_keep_86 rfl rfl rfl rfl ?_
  refine me0 (pc' := 88) (S' := .int (240 : Int32) :: _) dm_X12_keep_87 rfl rfl rfl rfl ?_
  refine me0 (pc' := 90) (S' := .int (40 : Int32) :: _) dm_X12_keep_88 rfl rfl rfl rfl ?_
  refine me0 (pc' := 91) (S' := .int (280 : Int32) :: _) dm_X12_keep_90 rfl rfl rfl rfl ?_
  refine me1 (pc' := 92) dm_X12_keep_91 rfl rfl rfl rfl ?_
  refine me0 (pc' := 93) (S' := .int (301 : Int32) :: _) dm_X12_keep_92 rfl rfl rfl rfl ?_
  refine me1 (pc' := 94) dm_X12_keep_93 rfl rfl rfl rfl ?_
  refine me3 (pc' := 97) dm_X12_keep_94 (g_get (v := .ref 111) (lu (n := 102) (j := 0) hn rfl) rfl rfl (Nat.le_of_ble_eq_true rfl)) rfl rfl rfl ?_
  refine me1 (pc' := 98) dm_X12_keep_97 rfl rfl rfl rfl ?_
  refine me3 (pc' := 99) dm_X12_keep_98 (g_lald (v := (0 : Int64)) (lu (n := 102) (j := 9) hn rfl) rfl (by decide) rfl (Nat.le_of_ble_eq_true rfl)) rfl rfl rfl ?_
  refine me3 (pc' := 100) dm_X12_keep_99 (u_last (n := 102) (j := 12) hn rfl rfl (by decide) rfl (Nat.le_of_ble_eq_true rfl)) rfl rfl rfl ?_
  refine me1 (pc' := 101) dm_X12_keep_100 rfl rfl rfl rfl ?_
  refine me3 (pc' := 104) dm_X12_keep_101 (g_get (v := .ref 115) (lu (n := 102) (j := 0) hn rfl) rfl rfl (Nat.le_of_ble_eq_true rfl)) rfl rfl rfl ?_
  refine me0 (pc' := 106) (S' := .int (80 : Int32) :: _) dm_X12_keep_104 rfl rfl rfl rfl ?_
  refine me1 (pc' := 107) dm_X12_keep_106 rfl rfl rfl rfl ?_
  refine me0 (pc' := 108) (S' := .int (240 : Int32) :: _) dm_X12_keep_107 rfl rfl rfl rfl ?_
  refine me0 (pc' := 110) (S' := .int (40 : Int32) :: _) dm_X12_keep_108 rfl rfl rfl rfl ?_
  refine me0 (pc' := 111) (S' := .int (280 : Int32) :: _) dm_X12_keep_110 rfl rfl rfl rfl ?_
  refine me1 (pc' := 112) dm_X12_keep_111 rfl rfl rfl rfl ?_
  refine me0 (pc' := 113) (S' := .int (301 : Int32) :: _) dm_X12_keep_112 rfl rfl rfl rfl ?_
  refine me1 (pc' := 114) dm_X12_keep_113 rfl rfl rfl rfl ?_
  refine me3 (pc' := 117) dm_X12_keep_114 (g_get (v := .ref 113) (lu (n := 102) (j := 0) hn rfl) rfl rfl (Nat.le_of_ble_eq_true rfl)) rfl rfl rfl ?_
  refine me1 (pc' := 118) dm_X12_keep_117 rfl rfl rfl rfl ?_
  refine me3 (pc' := 119) dm_X12_keep_118 (g_iald (v := (0 : Int32)) (lu (n := 102) (j := 11) hn rfl) rfl (by decide) rfl (Nat.le_of_ble_eq_true rfl)) rfl rfl rfl ?_
  refine me3 (pc' := 120) dm_X12_keep_119 (u_iast (n := 102) (j := 13) hn rfl rfl (by decide) rfl (Nat.le_of_ble_eq_true rfl)) rfl rfl rfl ?_
  refine me1 (pc' := 123) (L' := [(2, .int (22 : Int32)), (0, .ref 102), (1, .int (3 : Int32))]) dm_X12_keep_120 rfl rfl rfl rfl ?_
  refine me2 (pc' := 40) dm_X12_keep_123 rfl rfl rfl ?_
  refine me1 (pc' := 41) dm_X12_keep_40 rfl rfl rfl rfl ?_
  refine me0 (pc' := 43) (S' := .int (40 : Int32) :: _) dm_X12_keep_41 rfl rfl rfl rfl ?_
  refine me_2f (pc' := 46) dm_X12_keep_43 rfl (by decide) rfl ?_
  refine me1 (pc' := 47) dm_X12_keep_46 rfl rfl rfl rfl ?_
  refine me3 (pc' := 50) dm_X12_keep_47 (g_get (v := .ref 114) (lu (n := 102) (j := 0) hn rfl) rfl rfl (Nat.le_of_ble_eq_true rfl)) rfl rfl rfl ?_
  refine me0 (pc' := 52) (S' := .int (80 : Int32) :: _) dm_X12_keep_50 rfl rfl rfl rfl ?_
  refine me1 (pc' := 53) dm_X12_keep_52 rfl rfl rfl rfl ?_
  refine me0 (pc' := 54) (S' := .int (240 : Int32) :: _) dm_X12_keep_53 rfl rfl rfl rfl ?_
  refine me1 (pc' := 55) dm_X12_keep_54 rfl rfl rfl rfl ?_
  refine me0 (pc' := 56) (S' := .int (262 : Int32) :: _) dm_X12_keep_55 rfl rfl rfl rfl ?_
  refine me1 (pc' := 57) dm_X12_keep_56 rfl rfl rfl rfl ?_
  refine me3 (pc' := 60) dm_X12_keep_57 (g_get (v := .ref 110) (lu (n := 102) (j := 0) hn rfl) rfl rfl (Nat.le_of_ble_eq_true rfl)) rfl rfl rfl ?_
  refine me1 (pc' := 61) dm_X12_keep_60 rfl rfl rfl rfl ?_
  refine me3 (pc' := 62) dm_X12_keep_61 (g_lald (v := (0 : Int64)) (lu (n := 102) (j := 8) hn rfl) rfl (by decide) rfl (Nat.le_of_ble_eq_true rfl)) rfl rfl rfl ?_
  refine me3 (pc' := 63) dm_X12_keep_62 (u_last (n := 102) (j := 12) hn rfl rfl (by decide) rfl (Nat.le_of_ble_eq_true rfl)) rfl rfl rfl ?_
  refine me1 (pc' := 64) dm_X12_keep_63 rfl rfl rfl rfl ?_
  refine me3 (pc' := 67) dm_X12_keep_64 (g_get (v := .ref 115) (lu (n := 102) (j := 0) hn rfl) rfl rfl (Nat.le_of_ble_eq_true rfl)) rfl rfl rfl ?_
  refine me0 (pc' := 69) (S' := .int (80 : Int32) :: _) dm_X12_keep_67 rfl rfl rfl rfl ?_
  refine me1 (pc' := 70) dm_X12_keep_69 rfl rfl rfl rfl ?_
  refine me0 (pc' := 71) (S' := .int (240 : Int32) :: _) dm_X12_keep_70 rfl rfl rfl rfl ?_
  refine me1 (pc' := 72) dm_X12_keep_71 rfl rfl rfl rfl ?_
  refine me0 (pc' := 73) (S' := .int (262 : Int32) :: _) dm_X12_keep_72 rfl rfl rfl rfl ?_
  refine me1 (pc' := 74) dm_X12_keep_73 rfl rfl rfl rfl ?_
  refine me3 (pc' := 77) dm_X12_keep_74 (g_get (v := .ref 112) (lu (n := 102) (j := 0) hn rfl) rfl rfl (Nat.le_of_ble_eq_true rfl)) rfl rfl rfl ?_
  refine me1 (pc' := 78) dm_X12_keep_77 rfl rfl rfl rfl ?_
  refine me3 (pc' := 79) dm_X12_keep_78 (g_iald (v := (0 : Int32)) (lu (n := 102) (j := 10) hn rfl) rfl (by decide) rfl (Nat.le_of_ble_eq_true rfl)) rfl rfl rfl ?_
  refine me3 (pc' := 80) dm_X12_keep_79 (u_iast (n := 102) (j := 13) hn rfl rfl (by decide) rfl (Nat.le_of_ble_eq_true rfl)) rfl rfl rfl ?_
  refine me1 (pc' := 81) dm_X12_keep_80 rfl rfl rfl rfl ?_
  refine me3 (pc' := 84) dm_X12_keep_81 (g_get (v := .ref 114) (lu (n := 102) (j := 0) hn rfl) rfl rfl (Nat.le_of_ble_eq_true rfl)) rfl rfl rfl ?_
  refine me0 (pc' := 86) (S' := .int (80 : Int32) :: _) dm_X12_keep_84 rfl rfl rfl rfl ?_
  refine me1 (pc' := 87) dm_X12_keep_86 rfl rfl rfl rfl ?_
  refine me0 (pc' := 88) (S' := .int (240 : Int32) :: _) dm_X12_keep_87 rfl rfl rfl rfl ?_
  refine me0 (pc' := 90) (S' := .int (40 : Int32) :: _) dm_X12_keep_88 rfl rfl rfl rfl ?_
  refine me0 (pc' := 91) (S' := .int (280 : Int32) :: _) dm_X12_keep_90 rfl rfl rfl rfl ?_
  refine me1 (pc' := 92) dm_X12_keep_91 rfl rfl rfl rfl ?_
  refine me0 (pc' := 93) (S' := .int (302 : Int32) :: _) dm_X12_keep_92 rfl rfl rfl rfl ?_
  refine me1 (pc' := 94) dm_X12_keep_93 rfl rfl rfl rfl ?_
  refine me3 (pc' := 97) dm_X12_keep_94 (g_get (v := .ref 111) (lu (n := 102) (j := 0) hn rfl) rfl rfl (Nat.le_of_ble_eq_true rfl)) rfl rfl rfl ?_
  refine me1 (pc' := 98) dm_X12_keep_97 rfl rfl rfl rfl ?_
  refine me3 (pc' := 99) dm_X12_keep_98 (g_lald (v := (0 : Int64)) (lu (n := 102) (j := 9) hn rfl) rfl (by decide) rfl (Nat.le_of_ble_eq_true rfl)) rfl rfl rfl ?_
  refine me3 (pc' := 100) dm_X12_keep_99 (u_last (n := 102) (j := 12) hn rfl rfl (by decide) rfl (Nat.le_of_ble_eq_true rfl)) rfl rfl rfl ?_
  refine me1 (pc' := 101) dm_X12_keep_100 rfl rfl rfl rfl ?_
  refine me3 (pc' := 104) dm_X12_keep_101 (g_get (v := .ref 115) (lu (n := 102) (j := 0) hn rfl) rfl rfl (Nat.le_of_ble_eq_true rfl)) rfl rfl rfl ?_
  refine me0 (pc' := 106) (S' := .int (80 : Int32) :: _) dm_X12_keep_104 rfl rfl rfl rfl ?_
  refine me1 (pc' := 107) dm_X12_keep_106 rfl rfl rfl rfl ?_
  refine me0 (pc' := 108) (S' := .int (240 : Int32) :: _) dm_X12_keep_107 rfl rfl rfl rfl ?_
  refine me0 (pc' := 110) (S' := .int (40 : Int32) :: _) dm_X12_keep_108 rfl rfl rfl rfl ?_
  refine me0 (pc' := 111) (S' := .int (280 : Int32) :: _) dm_X12_keep_110 rfl rfl rfl rfl ?_
  refine me1 (pc' := 112) dm_X12_keep_111 rfl rfl rfl rfl ?_
  refine me0 (pc' := 113) (S' := .int (302 : Int32) :: _) dm_X12_keep_112 rfl rfl rfl rfl ?_
  refine me1 (pc' := 114) dm_X12_keep_113 rfl rfl rfl rfl ?_
  refine me3 (pc' := 117) dm_X12_keep_114 (g_get (v := .ref 113) (lu (n := 102) (j := 0) hn rfl) rfl rfl (Nat.le_of_ble_eq_true rfl)) rfl rfl rfl ?_
  refine me1 (pc' := 118) dm_X12_keep_117 rfl rfl rfl rfl ?_
  refine me3 (pc' := 119) dm_X12_keep_118 (g_iald (v := (0 : Int32)) (lu (n := 102) (j := 11) hn rfl) rfl (by decide) rfl (Nat.le_of_ble_eq_true rfl)) rfl rfl rfl ?_
  refine me3 (pc' := 120) dm_X12_keep_119 (u_iast (n := 102) (j := 13) hn rfl rfl (by decide) rfl (Nat.le_of_ble_eq_true rfl)) rfl rfl rfl ?_
  refine me1 (pc' := 123) (L' := [(2, .int (23 : Int32)), (0, .ref 102), (1, .int (3 : Int32))]) dm_X12_keep_120 rfl rfl rfl rfl ?_
  refine me2 (pc' := 40) dm_X12_keep_123 rfl rfl rfl ?_
  refine me1 (pc' := 41) dm_X12_keep_40 rfl rfl rfl rfl ?_
  refine me0 (pc' := 43) (S' := .int (40 : Int32) :: _) dm_X12_keep_41 rfl rfl rfl rfl ?_
  refine me_2f (pc' := 46) dm_X12_keep_43 rfl (by decide) rfl ?_
  refine me1 (pc' := 47) dm_X12_keep_46 rfl rfl rfl rfl ?_
  refine me3 (pc' := 50) dm_X12_keep_47 (g_get (v := .ref 114) (lu (n := 102) (j := 0) hn rfl) rfl rfl (Nat.le_of_ble_eq_true rfl)) rfl rfl rfl ?_
  refine me0 (pc' := 52) (S' := .int (80 : Int32) :: _) dm_X12_keep_50 rfl rfl rfl rfl ?_
  refine me1 (pc' := 53) dm_X12_keep_52 rfl rfl rfl rfl ?_
  refine me0 (pc' := 54) (S' := .int (240 : Int32) :: _) dm_X12_keep_53 rfl rfl rfl rfl ?_
  refine me1 (pc' := 55) dm_X12_keep_54 rfl rfl rfl rfl ?_
  refine me0 (pc' := 56) (S' := .int (263 : Int32) :: _) dm_X12_keep_55 rfl rfl rfl rfl ?_
  refine me1 (pc' := 57) dm_X12_keep_56 rfl rfl rfl rfl ?_
  refine me3 (pc' := 60) dm_X12_keep_57 (g_get (v := .ref 110) (lu (n := 102) (j := 0) hn rfl) rfl rfl (Nat.le_of_ble_eq_true rfl)) rfl rfl rfl ?_
  refine me1 (pc' := 61) dm_X12_keep_60 rfl rfl rfl rfl ?_
  refine me3 (pc' := 62) dm_X12_keep_61 (g_lald (v := (0 : Int64)) (lu (n := 102) (j := 8) hn rfl) rfl (by decide) rfl (Nat.le_of_ble_eq_true rfl)) rfl rfl rfl ?_
  refine me3 (pc' := 63) dm_X12_keep_62 (u_last (n := 102) (j := 12) hn rfl rfl (by decide) rfl (Nat.le_of_ble_eq_true rfl)) rfl rfl rfl ?_
  refine me1 (pc' := 64) dm_X12_keep_63 rfl rfl rfl rfl ?_
  refine me3 (pc' := 67) dm_X12_keep_64 (g_get (v := .ref 115) (lu (n := 102) (j := 0) hn rfl) rfl rfl (Nat.le_of_ble_eq_true rfl)) rfl rfl rfl ?_
  refine me0 (pc' := 69) (S' := .int (80 : Int32) :: _) dm_X12_keep_67 rfl rfl rfl rfl ?_
  refine me1 (pc' := 70) dm_X12_keep_69 rfl rfl rfl rfl ?_
  refine me0 (pc' := 71) (S' := .int (240 : Int32) :: _) dm_X12_keep_70 rfl rfl rfl rfl ?_
  refine me1 (pc' := 72) dm_X12_keep_71 rfl rfl rfl rfl ?_
  refine me0 (pc' := 73) (S' := .int (263 : Int32) :: _) dm_X12_keep_72 rfl rfl rfl rfl ?_
  refine me1 (pc' := 74) dm_X12_keep_73 rfl rfl rfl rfl ?_
  refine me3 (pc' := 77) dm_X12_keep_74 (g_get (v := .ref 112) (lu (n := 102) (j := 0) hn rfl) rfl rfl (Nat.le_of_ble_eq_true rfl)) rfl rfl rfl ?_
  refine me1 (pc' := 78) dm_X12_keep_77 rfl rfl rfl rfl ?_
  refine me3 (pc' := 79) dm_X12_keep_78 (g_iald (v := (0 : Int32)) (lu (n := 102) (j := 10) hn rfl) rfl (by decide) rfl (Nat.le_of_ble_eq_true rfl)) rfl rfl rfl ?_
  refine me3 (pc' := 80) dm_X12_keep_79 (u_iast (n := 102) (j := 13) hn rfl rfl (by decide) rfl (Nat.le_of_ble_eq_true rfl)) rfl rfl rfl ?_
  refine me1 (pc' := 81) dm_X12_keep_80 rfl rfl rfl rfl ?_
  refine me3 (pc' := 84) dm_X12_keep_81 (g_get (v := .ref 114) (lu (n := 102) (j := 0) hn rfl) rfl rfl (Nat.le_of_ble_eq_true rfl)) rfl rfl rfl ?_
  refine me0 (pc' := 86) (S' := .int (80 : Int32) :: _) dm_X12_keep_84 rfl rfl rfl rfl ?_
  refine me1 (pc' := 87) dm_X12_keep_86 rfl rfl rfl rfl ?_
  refine me0 (pc' := 88) (S' := .int (240 : Int32) :: _) dm_X12_keep_87 rfl rfl rfl rfl ?_
  refine me0 (pc' := 90) (S' := .int (40 : Int32) :: _) dm_X12_keep_88 rfl rfl rfl rfl ?_
  refine me0 (pc' := 91) (S' := .int (280 : Int32) :: _) dm_X12_keep_90 rfl rfl rfl rfl ?_
  refine me1 (pc' := 92) dm_X12_keep_91 rfl rfl rfl rfl ?_
  refine me0 (pc' := 93) (S' := .int (303 : Int32) :: _) dm_X12_keep_92 rfl rfl rfl rfl ?_
  refine me1 (pc' := 94) dm_X12_keep_93 rfl rfl rfl rfl ?_
  refine me3 (pc' := 97) dm_X12_keep_94 (g_get (v := .ref 111) (lu (n := 102) (j := 0) hn rfl) rfl rfl (Nat.le_of_ble_eq_true rfl)) rfl rfl rfl ?_
  refine me1 (pc' := 98) dm_X12_keep_97 rfl rfl rfl rfl ?_
  refine me3 (pc' := 99) dm_X12_keep_98 (g_lald (v := (0 : Int64)) (lu (n := 102) (j := 9) hn rfl) rfl (by decide) rfl (Nat.le_of_ble_eq_true rfl)) rfl rfl rfl ?_
  refine me3 (pc' := 100) dm_X12_keep_99 (u_last (n := 102) (j := 12) hn rfl rfl (by decide) rfl (Nat.le_of_ble_eq_true rfl)) rfl rfl rfl ?_
  refine me1 (pc' := 101) dm_X12_keep_100 rfl rfl rfl rfl ?_
  refine me3 (pc' := 104) dm_X12_keep_101 (g_get (v := .ref 115) (lu (n := 102) (j := 0) hn rfl) rfl rfl (Nat.le_of_ble_eq_true rfl)) rfl rfl rfl ?_
  refine me0 (pc' := 106) (S' := .int (80 : Int32) :: _) dm_X12_keep_104 rfl rfl rfl rfl ?_
  refine me1 (pc' := 107) dm_X12_keep_106 rfl rfl rfl rfl ?_
  refine me0 (pc' := 108) (S' := .int (240 : Int32) :: _) dm_X12_keep_107 rfl rfl rfl rfl ?_
  refine me0 (pc' := 110) (S' := .int (40 : Int32) :: _) dm_X12_keep_108 rfl rfl rfl rfl ?_
  refine me0 (pc' := 111) (S' := .int (280 : Int32) :: _) dm_X12_keep_110 rfl rfl rfl rfl ?_
  refine me1 (pc' := 112) dm_X12_keep_111 rfl rfl rfl rfl ?_
  refine me0 (pc' := 113) (S' := .int (303 : Int32) :: _) dm_X12_keep_112 rfl rfl rfl rfl ?_
  refine me1 (pc' := 114) dm_X12_keep_113 rfl rfl rfl rfl ?_
  refine me3 (pc' := 117) dm_X12_keep_114 (g_get (v := .ref 113) (lu (n := 102) (j := 0) hn rfl) rfl rfl (Nat.le_of_ble_eq_true rfl)) rfl rfl rfl ?_
  refine me1 (pc' := 118) dm_X12_keep_117 rfl rfl rfl rfl ?_
  refine me3 (pc' := 119) dm_X12_keep_118 (g_iald (v := (0 : Int32)) (lu (n := 102) (j := 11) hn rfl) rfl (by decide) rfl (Nat.le_of_ble_eq_true rfl)) rfl rfl rfl ?_
  refine me3 (pc' := 120) dm_X12_keep_119 (u_iast (n := 102) (j := 13) hn rfl rfl (by decide) rfl (Nat.le_of_ble_eq_true rfl)) rfl rfl rfl ?_
  refine me1 (pc' := 123) (L' := [(2, .int (24 : Int32)), (0, .ref 102), (1, .int (3 : Int32))]) dm_X12_keep_120 rfl rfl rfl rfl ?_
  refine me2 (pc' := 40) dm_X12_keep_123 rfl rfl rfl ?_
  refine me1 (pc' := 41) dm_X12_keep_40 rfl rfl rfl rfl ?_
  refine me0 (pc' := 43) (S' := .int (40 : Int32) :: _) dm_X12_keep_41 rfl rfl rfl rfl ?_
  refine me_2f (pc' := 46) dm_X12_keep_43 rfl (by decide) rfl ?_
  refine me1 (pc' := 47) dm_X12_keep_46 rfl rfl rfl rfl ?_
  refine me3 (pc' := 50) dm_X12_keep_47 (g_get (v := .ref 114) (lu (n := 102) (j := 0) hn rfl) rfl rfl (Nat.le_of_ble_eq_true rfl)) rfl rfl rfl ?_
  refine me0 (pc' := 52) (S' := .int (80 : Int32) :: _) dm_X12_keep_50 rfl rfl rfl rfl ?_
  refine me1 (pc' := 53) dm_X12_keep_52 rfl rfl rfl rfl ?_
  refine me0 (pc' := 54) (S' := .int (240 : Int32) :: _) dm_X12_keep_53 rfl rfl rfl rfl ?_
  refine me1 (pc' := 55) dm_X12_keep_54 rfl rfl rfl rfl ?_
  refine me0 (pc' := 56) (S' := .int (264 : Int32) :: _) dm_X12_keep_55 rfl rfl rfl rfl ?_
  refine me1 (pc' := 57) dm_X12_keep_56 rfl rfl rfl rfl ?_
  refine me3 (pc' := 60) dm_X12_keep_57 (g_get (v := .ref 110) (lu (n := 102) (j := 0) hn rfl) rfl rfl (Nat.le_of_ble_eq_true rfl)) rfl rfl rfl ?_
  refine me1 (pc' := 61) dm_X12_keep_60 rfl rfl rfl rfl ?_
  refine me3 (pc' := 62) dm_X12_keep_61 (g_lald (v := (0 : Int64)) (lu (n := 102) (j := 8) hn rfl) rfl (by decide) rfl (Nat.le_of_ble_eq_true rfl)) rfl rfl rfl ?_
  refine me3 (pc' := 63) dm_X12_keep_62 (u_last (n := 102) (j := 12) hn rfl rfl (by decide) rfl (Nat.le_of_ble_eq_true rfl)) rfl rfl rfl ?_
  refine me1 (pc' := 64) dm_X12_keep_63 rfl rfl rfl rfl ?_
  refine me3 (pc' := 67) dm_X12_keep_64 (g_get (v := .ref 115) (lu (n := 102) (j := 0) hn rfl) rfl rfl (Nat.le_of_ble_eq_true rfl)) rfl rfl rfl ?_
  refine me0 (pc' := 69) (S' := .int (80 : Int32) :: _) dm_X12_keep_67 rfl rfl rfl rfl ?_
  refine me1 (pc' := 70) dm_X12_keep_69 rfl rfl rfl rfl ?_
  refine me0 (pc' := 71) (S' := .int (240 : Int32) :: _) dm_X12_keep_70 rfl rfl rfl rfl ?_
  refine me1 (pc' := 72) dm_X12_keep_71 rfl rfl rfl rfl ?_
  refine me0 (pc' := 73) (S' := .int (264 : Int32) :: _) dm_X12_keep_72 rfl rfl rfl rfl ?_
  refine me1 (pc' := 74) dm_X12_keep_73 rfl rfl rfl rfl ?_
  refine me3 (pc' := 77) dm_X12_keep_74 (g_get (v := .ref 112) (lu (n := 102) (j := 0) hn rfl) rfl rfl (Nat.le_of_ble_eq_true rfl)) rfl rfl rfl ?_
  refine me1 (pc' := 78) dm_X12_keep_77 rfl rfl rfl rfl ?_
  refine me3 (pc' := 79) dm_X12_keep_78 (g_iald (v := (0 : Int32)) (lu (n := 102) (j := 10) hn rfl) rfl (by decide) rfl (Nat.le_of_ble_eq_true rfl)) rfl rfl rfl ?_
  refine me3 (pc' := 80) dm_X12_keep_79 (u_iast (n := 102) (j := 13) hn rfl rfl (by decide) rfl (Nat.le_of_ble_eq_true rfl)) rfl rfl rfl ?_
  refine me1 (pc' := 81) dm_X12_keep_80 rfl rfl rfl rfl ?_
  refine me3 (pc' := 84) dm_X12_keep_81 (g_get (v := .ref 114) (lu (n := 102) (j := 0) hn rfl) rfl rfl (Nat.le_of_ble_eq_true rfl)) rfl rfl rfl ?_
  refine me0 (pc' := 86) (S' := .int (80 : Int32) :: _) dm_X12_keep_84 rfl rfl rfl rfl ?_
  refine me1 (pc' := 87) dm_X12_keep_86 rfl rfl rfl rfl ?_
  refine me0 (pc' := 88) (S' := .int (240 : Int32) :: _) dm_X12_keep_87 rfl rfl rfl rfl ?_
  refine me0 (pc' := 90) (S' := .int (40 : Int32) :: _) dm_X12_keep_88 rfl rfl rfl rfl ?_
  refine me0 (pc' := 91) (S' := .int (280 : Int32) :: _) dm_X12_keep_90 rfl rfl rfl rfl ?_
  refine me1 (pc' := 92) dm_X12_keep_91 rfl rfl rfl rfl ?_
  refine me0 (pc' := 93) (S' := .int (304 : Int32) :: _) dm_X12_keep_92 rfl rfl rfl rfl ?_
  refine me1 (pc' := 94) dm_X12_keep_93 rfl rfl rfl rfl ?_
  refine me3 (pc' := 97) dm_X12_keep_94 (g_get (v := .ref 111) (lu (n := 102) (j := 0) hn rfl) rfl rfl (Nat.le_of_ble_eq_true rfl)) rfl rfl rfl ?_
  refine me1 (pc' := 98) dm_X12_keep_97 rfl rfl rfl rfl ?_
  refine me3 (pc' := 99) dm_X12_keep_98 (g_lald (v := (0 : Int64)) (lu (n := 102) (j := 9) hn rfl) rfl (by decide) rfl (Nat.le_of_ble_eq_true rfl)) rfl rfl rfl ?_
  refine me3 (pc' := 100) dm_X12_keep_99 (u_last (n := 102) (j := 12) hn rfl rfl (by decide) rfl (Nat.le_of_ble_eq_true rfl)) rfl rfl rfl ?_
  refine me1 (pc' := 101) dm_X12_keep_100 rfl rfl rfl rfl ?_
  refine me3 (pc' := 104) dm_X12_keep_101 (g_get (v := .ref 115) (lu (n := 102) (j := 0) hn rfl) rfl rfl (Nat.le_of_ble_eq_true rfl)) rfl rfl rfl ?_
  refine me0 (pc' := 106) (S' := .int (80 : Int32) :: _) dm_X12_keep_104 rfl rfl rfl rfl ?_
  refine me1 (pc' := 107) dm_X12_keep_106 rfl rfl rfl rfl ?_
  refine me0 (pc' := 108) (S' := .int (240 : Int32) :: _) dm_X12_keep_107 rfl rfl rfl rfl ?_
  refine me0 (pc' := 110) (S' := .int (40 : Int32) :: _) dm_X12_keep_108 rfl rfl rfl rfl ?_
  refine me0 (pc' := 111) (S' := .int (280 : Int32) :: _) dm_X12_keep_110 rfl rfl rfl rfl ?_
  refine me1 (pc' := 112) dm_X12_keep_111 rfl rfl rfl rfl ?_
  refine me0 (pc' := 113) (S' := .int (304 : Int32) :: _) dm_X12_keep_112 rfl rfl rfl rfl ?_
  refine me1 (pc' := 114) dm_X12_keep_113 rfl rfl rfl rfl ?_
  refine me3 (pc' := 117) dm_X12_keep_114 (g_get (v := .ref 113) (lu (n := 102) (j := 0) hn rfl) rfl rfl (Nat.le_of_ble_eq_true rfl)) rfl rfl rfl ?_
  refine me1 (pc' := 118) dm_X12_keep_117 rfl rfl rfl rfl ?_
  refine me3 (pc' := 119) dm_X12_keep_118 (g_iald (v := (0 : Int32)) (lu (n := 102) (j := 11) hn rfl) rfl (by decide) rfl (Nat.le_of_ble_eq_true rfl)) rfl rfl rfl ?_
  refine me3 (pc' := 120) dm_X12_keep_119 (u_iast (n := 102) (j := 13) hn rfl rfl (by decide) rfl (Nat.le_of_ble_eq_true rfl)) rfl rfl rfl ?_
  refine me1 (pc' := 123) (L' := [(2, .int (25 : Int32)), (0, .ref 102), (1, .int (3 : Int32))]) dm_X12_keep_120 rfl rfl rfl rfl ?_
  refine me2 (pc' := 40) dm_X12_keep_123 rfl rfl rfl ?_
  refine me1 (pc' := 41) dm_X12_keep_40 rfl rfl rfl rfl ?_
  refine me0 (pc' := 43) (S' := .int (40 : Int32) :: _) dm_X12_keep_41 rfl rfl rfl rfl ?_
  refine me_2f (pc' := 46) dm_X12_keep_43 rfl (by decide) rfl ?_
  refine me1 (pc' := 47) dm_X12_keep_46 rfl rfl rfl rfl ?_
  refine me3 (pc' := 50) dm_X12_keep_47 (g_get (v := .ref 114) (lu (n := 102) (j := 0) hn rfl) rfl rfl (Nat.le_of_ble_eq_true rfl)) rfl rfl rfl ?_
  refine me0 (pc' := 52) (S' := .int (80 : Int32) :: _) dm_X12_keep_50 rfl rfl rfl rfl ?_
  refine me1 (pc' := 53) dm_X12_keep_52 rfl rfl rfl rfl ?_
  refine me0 (pc' := 54) (S' := .int (240 : Int32) :: _) dm_X12_keep_53 rfl rfl rfl rfl ?_
  refine me1 (pc' := 55) dm_X12_keep_54 rfl rfl rfl rfl ?_
  refine me0 (pc' := 56) (S' := .int (265 : Int32) :: _) dm_X12_keep_55 rfl rfl rfl rfl ?_
  refine me1 (pc' := 57) dm_X12_keep_56 rfl rfl rfl rfl ?_
  refine me3 (pc' := 60) dm_X12_keep_57 (g_get (v := .ref 110) (lu (n := 102) (j := 0) hn rfl) rfl rfl (Nat.le_of_ble_eq_true rfl)) rfl rfl rfl ?_
  refine me1 (pc' := 61) dm_X12_keep_60 rfl rfl rfl rfl ?_
  refine me3 (pc' := 62) dm_X12_keep_61 (g_lald (v := (0 : Int64)) (lu (n := 102) (j := 8) hn rfl) rfl (by decide) rfl (Nat.le_of_ble_eq_true rfl)) rfl rfl rfl ?_
  refine me3 (pc' := 63) dm_X12_keep_62 (u_last (n := 102) (j := 12) hn rfl rfl (by decide) rfl (Nat.le_of_ble_eq_true rfl)) rfl rfl rfl ?_
  refine me1 (pc' := 64) dm_X12_keep_63 rfl rfl rfl rfl ?_
  refine me3 (pc' := 67) dm_X12_keep_64 (g_get (v := .ref 115) (lu (n := 102) (j := 0) hn rfl) rfl rfl (Nat.le_of_ble_eq_true rfl)) rfl rfl rfl ?_
  refine me0 (pc' := 69) (S' := .int (80 : Int32) :: _) dm_X12_keep_67 rfl rfl rfl rfl ?_
  refine me1 (pc' := 70) dm_X12_keep_69 rfl rfl rfl rfl ?_
  refine me0 (pc' := 71) (S' := .int (240 : Int32) :: _) dm_X12_keep_70 rfl rfl rfl rfl ?_
  refine me1 (pc' := 72) dm_X12_keep_71 rfl rfl rfl rfl ?_
  refine me0 (pc' := 73) (S' := .int (265 : Int32) :: _) dm_X12_keep_72 rfl rfl rfl rfl ?_
  refine me1 (pc' := 74) dm_X12_keep_73 rfl rfl rfl rfl ?_
  refine me3 (pc' := 77) dm_X12_keep_74 (g_get (v := .ref 112) (lu (n := 102) (j := 0) hn rfl) rfl rfl (Nat.le_of_ble_eq_true rfl)) rfl rfl rfl ?_
  refine me1 (pc' := 78) dm_X12_keep_77 rfl rfl rfl rfl ?_
  refine me3 (pc' := 79) dm_X12_keep_78 (g_iald (v := (0 : Int32)) (lu (n := 102) (j := 10) hn rfl) rfl (by decide) rfl (Nat.le_of_ble_eq_true rfl)) rfl rfl rfl ?_
  refine me3 (pc' := 80) dm_X12_keep_79 (u_iast (n := 102) (j := 13) hn rfl rfl (by decide) rfl (Nat.le_of_ble_eq_true rfl)) rfl rfl rfl ?_
  refine me1 (pc' := 81) dm_X12_keep_80 rfl rfl rfl rfl ?_
  refine me3 (pc' := 84) dm_X12_keep_81 (g_get (v := .ref 114) (lu (n := 102) (j := 0) hn rfl) rfl rfl (Nat.le_of_ble_eq_true rfl)) rfl rfl rfl ?_
  refine me0 (pc' := 86) (S' := .int (80 : Int32) :: _) dm_X12_keep_84 rfl rfl rfl rfl ?_
  refine me1 (pc' := 87) dm_X12_keep_86 rfl rfl rfl rfl ?_
  refine me0 (pc' := 88) (S' := .int (240 : Int32) :: _) dm_X12_keep_87 rfl rfl rfl rfl ?_
  refine me0 (pc' := 90) (S' := .int (40 : Int32) :: _) dm_X12_keep_88 rfl rfl rfl rfl ?_
  refine me0 (pc' := 91) (S' := .int (280 : Int32) :: _) dm_X12_keep_90 rfl rfl rfl rfl ?_
  refine me1 (pc' := 92) dm_X12_keep_91 rfl rfl rfl rfl ?_
  refine me0 (pc' := 93) (S' := .int (305 : Int32) :: _) dm_X12_keep_92 rfl rfl rfl rfl ?_
  refine me1 (pc' := 94) dm_X12_keep_93 rfl rfl rfl rfl ?_
  refine me3 (pc' := 97) dm_X12_keep_94 (g_get (v := .ref 111) (lu (n := 102) (j := 0) hn rfl) rfl rfl (Nat.le_of_ble_eq_true rfl)) rfl rfl rfl ?_
  refine me1 (pc' := 98) dm_X12_keep_97 rfl rfl rfl rfl ?_
  refine me3 (pc' := 99) dm_X12_keep_98 (g_lald (v := (0 : Int64)) (lu (n := 102) (j := 9) hn rfl) rfl (by decide) rfl (Nat.le_of_ble_eq_true rfl)) rfl rfl rfl ?_
  refine me3 (pc' := 100) dm_X12_keep_99 (u_last (n := 102) (j := 12) hn rfl rfl (by decide) rfl (Nat.le_of_ble_eq_true rfl)) rfl rfl rfl ?_
  refine me1 (pc' := 101) dm_X12_keep_100 rfl rfl rfl rfl ?_
  refine me3 (pc' := 104) dm_X12_keep_101 (g_get (v := .ref 115) (lu (n := 102) (j := 0) hn rfl) rfl rfl (Nat.le_of_ble_eq_true rfl)) rfl rfl rfl ?_
  refine me0 (pc' := 106) (S' := .int (80 : Int32) :: _) dm_X12_keep_104 rfl rfl rfl rfl ?_
  refine me1 (pc' := 107) dm_X12_keep_106 rfl rfl rfl rfl ?_
  refine me0 (pc' := 108) (S' := .int (240 : Int32) :: _) dm_X12_keep_107 rfl rfl rfl rfl ?_
  refine me0 (pc' := 110) (S' := .int (40 : Int32) :: _) dm_X12_keep_108 rfl rfl rfl rfl ?_
  refine me0 (pc' := 111) (S' := .int (280 : Int32) :: _) dm_X12_keep_110 rfl rfl rfl rfl ?_
  refine me1 (pc' := 112) dm_X12_keep_111 rfl rfl rfl rfl ?_
  refine me0 (pc' := 113) (S' := .int (305 : Int32) :: _) dm_X12_keep_112 rfl rfl rfl rfl ?_
  refine me1 (pc' := 114) dm_X12_keep_113 rfl rfl rfl rfl ?_
  refine me3 (pc' := 117) dm_X12_keep_114 (g_get (v := .ref 113) (lu (n := 102) (j := 0) hn rfl) rfl rfl (Nat.le_of_ble_eq_true rfl)) rfl rfl rfl ?_
  refine me1 (pc' := 118) dm_X12_keep_117 rfl rfl rfl rfl ?_
  refine me3 (pc' := 119) dm_X12_keep_118 (g_iald (v := (0 : Int32)) (lu (n := 102) (j := 11) hn rfl) rfl (by decide) rfl (Nat.le_of_ble_eq_true rfl)) rfl rfl rfl ?_
  refine me3 (pc' := 120) dm_X12_keep_119 (u_iast (n := 102) (j := 13) hn rfl rfl (by decide) rfl (Nat.le_of_ble_eq_true rfl)) rfl rfl rfl ?_
  refine me1 (pc' := 123) (L' := [(2, .int (26 : Int32)), (0, .ref 102), (1, .int (3 : Int32))]) dm_X12_keep_120 rfl rfl rfl rfl ?_
  refine me2 (pc' := 40) dm_X12_keep_123 rfl rfl rfl ?_
  refine me1 (pc' := 41) dm_X12_keep_40 rfl rfl rfl rfl ?_
  refine me0 (pc' := 43) (S' := .int (40 : Int32) :: _) dm_X12_keep_41 rfl rfl rfl rfl ?_
  refine me_2f (pc' := 46) dm_X12_keep_43 rfl (by decide) rfl ?_
  refine me1 (pc' := 47) dm_X12_keep_46 rfl rfl rfl rfl ?_
  refine me3 (pc' := 50) dm_X12_keep_47 (g_get (v := .ref 114) (lu (n := 102) (j := 0) hn rfl) rfl rfl (Nat.le_of_ble_eq_true rfl)) rfl rfl rfl ?_
  refine me0 (pc' := 52) (S' := .int (80 : Int32) :: _) dm_X12_keep_50 rfl rfl rfl rfl ?_
  refine me1 (pc' := 53) dm_X12_keep_52 rfl rfl rfl rfl ?_
  refine me0 (pc' := 54) (S' := .int (240 : Int32) :: _) dm_X12_keep_53 rfl rfl rfl rfl ?_
  refine me1 (pc' := 55) dm_X12_keep_54 rfl rfl rfl rfl ?_
  refine me0 (pc' := 56) (S' := .int (266 : Int32) :: _) dm_X12_keep_55 rfl rfl rfl rfl ?_
  refine me1 (pc' := 57) dm_X12_keep_56 rfl rfl rfl rfl ?_
  refine me3 (pc' := 60) dm_X12_keep_57 (g_get (v := .ref 110) (lu (n := 102) (j := 0) hn rfl) rfl rfl (Nat.le_of_ble_eq_true rfl)) rfl rfl rfl ?_
  refine me1 (pc' := 61) dm_X12_keep_60 rfl rfl rfl rfl ?_
  refine me3 (pc' := 62) dm_X12_keep_61 (g_lald (v := (0 : Int64)) (lu (n := 102) (j := 8) hn rfl) rfl (by decide) rfl (Nat.le_of_ble_eq_true rfl)) rfl rfl rfl ?_
  refine me3 (pc' := 63) dm_X12_keep_62 (u_last (n := 102) (j := 12) hn rfl rfl (by decide) rfl (Nat.le_of_ble_eq_true rfl)) rfl rfl rfl ?_
  refine me1 (pc' := 64) dm_X12_keep_63 rfl rfl rfl rfl ?_
  refine me3 (pc' := 67) dm_X12_keep_64 (g_get (v := .ref 115) (lu (n := 102) (j := 0) hn rfl) rfl rfl (Nat.le_of_ble_eq_true rfl)) rfl rfl rfl ?_
  refine me0 (pc' := 69) (S' := .int (80 : Int32) :: _) dm_X12_keep_67 rfl rfl rfl rfl ?_
  refine me1 (pc' := 70) dm_X12_keep_69 rfl rfl rfl rfl ?_
  refine me0 (pc' := 71) (S' := .int (240 : Int32) :: _) dm_X12_keep_70 rfl rfl rfl rfl ?_
  refine me1 (pc' := 72) dm_X12_keep_71 rfl rfl rfl rfl ?_
  refine me0 (pc' := 73) (S' := .int (266 : Int32) :: _) dm_X12_keep_72 rfl rfl rfl rfl ?_
  refine me1 (pc' := 74) dm_X12_keep_73 rfl rfl rfl rfl ?_
  refine me3 (pc' := 77) dm_X12_keep_74 (g_get (v := .ref 112) (lu (n := 102) (j := 0) hn rfl) rfl rfl (Nat.le_of_ble_eq_true rfl)) rfl rfl rfl ?_
  refine me1 (pc' := 78) dm_X12_keep_77 rfl rfl rfl rfl ?_
  refine me3 (pc' := 79) dm_X12_keep_78 (g_iald (v := (0 : Int32)) (lu (n := 102) (j := 10) hn rfl) rfl (by decide) rfl (Nat.le_of_ble_eq_true rfl)) rfl rfl rfl ?_
  refine me3 (pc' := 80) dm_X12_keep_79 (u_iast (n := 102) (j := 13) hn rfl rfl (by decide) rfl (Nat.le_of_ble_eq_true rfl)) rfl rfl rfl ?_
  refine me1 (pc' := 81) dm_X12_keep_80 rfl rfl rfl rfl ?_
  refine me3 (pc' := 84) dm_X12_keep_81 (g_get (v := .ref 114) (lu (n := 102) (j := 0) hn rfl) rfl rfl (Nat.le_of_ble_eq_true rfl)) rfl rfl rfl ?_
  refine me0 (pc' := 86) (S' := .int (80 : Int32) :: _) dm_X12_keep_84 rfl rfl rfl rfl ?_
  refine me1 (pc' := 87) dm_X12_keep_86 rfl rfl rfl rfl ?_
  refine me0 (pc' := 88) (S' := .int (240 : Int32) :: _) dm_X12_keep_87 rfl rfl rfl rfl ?_
  refine me0 (pc' := 90) (S' := .int (40 : Int32) :: _) dm_X12_keep_88 rfl rfl rfl rfl ?_
  refine me0 (pc' := 91) (S' := .int (280 : Int32) :: _) dm_X12_keep_90 rfl rfl rfl rfl ?_
  refine me1 (pc' := 92) dm_X12_keep_91 rfl rfl rfl rfl ?_
  refine me0 (pc' := 93) (S' := .int (306 : Int32) :: _) dm_X12_keep_92 rfl rfl rfl rfl ?_
  refine me1 (pc' := 94) dm_X12_keep_93 rfl rfl rfl rfl ?_
  refine me3 (pc' := 97) dm_X12_keep_94 (g_get (v := .ref 111) (lu (n := 102) (j := 0) hn rfl) rfl rfl (Nat.le_of_ble_eq_true rfl)) rfl rfl rfl ?_
  refine me1 (pc' := 98) dm_X12_keep_97 rfl rfl rfl rfl ?_
  refine me3 (pc' := 99) dm_X12_keep_98 (g_lald (v := (0 : Int64)) (lu (n := 102) (j := 9) hn rfl) rfl (by decide) rfl (Nat.le_of_ble_eq_true rfl)) rfl rfl rfl ?_
  refine me3 (pc' := 100) dm_X12_keep_99 (u_last (n := 102) (j := 12) hn rfl rfl (by decide) rfl (Nat.le_of_ble_eq_true rfl)) rfl rfl rfl ?_
  refine me1 (pc' := 101) dm_X12_keep_100 rfl rfl rfl rfl ?_
  refine me3 (pc' := 104) dm_X12_keep_101 (g_get (v := .ref 115) (lu (n := 102) (j := 0) hn rfl) rfl rfl (Nat.le_of_ble_eq_true rfl)) rfl rfl rfl ?_
  refine me0 (pc' := 106) (S' := .int (80 : Int32) :: _) dm_X12_keep_104 rfl rfl rfl rfl ?_
  refine me1 (pc' := 107) dm_X12_keep_106 rfl rfl rfl rfl ?_
  refine me0 (pc' := 108) (S' := .int (240 : Int32) :: _) dm_X12_keep_107 rfl rfl rfl rfl ?_
  refine me0 (pc' := 110) (S' := .int (40 : Int32) :: _) dm_X12_keep_108 rfl rfl rfl rfl ?_
  refine me0 (pc' := 111) (S' := .int (280 : Int32) :: _) dm_X12_keep_110 rfl rfl rfl rfl ?_
  refine me1 (pc' := 112) dm_X12_keep_111 rfl rfl rfl rfl ?_
  refine me0 (pc' := 113) (S' := .int (306 : Int32) :: _) dm_X12_keep_112 rfl rfl rfl rfl ?_
  refine me1 (pc' := 114) dm_X12_keep_113 rfl rfl rfl rfl ?_
  refine me3 (pc' := 117) dm_X12_keep_114 (g_get (v := .ref 113) (lu (n := 102) (j := 0) hn rfl) rfl rfl (Nat.le_of_ble_eq_true rfl)) rfl rfl rfl ?_
  refine me1 (pc' := 118) dm_X12_keep_117 rfl rfl rfl rfl ?_
  refine me3 (pc' := 119) dm_X12_keep_118 (g_iald (v := (0 : Int32)) (lu (n := 102) (j := 11) hn rfl) rfl (by decide) rfl (Nat.le_of_ble_eq_true rfl)) rfl rfl rfl ?_
  refine me3 (pc' := 120) dm_X12_keep_119 (u_iast (n := 102) (j := 13) hn rfl rfl (by decide) rfl (Nat.le_of_ble_eq_true rfl)) rfl rfl rfl ?_
  refine me1 (pc' := 123) (L' := [(2, .int (27 : Int32)), (0, .ref 102), (1, .int (3 : Int32))]) dm_X12_keep_120 rfl rfl rfl rfl ?_
  refine me2 (pc' := 40) dm_X12_keep_123 rfl rfl rfl ?_
  refine me1 (pc' := 41) dm_X12_keep_40 rfl rfl rfl rfl ?_
  refine me0 (pc' := 43) (S' := .int (40 : Int32) :: _) dm_X12_keep_41 rfl rfl rfl rfl ?_
  refine me_2f (pc' := 46) dm_X12_keep_43 rfl (by decide) rfl ?_
  refine me1 (pc' := 47) dm_X12_keep_46 rfl rfl rfl rfl ?_
  refine me3 (pc' := 50) dm_X12_keep_47 (g_get (v := .ref 114) (lu (n := 102) (j := 0) hn rfl) rfl rfl (Nat.le_of_ble_eq_true rfl)) rfl rfl rfl ?_
  refine me0 (pc' := 52) (S' := .int (80 : Int32) :: _) dm_X12_keep_50 rfl rfl rfl rfl ?_
  refine me1 (pc' := 53) dm_X12_keep_52 rfl rfl rfl rfl ?_
  refine me0 (pc' := 54) (S' := .int (240 : Int32) :: _) dm_X12_keep_53 rfl rfl rfl rfl ?_
  refine me1 (pc' := 55) dm_X12_keep_54 rfl rfl rfl rfl ?_
  refine me0 (pc' := 56) (S' := .int (267 : Int32) :: _) dm_X12_keep_55 rfl rfl rfl rfl ?_
  refine me1 (pc' := 57) dm_X12_keep_56 rfl rfl rfl rfl ?_
  refine me3 (pc' := 60) dm_X12_keep_57 (g_get (v := .ref 110) (lu (n := 102) (j := 0) hn rfl) rfl rfl (Nat.le_of_ble_eq_true rfl)) rfl rfl rfl ?_
  refine me1 (pc' := 61) dm_X12_keep_60 rfl rfl rfl rfl ?_
  refine me3 (pc' := 62) dm_X12_keep_61 (g_lald (v := (0 : Int64)) (lu (n := 102) (j := 8) hn rfl) rfl (by decide) rfl (Nat.le_of_ble_eq_true rfl)) rfl rfl rfl ?_
  refine me3 (pc' := 63) dm_X12_keep_62 (u_last (n := 102) (j := 12) hn rfl rfl (by decide) rfl (Nat.le_of_ble_eq_true rfl)) rfl rfl rfl ?_
  refine me1 (pc' := 64) dm_X12_keep_63 rfl rfl rfl rfl ?_
  refine me3 (pc' := 67) dm_X12_keep_64 (g_get (v := .ref 115) (lu (n := 102) (j := 0) hn rfl) rfl rfl (Nat.le_of_ble_eq_true rfl)) rfl rfl rfl ?_
  refine me0 (pc' := 69) (S' := .int (80 : Int32) :: _) dm_X12_keep_67 rfl rfl rfl rfl ?_
  refine me1 (pc' := 70) dm_X12_keep_69 rfl rfl rfl rfl ?_
  refine me0 (pc' := 71) (S' := .int (240 : Int32) :: _) dm_X12_keep_70 rfl rfl rfl rfl ?_
  refine me1 (pc' := 72) dm_X12_keep_71 rfl rfl rfl rfl ?_
  refine me0 (pc' := 73) (S' := .int (267 : Int32) :: _) dm_X12_keep_72 rfl rfl rfl rfl ?_
  refine me1 (pc' := 74) dm_X12_keep_73 rfl rfl rfl rfl ?_
  refine me3 (pc' := 77) dm_X12_keep_74 (g_get (v := .ref 112) (lu (n := 102) (j := 0) hn rfl) rfl rfl (Nat.le_of_ble_eq_true rfl)) rfl rfl rfl ?_
  refine me1 (pc' := 78) dm_X12_keep_77 rfl rfl rfl rfl ?_
  refine me3 (pc' := 79) dm_X12_keep_78 (g_iald (v := (0 : Int32)) (lu (n := 102) (j := 10) hn rfl) rfl (by decide) rfl (Nat.le_of_ble_eq_true rfl)) rfl rfl rfl ?_
  refine me3 (pc' := 80) dm_X12_keep_79 (u_iast (n := 102) (j := 13) hn rfl rfl (by decide) rfl (Nat.le_of_ble_eq_true rfl)) rfl rfl rfl ?_
  refine me1 (pc' := 81) dm_X12_keep_80 rfl rfl rfl rfl ?_
  refine me3 (pc' := 84) dm_X12_keep_81 (g_get (v := .ref 114) (lu (n := 102) (j := 0) hn rfl) rfl rfl (Nat.le_of_ble_eq_true rfl)) rfl rfl rfl ?_
  refine me0 (pc' := 86) (S' := .int (80 : Int32) :: _) dm_X12_keep_84 rfl rfl rfl rfl ?_
  refine me1 (pc' := 87) dm_X12_keep_86 rfl rfl rfl rfl ?_
  refine me0 (pc' := 88) (S' := .int (240 : Int32) :: _) dm_X12_keep_87 rfl rfl rfl rfl ?_
  refine me0 (pc' := 90) (S' := .int (40 : Int32) :: _) dm_X12_keep_88 rfl rfl rfl rfl ?_
  refine me0 (pc' := 91) (S' := .int (280 : Int32) :: _) dm_X12_keep_90 rfl rfl rfl rfl ?_
  refine me1 (pc' := 92) dm_X12_keep_91 rfl rfl rfl rfl ?_
  refine me0 (pc' := 93) (S' := .int (307 : Int32) :: _) dm_X12_keep_92 rfl rfl rfl rfl ?_
  refine me1 (pc' := 94) dm_X12_keep_93 rfl rfl rfl rfl ?_
  refine me3 (pc' := 97) dm_X12_keep_94 (g_get (v := .ref 111) (lu (n := 102) (j := 0) hn rfl) rfl rfl (Nat.le_of_ble_eq_true rfl)) rfl rfl rfl ?_
  refine me1 (pc' := 98) dm_X12_keep_97 rfl rfl rfl rfl ?_
  refine me3 (pc' := 99) dm_X12_keep_98 (g_lald (v := (0 : Int64)) (lu (n := 102) (j := 9) hn rfl) rfl (by decide) rfl (Nat.le_of_ble_eq_true rfl)) rfl rfl rfl ?_
  refine me3 (pc' := 100) dm_X12_keep_99 (u_last (n := 102) (j := 12) hn rfl rfl (by decide) rfl (Nat.le_of_ble_eq_true rfl)) rfl rfl rfl ?_
  refine me1 (pc' := 101) dm_X12_keep_100 rfl rfl rfl rfl ?_
  refine me3 (pc' := 104) dm_X12_keep_101 (g_get (v := .ref 115) (lu (n := 102) (j := 0) hn rfl) rfl rfl (Nat.le_of_ble_eq_true rfl)) rfl rfl rfl ?_
  refine me0 (pc' := 106) (S' := .int (80 : Int32) :: _) dm_X12_keep_104 rfl rfl rfl rfl ?_
  refine me1 (pc' := 107) dm_X12_keep_106 rfl rfl rfl rfl ?_
  refine me0 (pc' := 108) (S' := .int (240 : Int32) :: _) dm_X12_keep_107 rfl rfl rfl rfl ?_
  refine me0 (pc' := 110) (S' := .int (40 : Int32) :: _) dm_X12_keep_108 rfl rfl rfl rfl ?_
  refine me0 (pc' := 111) (S' := .int (280 : Int32) :: _) dm_X12_keep_110 rfl rfl rfl rfl ?_
  refine me1 (pc' := 112) dm_X12_keep_111 rfl rfl rfl rfl ?_
  refine me0 (pc' := 113) (S' := .int (307 : Int32) :: _) dm_X12_keep_112 rfl rfl rfl rfl ?_
  refine me1 (pc' := 114) dm_X12_keep_113 rfl rfl rfl rfl ?_
  refine me3 (pc' := 117) dm_X12_keep_114 (g_get (v := .ref 113) (lu (n := 102) (j := 0) hn rfl) rfl rfl (Nat.le_of_ble_eq_true rfl)) rfl rfl rfl ?_
  refine me1 (pc' := 118) dm_X12_keep_117 rfl rfl rfl rfl ?_
  refine me3 (pc' := 119) dm_X12_keep_118 (g_iald (v := (0 : Int32)) (lu (n := 102) (j := 11) hn rfl) rfl (by decide) rfl (Nat.le_of_ble_eq_true rfl)) rfl rfl rfl ?_
  refine me3 (pc' := 120) dm_X12_keep_119 (u_iast (n := 102) (j := 13) hn rfl rfl (by decide) rfl (Nat.le_of_ble_eq_true rfl)) rfl rfl rfl ?_
  refine me1 (pc' := 123) (L' := [(2, .int (28 : Int32)), (0, .ref 102), (1, .int (3 : Int32))]) dm_X12_keep_120 rfl rfl rfl rfl ?_
  refine me2 (pc' := 40) dm_X12_keep_123 rfl rfl rfl ?_
  refine me1 (pc' := 41) dm_X12_keep_40 rfl rfl rfl rfl ?_
  refine me0 (pc' := 43) (S' := .int (40 : Int32) :: _) dm_X12_keep_41 rfl rfl rfl rfl ?_
  refine me_2f (pc' := 46) dm_X12_keep_43 rfl (by decide) rfl ?_
  refine me1 (pc' := 47) dm_X12_keep_46 rfl rfl rfl rfl ?_
  refine me3 (pc' := 50) dm_X12_keep_47 (g_get (v := .ref 114) (lu (n := 102) (j := 0) hn rfl) rfl rfl (Nat.le_of_ble_eq_true rfl)) rfl rfl rfl ?_
  refine me0 (pc' := 52) (S' := .int (80 : Int32) :: _) dm_X12_keep_50 rfl rfl rfl rfl ?_
  refine me1 (pc' := 53) dm_X12_keep_52 rfl rfl rfl rfl ?_
  refine me0 (pc' := 54) (S' := .int (240 : Int32) :: _) dm_X12_keep_53 rfl rfl rfl rfl ?_
  refine me1 (pc' := 55) dm_X12_keep_54 rfl rfl rfl rfl ?_
  refine me0 (pc' := 56) (S' := .int (268 : Int32) :: _) dm_X12_keep_55 rfl rfl rfl rfl ?_
  refine me1 (pc' := 57) dm_X12_keep_56 rfl rfl rfl rfl ?_
  refine me3 (pc' := 60) dm_X12_keep_57 (g_get (v := .ref 110) (lu (n := 102) (j := 0) hn rfl) rfl rfl (Nat.le_of_ble_eq_true rfl)) rfl rfl rfl ?_
  refine me1 (pc' := 61) dm_X12_keep_60 rfl rfl rfl rfl ?_
  refine me3 (pc' := 62) dm_X12_keep_61 (g_lald (v := (0 : Int64)) (lu (n := 102) (j := 8) hn rfl) rfl (by decide) rfl (Nat.le_of_ble_eq_true rfl)) rfl rfl rfl ?_
  refine me3 (pc' := 63) dm_X12_keep_62 (u_last (n := 102) (j := 12) hn rfl rfl (by decide) rfl (Nat.le_of_ble_eq_true rfl)) rfl rfl rfl ?_
  refine me1 (pc' := 64) dm_X12_keep_63 rfl rfl rfl rfl ?_
  refine me3 (pc' := 67) dm_X12_keep_64 (g_get (v := .ref 115) (lu (n := 102) (j := 0) hn rfl) rfl rfl (Nat.le_of_ble_eq_true rfl)) rfl rfl rfl ?_
  refine me0 (pc' := 69) (S' := .int (80 : Int32) :: _) dm_X12_keep_67 rfl rfl rfl rfl ?_
  refine me1 (pc' := 70) dm_X12_keep_69 rfl rfl rfl rfl ?_
  refine me0 (pc' := 71) (S' := .int (240 : Int32) :: _) dm_X12_keep_70 rfl rfl rfl rfl ?_
  refine me1 (pc' := 72) dm_X12_keep_71 rfl rfl rfl rfl ?_
  refine me0 (pc' := 73) (S' := .int (268 : Int32) :: _) dm_X12_keep_72 rfl rfl rfl rfl ?_
  refine me1 (pc' := 74) dm_X12_keep_73 rfl rfl rfl rfl ?_
  refine me3 (pc' := 77) dm_X12_keep_74 (g_get (v := .ref 112) (lu (n := 102) (j := 0) hn rfl) rfl rfl (Nat.le_of_ble_eq_true rfl)) rfl rfl rfl ?_
  refine me1 (pc' := 78) dm_X12_keep_77 rfl rfl rfl rfl ?_
  refine me3 (pc' := 79) dm_X12_keep_78 (g_iald (v := (0 : Int32)) (lu (n := 102) (j := 10) hn rfl) rfl (by decide) rfl (Nat.le_of_ble_eq_true rfl)) rfl rfl rfl ?_
  refine me3 (pc' := 80) dm_X12_keep_79 (u_iast (n := 102) (j := 13) hn rfl rfl (by decide) rfl (Nat.le_of_ble_eq_true rfl)) rfl rfl rfl ?_
  refine me1 (pc' := 81) dm_X12_keep_80 rfl rfl rfl rfl ?_
  refine me3 (pc' := 84) dm_X12_keep_81 (g_get (v := .ref 114) (lu (n := 102) (j := 0) hn rfl) rfl rfl (Nat.le_of_ble_eq_true rfl)) rfl rfl rfl ?_
  refine me0 (pc' := 86) (S' := .int (80 : Int32) :: _) dm_X12_keep_84 rfl rfl rfl rfl ?_
  refine me1 (pc' := 87) dm_X12_keep_86 rfl rfl rfl rfl ?_
  refine me0 (pc' := 88) (S' := .int (240 : Int32) :: _) dm_X12_keep_87 rfl rfl rfl rfl ?_
  refine me0 (pc' := 90) (S' := .int (40 : Int32) :: _) dm_X12_keep_88 rfl rfl rfl rfl ?_
  refine me0 (pc' := 91) (S' := .int (280 : Int32) :: _) dm_X12_keep_90 rfl rfl rfl rfl ?_
  refine me1 (pc' := 92) dm_X12_keep_91 rfl rfl rfl rfl ?_
  refine me0 (pc' := 93) (S' := .int (308 : Int32) :: _) dm_X12_keep_92 rfl rfl rfl rfl ?_
  refine me1 (pc' := 94) dm_X12_keep_93 rfl rfl rfl rfl ?_
  refine me3 (pc' := 97) dm_X12_keep_94 (g_get (v := .ref 111) (lu (n := 102) (j := 0) hn rfl) rfl rfl (Nat.le_of_ble_eq_true rfl)) rfl rfl rfl ?_
  refine me1 (pc' := 98) dm_X12_keep_97 rfl rfl rfl rfl ?_
  refine me3 (pc' := 99) dm_X12_keep_98 (g_lald (v := (0 : Int64)) (lu (n := 102) (j := 9) hn rfl) rfl (by decide) rfl (Nat.le_of_ble_eq_true rfl)) rfl rfl rfl ?_
  refine me3 (pc' := 100) dm_X12_keep_99 (u_last (n := 102) (j := 12) hn rfl rfl (by decide) rfl (Nat.le_of_ble_eq_true rfl)) rfl rfl rfl ?_
  refine me1 (pc' := 101) dm_X12_keep_100 rfl rfl rfl rfl ?_
  refine me3 (pc' := 104) dm_X12_keep_101 (g_get (v := .ref 115) (lu (n := 102) (j := 0) hn rfl) rfl rfl (Nat.le_of_ble_eq_true rfl)) rfl rfl rfl ?_
  refine me0 (pc' := 106) (S' := .int (80 : Int32) :: _) dm_X12_keep_104 rfl rfl rfl rfl ?_
  refine me1 (pc' := 107) dm_X12_keep_106 rfl rfl rfl rfl ?_
  refine me0 (pc' := 108) (S' := .int (240 : Int32) :: _) dm_X12_keep_107 rfl rfl rfl rfl ?_
  refine me0 (pc' := 110) (S' := .int (40 : Int32) :: _) dm_X12_keep_108 rfl rfl rfl rfl ?_
  refine me0 (pc' := 111) (S' := .int (280 : Int32) :: _) dm_X12_keep_110 rfl rfl rfl rfl ?_
  refine me1 (pc' := 112) dm_X12_keep_111 rfl rfl rfl rfl ?_
  refine me0 (pc' := 113) (S' := .int (308 : Int32) :: _) dm_X12_keep_112 rfl rfl rfl rfl ?_
  refine me1 (pc' := 114) dm_X12_keep_113 rfl rfl rfl rfl ?_
  refine me3 (pc' := 117) dm_X12_keep_114 (g_get (v := .ref 113) (lu (n := 102) (j := 0) hn rfl) rfl rfl (Nat.le_of_ble_eq_true rfl)) rfl rfl rfl ?_
  refine me1 (pc' := 118) dm_X12_keep_117 rfl rfl rfl rfl ?_
  refine me3 (pc' := 119) dm_X12_keep_118 (g_iald (v := (0 : Int32)) (lu (n := 102) (j := 11) hn rfl) rfl (by decide) rfl (Nat.le_of_ble_eq_true rfl)) rfl rfl rfl ?_
  refine me3 (pc' := 120) dm_X12_keep_119 (u_iast (n := 102) (j := 13) hn rfl rfl (by decide) rfl (Nat.le_of_ble_eq_true rfl)) rfl rfl rfl ?_
  refine me1 (pc' := 123) (L' := [(2, .int (29 : Int32)), (0, .ref 102), (1, .int (3 : Int32))]) dm_X12_keep_120 rfl rfl rfl rfl ?_
  refine me2 (pc' := 40) dm_X12_keep_123 rfl rfl rfl ?_
  refine me1 (pc' := 41) dm_X12_keep_40 rfl rfl rfl rfl ?_
  refine me0 (pc' := 43) (S' := .int (40 : Int32) :: _) dm_X12_keep_41 rfl rfl rfl rfl ?_
  refine me_2f (pc' := 46) dm_X12_keep_43 rfl (by decide) rfl ?_
  refine me1 (pc' := 47) dm_X12_keep_46 rfl rfl rfl rfl ?_
  refine me3 (pc' := 50) dm_X12_keep_47 (g_get (v := .ref 114) (lu (n := 102) (j := 0) hn rfl) rfl rfl (Nat.le_of_ble_eq_true rfl)) rfl rfl rfl ?_
  refine me0 (pc' := 52) (S' := .int (80 : Int32) :: _) dm_X12_keep_50 rfl rfl rfl rfl ?_
  refine me1 (pc' := 53) dm_X12_keep_52 rfl rfl rfl rfl ?_
  refine me0 (pc' := 54) (S' := .int (240 : Int32) :: _) dm_X12_keep_53 rfl rfl rfl rfl ?_
  refine me1 (pc' := 55) dm_X12_keep_54 rfl rfl rfl rfl ?_
  refine me0 (pc' := 56) (S' := .int (269 : Int32) :: _) dm_X12_keep_55 rfl rfl rfl rfl ?_
  refine me1 (pc' := 57) dm_X12_keep_56 rfl rfl rfl rfl ?_
  refine me3 (pc' := 60) dm_X12_keep_57 (g_get (v := .ref 110) (lu (n := 102) (j := 0) hn rfl) rfl rfl (Nat.le_of_ble_eq_true rfl)) rfl rfl rfl ?_
  refine me1 (pc' := 61) dm_X12_keep_60 rfl rfl rfl rfl ?_
  refine me3 (pc' := 62) dm_X12_keep_61 (g_lald (v := (0 : Int64)) (lu (n := 102) (j := 8) hn rfl) rfl (by decide) rfl (Nat.le_of_ble_eq_true rfl)) rfl rfl rfl ?_
  refine me3 (pc' := 63) dm_X12_keep_62 (u_last (n := 102) (j := 12) hn rfl rfl (by decide) rfl (Nat.le_of_ble_eq_true rfl)) rfl rfl rfl ?_
  refine me1 (pc' := 64) dm_X12_keep_63 rfl rfl rfl rfl ?_
  refine me3 (pc' := 67) dm_X12_keep_64 (g_get (v := .ref 115) (lu (n := 102) (j := 0) hn rfl) rfl rfl (Nat.le_of_ble_eq_true rfl)) rfl rfl rfl ?_
  refine me0 (pc' := 69) (S' := .int (80 : Int32) :: _) dm_X12_keep_67 rfl rfl rfl rfl ?_
  refine me1 (pc' := 70) dm_X12_keep_69 rfl rfl rfl rfl ?_
  refine me0 (pc' := 71) (S' := .int (240 : Int32) :: _) dm_X12_keep_70 rfl rfl rfl rfl ?_
  refine me1 (pc' := 72) dm_X12_keep_71 rfl rfl rfl rfl ?_
  refine me0 (pc' := 73) (S' := .int (269 : Int32) :: _) dm_X12_keep_72 rfl rfl rfl rfl ?_
  refine me1 (pc' := 74) dm_X12_keep_73 rfl rfl rfl rfl ?_
  refine me3 (pc' := 77) dm_X12_keep_74 (g_get (v := .ref 112) (lu (n := 102) (j := 0) hn rfl) rfl rfl (Nat.le_of_ble_eq_true rfl)) rfl rfl rfl ?_
  refine me1 (pc' := 78) dm_X12_keep_77 rfl rfl rfl rfl ?_
  refine me3 (pc' := 79) dm_X12_keep_78 (g_iald (v := (0 : Int32)) (lu (n := 102) (j := 10) hn rfl) rfl (by decide) rfl (Nat.le_of_ble_eq_true rfl)) rfl rfl rfl ?_
  refine me3 (pc' := 80) dm_X12_keep_79 (u_iast (n := 102) (j := 13) hn rfl rfl (by decide) rfl (Nat.le_of_ble_eq_true rfl)) rfl rfl rfl ?_
  refine me1 (pc' := 81) dm_X12_keep_80 rfl rfl rfl rfl ?_
  refine me3 (pc' := 84) dm_X12_keep_81 (g_get (v := .ref 114) (lu (n := 102) (j := 0) hn rfl) rfl rfl (Nat.le_of_ble_eq_true rfl)) rfl rfl rfl ?_
  refine me0 (pc' := 86) (S' := .int (80 : Int32) :: _) dm_X12_keep_84 rfl rfl rfl rfl ?_
  refine me1 (pc' := 87) dm_X12_keep_86 rfl rfl rfl rfl ?_
  refine me0 (pc' := 88) (S' := .int (240 : Int32) :: _) dm_X12_keep_87 rfl rfl rfl rfl ?_
  refine me0 (pc' := 90) (S' := .int (40 : Int32) :: _) dm_X12_keep_88 rfl rfl rfl rfl ?_
  refine me0 (pc' := 91) (S' := .int (280 : Int32) :: _) dm_X12_keep_90 rfl rfl rfl rfl ?_
  refine me1 (pc' := 92) dm_X12_keep_91 rfl rfl rfl rfl ?_
  refine me0 (pc' := 93) (S' := .int (309 : Int32) :: _) dm_X12_keep_92 rfl rfl rfl rfl ?_
  refine me1 (pc' := 94) dm_X12_keep_93 rfl rfl rfl rfl ?_
  refine me3 (pc' := 97) dm_X12_keep_94 (g_get (v := .ref 111) (lu (n := 102) (j := 0) hn rfl) rfl rfl (Nat.le_of_ble_eq_true rfl)) rfl rfl rfl ?_
  refine me1 (pc' := 98) dm_X12_keep_97 rfl rfl rfl rfl ?_
  refine me3 (pc' := 99) dm_X12_keep_98 (g_lald (v := (0 : Int64)) (lu (n := 102) (j := 9) hn rfl) rfl (by decide) rfl (Nat.le_of_ble_eq_true rfl)) rfl rfl rfl ?_
  refine me3 (pc' := 100) dm_X12_keep_99 (u_last (n := 102) (j := 12) hn rfl rfl (by decide) rfl (Nat.le_of_ble_eq_true rfl)) rfl rfl rfl ?_
  refine me1 (pc' := 101) dm_X12_keep_100 rfl rfl rfl rfl ?_
  refine me3 (pc' := 104) dm_X12_keep_101 (g_get (v := .ref 115) (lu (n := 102) (j := 0) hn rfl) rfl rfl (Nat.le_of_ble_eq_true rfl)) rfl rfl rfl ?_
  refine me0 (pc' := 106) (S' := .int (80 : Int32) :: _) dm_X12_keep_104 rfl rfl rfl rfl ?_
  refine me1 (pc' := 107) dm_X12_keep_106 rfl rfl rfl rfl ?_
  refine me0 (pc' := 108) (S' := .int (240 : Int32) :: _) dm_X12_keep_107 rfl rfl rfl rfl ?_
  refine me0 (pc' := 110) (S' := .int (40 : Int32) :: _) dm_X12_keep_108 rfl rfl rfl rfl ?_
  refine me0 (pc' := 111) (S' := .int (280 : Int32) :: _) dm_X12_keep_110 rfl rfl rfl rfl ?_
  refine me1 (pc' := 112) dm_X12_keep_111 rfl rfl rfl rfl ?_
  refine me0 (pc' := 113) (S' := .int (309 : Int32) :: _) dm_X12_keep_112 rfl rfl rfl rfl ?_
  refine me1 (pc' := 114) dm_X12_keep_113 rfl rfl rfl rfl ?_
  refine me3 (pc' := 117) dm_X12_keep_114 (g_get (v := .ref 113) (lu (n := 102) (j := 0) hn rfl) rfl rfl (Nat.le_of_ble_eq_true rfl)) rfl rfl rfl ?_
  refine me1 (pc' := 118) dm_X12_keep_117 rfl rfl rfl rfl ?_
  refine me3 (pc' := 119) dm_X12_keep_118 (g_iald (v := (0 : Int32)) (lu (n := 102) (j := 11) hn rfl) rfl (by decide) rfl (Nat.le_of_ble_eq_true rfl)) rfl rfl rfl ?_
  refine me3 (pc' := 120) dm_X12_keep_119 (u_iast (n := 102) (j := 13) hn rfl rfl (by decide) rfl (Nat.le_of_ble_eq_true rfl)) rfl rfl rfl ?_
  refine me1 (pc' := 123) (L' := [(2, .int (30 : Int32)), (0, .ref 102), (1, .int (3 : Int32))]) dm_X12_keep_120 rfl rfl rfl rfl ?_
  refine me2 (pc' := 40) dm_X12_keep_123 rfl rfl rfl ?_
  refine me1 (pc' := 41) dm_X12_keep_40 rfl rfl rfl rfl ?_
  refine me0 (pc' := 43) (S' := .int (40 : Int32) :: _) dm_X12_keep_41 rfl rfl rfl rfl ?_
  refine me_2f (pc' := 46) dm_X12_keep_43 rfl (by decide) rfl ?_
  refine me1 (pc' := 47) dm_X12_keep_46 rfl rfl rfl rfl ?_
  refine me3 (pc' := 50) dm_X12_keep_47 (g_get (v := .ref 114) (lu (n := 102) (j := 0) hn rfl) rfl rfl (Nat.le_of_ble_eq_true rfl)) rfl rfl rfl ?_
  refine me0 (pc' := 52) (S' := .int (80 : Int32) :: _) dm_X12_keep_50 rfl rfl rfl rfl ?_
  refine me1 (pc' := 53) dm_X12_keep_52 rfl rfl rfl rfl ?_
  refine me0 (pc' := 54) (S' := .int (240 : Int32) :: _) dm_X12_keep_53 rfl rfl rfl rfl ?_
  refine me1 (pc' := 55) dm_X12_keep_54 rfl rfl rfl rfl ?_
  refine me0 (pc' := 56) (S' := .int (270 : Int32) :: _) dm_X12_keep_55 rfl rfl rfl rfl ?_
  refine me1 (pc' := 57) dm_X12_keep_56 rfl rfl rfl rfl ?_
  refine me3 (pc' := 60) dm_X12_keep_57 (g_get (v := .ref 110) (lu (n := 102) (j := 0) hn rfl) rfl rfl (Nat.le_of_ble_eq_true rfl)) rfl rfl rfl ?_
  refine me1 (pc' := 61) dm_X12_keep_60 rfl rfl rfl rfl ?_
  refine me3 (pc' := 62) dm_X12_keep_61 (g_lald (v := (0 : Int64)) (lu (n := 102) (j := 8) hn rfl) rfl (by decide) rfl (Nat.le_of_ble_eq_true rfl)) rfl rfl rfl ?_
  refine me3 (pc' := 63) dm_X12_keep_62 (u_last (n := 102) (j := 12) hn rfl rfl (by decide) rfl (Nat.le_of_ble_eq_true rfl)) rfl rfl rfl ?_
  refine me1 (pc' := 64) dm_X12_keep_63 rfl rfl rfl rfl ?_
  refine me3 (pc' := 67) dm_X12_keep_64 (g_get (v := .ref 115) (lu (n := 102) (j := 0) hn rfl) rfl rfl (Nat.le_of_ble_eq_true rfl)) rfl rfl rfl ?_
  refine me0 (pc' := 69) (S' := .int (80 : Int32) :: _) dm_X12_keep_67 rfl rfl rfl rfl ?_
  refine me1 (pc' := 70) dm_X12_keep_69 rfl rfl rfl rfl ?_
  refine me0 (pc' := 71) (S' := .int (240 : Int32) :: _) dm_X12_keep_70 rfl rfl rfl rfl ?_
  refine me1 (pc' := 72) dm_X12_keep_71 rfl rfl rfl rfl ?_
  refine me0 (pc' := 73) (S' := .int (270 : Int32) :: _) dm_X12_keep_72 rfl rfl rfl rfl ?_
  refine me1 (pc' := 74) dm_X12_keep_73 rfl rfl rfl rfl ?_
  refine me3 (pc' := 77) dm_X12_keep_74 (g_get (v := .ref 112) (lu (n := 102) (j := 0) hn rfl) rfl rfl (Nat.le_of_ble_eq_true rfl)) rfl rfl rfl ?_
  refine me1 (pc' := 78) dm_X12_keep_77 rfl rfl rfl rfl ?_
  refine me3 (pc' := 79) dm_X12_keep_78 (g_iald (v := (0 : Int32)) (lu (n := 102) (j := 10) hn rfl) rfl (by decide) rfl (Nat.le_of_ble_eq_true rfl)) rfl rfl rfl ?_
  refine me3 (pc' := 80) dm_X12_keep_79 (u_iast (n := 102) (j := 13) hn rfl rfl (by decide) rfl (Nat.le_of_ble_eq_true rfl)) rfl rfl rfl ?_
  refine me1 (pc' := 81) dm_X12_keep_80 rfl rfl rfl rfl ?_
  refine me3 (pc' := 84) dm_X12_keep_81 (g_get (v := .ref 114) (lu (n := 102) (j := 0) hn rfl) rfl rfl (Nat.le_of_ble_eq_true rfl)) rfl rfl rfl ?_
  refine me0 (pc' := 86) (S' := .int (80 : Int32) :: _) dm_X12_keep_84 rfl rfl rfl rfl ?_
  refine me1 (pc' := 87) dm_X12_keep_86 rfl rfl rfl rfl ?_
  refine me0 (pc' := 88) (S' := .int (240 : Int32) :: _) dm_X12_keep_87 rfl rfl rfl rfl ?_
  refine me0 (pc' := 90) (S' := .int (40 : Int32) :: _) dm_X12_keep_88 rfl rfl rfl rfl ?_
  refine me0 (pc' := 91) (S' := .int (280 : Int32) :: _) dm_X12_keep_90 rfl rfl rfl rfl ?_
  refine me1 (pc' := 92) dm_X12_keep_91 rfl rfl rfl rfl ?_
  refine me0 (pc' := 93) (S' := .int (310 : Int32) :: _) dm_X12_keep_92 rfl rfl rfl rfl ?_
  refine me1 (pc' := 94) dm_X12_keep_93 rfl rfl rfl rfl ?_
  refine me3 (pc' := 97) dm_X12_keep_94 (g_get (v := .ref 111) (lu (n := 102) (j := 0) hn rfl) rfl rfl (Nat.le_of_ble_eq_true rfl)) rfl rfl rfl ?_
  refine me1 (pc' := 98) dm_X12_keep_97 rfl rfl rfl rfl ?_
  refine me3 (pc' := 99) dm_X12_keep_98 (g_lald (v := (0 : Int64)) (lu (n := 102) (j := 9) hn rfl) rfl (by decide) rfl (Nat.le_of_ble_eq_true rfl)) rfl rfl rfl ?_
  refine me3 (pc' := 100) dm_X12_keep_99 (u_last (n := 102) (j := 12) hn rfl rfl (by decide) rfl (Nat.le_of_ble_eq_true rfl)) rfl rfl rfl ?_
  refine me1 (pc' := 101) dm_X12_keep_100 rfl rfl rfl rfl ?_
  refine me3 (pc' := 104) dm_X12_keep_101 (g_get (v := .ref 115) (lu (n := 102) (j := 0) hn rfl) rfl rfl (Nat.le_of_ble_eq_true rfl)) rfl rfl rfl ?_
  refine me0 (pc' := 106) (S' := .int (80 : Int32) :: _) dm_X12_keep_104 rfl rfl rfl rfl ?_
  refine me1 (pc' := 107) dm_X12_keep_106 rfl rfl rfl rfl ?_
  refine me0 (pc' := 108) (S' := .int (240 : Int32) :: _) dm_X12_keep_107 rfl rfl rfl rfl ?_
  refine me0 (pc' := 110) (S' := .int (40 : Int32) :: _) dm_X12_keep_108 rfl rfl rfl rfl ?_
  refine me0 (pc' := 111) (S' := .int (280 : Int32) :: _) dm_X12_keep_110 rfl rfl rfl rfl ?_
  refine me1 (pc' := 112) dm_X12_keep_111 rfl rfl rfl rfl ?_
  refine me0 (pc' := 113) (S' := .int (310 : Int32) :: _) dm_X12_keep_112 rfl rfl rfl rfl ?_
  refine me1 (pc' := 114) dm_X12_keep_113 rfl rfl rfl rfl ?_
  refine me3 (pc' := 117) dm_X12_keep_114 (g_get (v := .ref 113) (lu (n := 102) (j := 0) hn rfl) rfl rfl (Nat.le_of_ble_eq_true rfl)) rfl rfl rfl ?_
  refine me1 (pc' := 118) dm_X12_keep_117 rfl rfl rfl rfl ?_
  refine me3 (pc' := 119) dm_X12_keep_118 (g_iald (v := (0 : Int32)) (lu (n := 102) (j := 11) hn rfl) rfl (by decide) rfl (Nat.le_of_ble_eq_true rfl)) rfl rfl rfl ?_
  refine me3 (pc' := 120) dm_X12_keep_119 (u_iast (n := 102) (j := 13) hn rfl rfl (by decide) rfl (Nat.le_of_ble_eq_true rfl)) rfl rfl rfl ?_
  refine me1 (pc' := 123) (L' := [(2, .int (31 : Int32)), (0, .ref 102), (1, .int (3 : Int32))]) dm_X12_keep_120 rfl rfl rfl rfl ?_
  refine me2 (pc' := 40) dm_X12_keep_123 rfl rfl rfl ?_
  refine me1 (pc' := 41) dm_X12_keep_40 rfl rfl rfl rfl ?_
  refine me0 (pc' := 43) (S' := .int (40 : Int32) :: _) dm_X12_keep_41 rfl rfl rfl rfl ?_
  refine me_2f (pc' := 46) dm_X12_keep_43 rfl (by decide) rfl ?_
  refine me1 (pc' := 47) dm_X12_keep_46 rfl rfl rfl rfl ?_
  refine me3 (pc' := 50) dm_X12_keep_47 (g_get (v := .ref 114) (lu (n := 102) (j := 0) hn rfl) rfl rfl (Nat.le_of_ble_eq_true rfl)) rfl rfl rfl ?_
  refine me0 (pc' := 52) (S' := .int (80 : Int32) :: _) dm_X12_keep_50 rfl rfl rfl rfl ?_
  refine me1 (pc' := 53) dm_X12_keep_52 rfl rfl rfl rfl ?_
  refine me0 (pc' := 54) (S' := .int (240 : Int32) :: _) dm_X12_keep_53 rfl rfl rfl rfl ?_
  refine me1 (pc' := 55) dm_X12_keep_54 rfl rfl rfl rfl ?_
  refine me0 (pc' := 56) (S' := .int (271 : Int32) :: _) dm_X12_keep_55 rfl rfl rfl rfl ?_
  refine me1 (pc' := 57) dm_X12_keep_56 rfl rfl rfl rfl ?_
  refine me3 (pc' := 60) dm_X12_keep_57 (g_get (v := .ref 110) (lu (n := 102) (j := 0) hn rfl) rfl rfl (Nat.le_of_ble_eq_true rfl)) rfl rfl rfl ?_
  refine me1 (pc' := 61) dm_X12_keep_60 rfl rfl rfl rfl ?_
  refine me3 (pc' := 62) dm_X12_keep_61 (g_lald (v := (0 : Int64)) (lu (n := 102) (j := 8) hn rfl) rfl (by decide) rfl (Nat.le_of_ble_eq_true rfl)) rfl rfl rfl ?_
  refine me3 (pc' := 63) dm_X12_keep_62 (u_last (n := 102) (j := 12) hn rfl rfl (by decide) rfl (Nat.le_of_ble_eq_true rfl)) rfl rfl rfl ?_
  refine me1 (pc' := 64) dm_X12_keep_63 rfl rfl rfl rfl ?_
  refine me3 (pc' := 67) dm_X12_keep_64 (g_get (v := .ref 115) (lu (n := 102) (j := 0) hn rfl) rfl rfl (Nat.le_of_ble_eq_true rfl)) rfl rfl rfl ?_
  refine me0 (pc' := 69) (S' := .int (80 : Int32) :: _) dm_X12_keep_67 rfl rfl rfl rfl ?_
  refine me1 (pc' := 70) dm_X12_keep_69 rfl rfl rfl rfl ?_
  refine me0 (pc' := 71) (S' := .int (240 : Int32) :: _) dm_X12_keep_70 rfl rfl rfl rfl ?_
  refine me1 (pc' := 72) dm_X12_keep_71 rfl rfl rfl rfl ?_
  refine me0 (pc' := 73) (S' := .int (271 : Int32) :: _) dm_X12_keep_72 rfl rfl rfl rfl ?_
  refine me1 (pc' := 74) dm_X12_keep_73 rfl rfl rfl rfl ?_
  refine me3 (pc' := 77) dm_X12_keep_74 (g_get (v := .ref 112) (lu (n := 102) (j := 0) hn rfl) rfl rfl (Nat.le_of_ble_eq_true rfl)) rfl rfl rfl ?_
  refine me1 (pc' := 78) dm_X12_keep_77 rfl rfl rfl rfl ?_
  refine me3 (pc' := 79) dm_X12_keep_78 (g_iald (v := (0 : Int32)) (lu (n := 102) (j := 10) hn rfl) rfl (by decide) rfl (Nat.le_of_ble_eq_true rfl)) rfl rfl rfl ?_
  refine me3 (pc' := 80) dm_X12_keep_79 (u_iast (n := 102) (j := 13) hn rfl rfl (by decide) rfl (Nat.le_of_ble_eq_true rfl)) rfl rfl rfl ?_
  refine me1 (pc' := 81) dm_X12_keep_80 rfl rfl rfl rfl ?_
  refine me3 (pc' := 84) dm_X12_keep_81 (g_get (v := .ref 114) (lu (n := 102) (j := 0) hn rfl) rfl rfl (Nat.le_of_ble_eq_true rfl)) rfl rfl rfl ?_
  refine me0 (pc' := 86) (S' := .int (80 : Int32) :: _) dm_X12_keep_84 rfl rfl rfl rfl ?_
  refine me1 (pc' := 87) dm_X12_keep_86 rfl rfl rfl rfl ?_
  refine me0 (pc' := 88) (S' := .int (240 : Int32) :: _) dm_X12_keep_87 rfl rfl rfl rfl ?_
  refine me0 (pc' := 90) (S' := .int (40 : Int32) :: _) dm_X12_keep_88 rfl rfl rfl rfl ?_
  refine me0 (pc' := 91) (S' := .int (280 : Int32) :: _) dm_X12_keep_90 rfl rfl rfl rfl ?_
  refine me1 (pc' := 92) dm_X12_keep_91 rfl rfl rfl rfl ?_
  refine me0 (pc' := 93) (S' := .int (311 : Int32) :: _) dm_X12_keep_92 rfl rfl rfl rfl ?_
  refine me1 (pc' := 94) dm_X12_keep_93 rfl rfl rfl rfl ?_
  refine me3 (pc' := 97) dm_X12_keep_94 (g_get (v := .ref 111) (lu (n := 102) (j := 0) hn rfl) rfl rfl (Nat.le_of_ble_eq_true rfl)) rfl rfl rfl ?_
  refine me1 (pc' := 98) dm_X12_keep_97 rfl rfl rfl rfl ?_
  refine me3 (pc' := 99) dm_X12_keep_98 (g_lald (v := (0 : Int64)) (lu (n := 102) (j := 9) hn rfl) rfl (by decide) rfl (Nat.le_of_ble_eq_true rfl)) rfl rfl rfl ?_
  refine me3 (pc' := 100) dm_X12_keep_99 (u_last (n := 102) (j := 12) hn rfl rfl (by decide) rfl (Nat.le_of_ble_eq_true rfl)) rfl rfl rfl ?_
  refine me1 (pc' := 101) dm_X12_keep_100 rfl rfl rfl rfl ?_
  refine me3 (pc' := 104) dm_X12_keep_101 (g_get (v := .ref 115) (lu (n := 102) (j := 0) hn rfl) rfl rfl (Nat.le_of_ble_eq_true rfl)) rfl rfl rfl ?_
  refine me0 (pc' := 106) (S' := .int (80 : Int32) :: _) dm_X12_keep_104 rfl rfl rfl rfl ?_
  refine me1 (pc' := 107) dm_X12_keep_106 rfl rfl rfl rfl ?_
  refine me0 (pc' := 108) (S' := .int (240 : Int32) :: _) dm_X12_keep_107 rfl rfl rfl rfl ?_
  refine me0 (pc' := 110) (S' := .int (40 : Int32) :: _) dm_X12_keep_108 rfl rfl rfl rfl ?_
  refine me0 (pc' := 111) (S' := .int (280 : Int32) :: _) dm_X12_keep_110 rfl rfl rfl rfl ?_
  refine me1 (pc' := 112) dm_X12_keep_111 rfl rfl rfl rfl ?_
  refine me0 (pc' := 113) (S' := .int (311 : Int32) :: _) dm_X12_keep_112 rfl rfl rfl rfl ?_
  refine me1 (pc' := 114) dm_X12_keep_113 rfl rfl rfl rfl ?_
  refine me3 (pc' := 117) dm_X12_keep_114 (g_get (v := .ref 113) (lu (n := 102) (j := 0) hn rfl) rfl rfl (Nat.le_of_ble_eq_true rfl)) rfl rfl rfl ?_
  refine me1 (pc' := 118) dm_X12_keep_117 rfl rfl rfl rfl ?_
  refine me3 (pc' := 119) dm_X12_keep_118 (g_iald (v := (0 : Int32)) (lu (n := 102) (j := 11) hn rfl) rfl (by decide) rfl (Nat.le_of_ble_eq_true rfl)) rfl rfl rfl ?_
  refine me3 (pc' := 120) dm_X12_keep_119 (u_iast (n := 102) (j := 13) hn rfl rfl (by decide) rfl (Nat.le_of_ble_eq_true rfl)) rfl rfl rfl ?_
  refine me1 (pc' := 123) (L' := [(2, .int (32 : Int32)), (0, .ref 102), (1, .int (3 : Int32))]) dm_X12_keep_120 rfl rfl rfl rfl ?_
  refine me2 (pc' := 40) dm_X12_keep_123 rfl rfl rfl ?_
  refine me1 (pc' := 41) dm_X12_keep_40 rfl rfl rfl rfl ?_
  refine me0 (pc' := 43) (S' := .int (40 : Int32) :: _) dm_X12_keep_41 rfl rfl rfl rfl ?_
  refine me_2f (pc' := 46) dm_X12_keep_43 rfl (by decide) rfl ?_
  refine me1 (pc' := 47) dm_X12_keep_46 rfl rfl rfl rfl ?_
  refine me3 (pc' := 50) dm_X12_keep_47 (g_get (v := .ref 114) (lu (n := 102) (j := 0) hn rfl) rfl rfl (Nat.le_of_ble_eq_true rfl)) rfl rfl rfl ?_
  refine me0 (pc' := 52) (S' := .int (80 : Int32) :: _) dm_X12_keep_50 rfl rfl rfl rfl ?_
  refine me1 (pc' := 53) dm_X12_keep_52 rfl rfl rfl rfl ?_
  refine me0 (pc' := 54) (S' := .int (240 : Int32) :: _) dm_X12_keep_53 rfl rfl rfl rfl ?_
  refine me1 (pc' := 55) dm_X12_keep_54 rfl rfl rfl rfl ?_
  refine me0 (pc' := 56) (S' := .int (272 : Int32) :: _) dm_X12_keep_55 rfl rfl rfl rfl ?_
  refine me1 (pc' := 57) dm_X12_keep_56 rfl rfl rfl rfl ?_
  refine me3 (pc' := 60) dm_X12_keep_57 (g_get (v := .ref 110) (lu (n := 102) (j := 0) hn rfl) rfl rfl (Nat.le_of_ble_eq_true rfl)) rfl rfl rfl ?_
  refine me1 (pc' := 61) dm_X12_keep_60 rfl rfl rfl rfl ?_
  refine me3 (pc' := 62) dm_X12_keep_61 (g_lald (v := (0 : Int64)) (lu (n := 102) (j := 8) hn rfl) rfl (by decide) rfl (Nat.le_of_ble_eq_true rfl)) rfl rfl rfl ?_
  refine me3 (pc' := 63) dm_X12_keep_62 (u_last (n := 102) (j := 12) hn rfl rfl (by decide) rfl (Nat.le_of_ble_eq_true rfl)) rfl rfl rfl ?_
  refine me1 (pc' := 64) dm_X12_keep_63 rfl rfl rfl rfl ?_
  refine me3 (pc' := 67) dm_X12_keep_64 (g_get (v := .ref 115) (lu (n := 102) (j := 0) hn rfl) rfl rfl (Nat.le_of_ble_eq_true rfl)) rfl rfl rfl ?_
  refine me0 (pc' := 69) (S' := .int (80 : Int32) :: _) dm_X12_keep_67 rfl rfl rfl rfl ?_
  refine me1 (pc' := 70) dm_X12_keep_69 rfl rfl rfl rfl ?_
  refine me0 (pc' := 71) (S' := .int (240 : Int32) :: _) dm_X12_keep_70 rfl rfl rfl rfl ?_
  refine me1 (pc' := 72) dm_X12_keep_71 rfl rfl rfl rfl ?_
  refine me0 (pc' := 73) (S' := .int (272 : Int32) :: _) dm_X12_keep_72 rfl rfl rfl rfl ?_
  refine me1 (pc' := 74) dm_X12_keep_73 rfl rfl rfl rfl ?_
  refine me3 (pc' := 77) dm_X12_keep_74 (g_get (v := .ref 112) (lu (n := 102) (j := 0) hn rfl) rfl rfl (Nat.le_of_ble_eq_true rfl)) rfl rfl rfl ?_
  refine me1 (pc' := 78) dm_X12_keep_77 rfl rfl rfl rfl ?_
  refine me3 (pc' := 79) dm_X12_keep_78 (g_iald (v := (0 : Int32)) (lu (n := 102) (j := 10) hn rfl) rfl (by decide) rfl (Nat.le_of_ble_eq_true rfl)) rfl rfl rfl ?_
  refine me3 (pc' := 80) dm_X12_keep_79 (u_iast (n := 102) (j := 13) hn rfl rfl (by decide) rfl (Nat.le_of_ble_eq_true rfl)) rfl rfl rfl ?_
  refine me1 (pc' := 81) dm_X12_keep_80 rfl rfl rfl rfl ?_
  refine me3 (pc' := 84) dm_X12_keep_81 (g_get (v := .ref 114) (lu (n := 102) (j := 0) hn rfl) rfl rfl (Nat.le_of_ble_eq_true rfl)) rfl rfl rfl ?_
  refine me0 (pc' := 86) (S' := .int (80 : Int32) :: _) dm_X12_keep_84 rfl rfl rfl rfl ?_
  refine me1 (pc' := 87) dm_X12_keep_86 rfl rfl rfl rfl ?_
  refine me0 (pc' := 88) (S' := .int (240 : Int32) :: _) dm_X12_keep_87 rfl rfl rfl rfl ?_
  refine me0 (pc' := 90) (S' := .int (40 : Int32) :: _) dm_X12_keep_88 rfl rfl rfl rfl ?_
  refine me0 (pc' := 91) (S' := .int (280 : Int32) :: _) dm_X12_keep_90 rfl rfl rfl rfl ?_
  refine me1 (pc' := 92) dm_X12_keep_91 rfl rfl rfl rfl ?_
  refine me0 (pc' := 93) (S' := .int (312 : Int32) :: _) dm_X12_keep_92 rfl rfl rfl rfl ?_
  refine me1 (pc' := 94) dm_X12_keep_93 rfl rfl rfl rfl ?_
  refine me3 (pc' := 97) dm_X12_keep_94 (g_get (v := .ref 111) (lu (n := 102) (j := 0) hn rfl) rfl rfl (Nat.le_of_ble_eq_true rfl)) rfl rfl rfl ?_
  refine me1 (pc' := 98) dm_X12_keep_97 rfl rfl rfl rfl ?_
  refine me3 (pc' := 99) dm_X12_keep_98 (g_lald (v := (0 : Int64)) (lu (n := 102) (j := 9) hn rfl) rfl (by decide) rfl (Nat.le_of_ble_eq_true rfl)) rfl rfl rfl ?_
  refine me3 (pc' := 100) dm_X12_keep_99 (u_last (n := 102) (j := 12) hn rfl rfl (by decide) rfl (Nat.le_of_ble_eq_true rfl)) rfl rfl rfl ?_
  refine me1 (pc' := 101) dm_X12_keep_100 rfl rfl rfl rfl ?_
  refine me3 (pc' := 104) dm_X12_keep_101 (g_get (v := .ref 115) (lu (n := 102) (j := 0) hn rfl) rfl rfl (Nat.le_of_ble_eq_true rfl)) rfl rfl rfl ?_
  refine me0 (pc' := 106) (S' := .int (80 : Int32) :: _) dm_X12_keep_104 rfl rfl rfl rfl ?_
  refine me1 (pc' := 107) dm_X12_keep_106 rfl rfl rfl rfl ?_
  refine me0 (pc' := 108) (S' := .int (240 : Int32) :: _) dm_X12_keep_107 rfl rfl rfl rfl ?_
  refine me0 (pc' := 110) (S' := .int (40 : Int32) :: _) dm_X12_keep_108 rfl rfl rfl rfl ?_
  refine me0 (pc' := 111) (S' := .int (280 : Int32) :: _) dm_X12_keep_110 rfl rfl rfl rfl ?_
  refine me1 (pc' := 112) dm_X12_keep_111 rfl rfl rfl rfl ?_
  refine me0 (pc' := 113) (S' := .int (312 : Int32) :: _) dm_X12_keep_112 rfl rfl rfl rfl ?_
  refine me1 (pc' := 114) dm_X12_keep_113 rfl rfl rfl rfl ?_
  refine me3 (pc' := 117) dm_X12_keep_114 (g_get (v := .ref 113) (lu (n := 102) (j := 0) hn rfl) rfl rfl (Nat.le_of_ble_eq_true rfl)) rfl rfl rfl ?_
  refine me1 (pc' := 118) dm_X12_keep_117 rfl rfl rfl rfl ?_
  refine me3 (pc' := 119) dm_X12_keep_118 (g_iald (v := (0 : Int32)) (lu (n := 102) (j := 11) hn rfl) rfl (by decide) rfl (Nat.le_of_ble_eq_true rfl)) rfl rfl rfl ?_
  refine me3 (pc' := 120) dm_X12_keep_119 (u_iast (n := 102) (j := 13) hn rfl rfl (by decide) rfl (Nat.le_of_ble_eq_true rfl)) rfl rfl rfl ?_
  refine me1 (pc' := 123) (L' := [(2, .int (33 : Int32)), (0, .ref 102), (1, .int (3 : Int32))]) dm_X12_keep_120 rfl rfl rfl rfl ?_
  refine me2 (pc' := 40) dm_X12_keep_123 rfl rfl rfl ?_
  refine me1 (pc' := 41) dm_X12_keep_40 rfl rfl rfl rfl ?_
  refine me0 (pc' := 43) (S' := .int (40 : Int32) :: _) dm_X12_keep_41 rfl rfl rfl rfl ?_
  refine me_2f (pc' := 46) dm_X12_keep_43 rfl (by decide) rfl ?_
  refine me1 (pc' := 47) dm_X12_keep_46 rfl rfl rfl rfl ?_
  refine me3 (pc' := 50) dm_X12_keep_47 (g_get (v := .ref 114) (lu (n := 102) (j := 0) hn rfl) rfl rfl (Nat.le_of_ble_eq_true rfl)) rfl rfl rfl ?_
  refine me0 (pc' := 52) (S' := .int (80 : Int32) :: _) dm_X12_keep_50 rfl rfl rfl rfl ?_
  refine me1 (pc' := 53) dm_X12_keep_52 rfl rfl rfl rfl ?_
  refine me0 (pc' := 54) (S' := .int (240 : Int32) :: _) dm_X12_keep_53 rfl rfl rfl rfl ?_
  refine me1 (pc' := 55) dm_X12_keep_54 rfl rfl rfl rfl ?_
  refine me0 (pc' := 56) (S' := .int (273 : Int32) :: _) dm_X12_keep_55 rfl rfl rfl rfl ?_
  refine me1 (pc' := 57) dm_X12_keep_56 rfl rfl rfl rfl ?_
  refine me3 (pc' := 60) dm_X12_keep_57 (g_get (v := .ref 110) (lu (n := 102) (j := 0) hn rfl) rfl rfl (Nat.le_of_ble_eq_true rfl)) rfl rfl rfl ?_
  refine me1 (pc' := 61) dm_X12_keep_60 rfl rfl rfl rfl ?_
  refine me3 (pc' := 62) dm_X12_keep_61 (g_lald (v := (0 : Int64)) (lu (n := 102) (j := 8) hn rfl) rfl (by decide) rfl (Nat.le_of_ble_eq_true rfl)) rfl rfl rfl ?_
  refine me3 (pc' := 63) dm_X12_keep_62 (u_last (n := 102) (j := 12) hn rfl rfl (by decide) rfl (Nat.le_of_ble_eq_true rfl)) rfl rfl rfl ?_
  refine me1 (pc' := 64) dm_X12_keep_63 rfl rfl rfl rfl ?_
  refine me3 (pc' := 67) dm_X12_keep_64 (g_get (v := .ref 115) (lu (n := 102) (j := 0) hn rfl) rfl rfl (Nat.le_of_ble_eq_true rfl)) rfl rfl rfl ?_
  refine me0 (pc' := 69) (S' := .int (80 : Int32) :: _) dm_X12_keep_67 rfl rfl rfl rfl ?_
  refine me1 (pc' := 70) dm_X12_keep_69 rfl rfl rfl rfl ?_
  refine me0 (pc' := 71) (S' := .int (240 : Int32) :: _) dm_X12_keep_70 rfl rfl rfl rfl ?_
  refine me1 (pc' := 72) dm_X12_keep_71 rfl rfl rfl rfl ?_
  refine me0 (pc' := 73) (S' := .int (273 : Int32) :: _) dm_X12_keep_72 rfl rfl rfl rfl ?_
  refine me1 (pc' := 74) dm_X12_keep_73 rfl rfl rfl rfl ?_
  refine me3 (pc' := 77) dm_X12_keep_74 (g_get (v := .ref 112) (lu (n := 102) (j := 0) hn rfl) rfl rfl (Nat.le_of_ble_eq_true rfl)) rfl rfl rfl ?_
  refine me1 (pc' := 78) dm_X12_keep_77 rfl rfl rfl rfl ?_
  refine me3 (pc' := 79) dm_X12_keep_78 (g_iald (v := (0 : Int32)) (lu (n := 102) (j := 10) hn rfl) rfl (by decide) rfl (Nat.le_of_ble_eq_true rfl)) rfl rfl rfl ?_
  refine me3 (pc' := 80) dm_X12_keep_79 (u_iast (n := 102) (j := 13) hn rfl rfl (by decide) rfl (Nat.le_of_ble_eq_true rfl)) rfl rfl rfl ?_
  refine me1 (pc' := 81) dm_X12_keep_80 rfl rfl rfl rfl ?_
  refine me3 (pc' := 84) dm_X12_keep_81 (g_get (v := .ref 114) (lu (n := 102) (j := 0) hn rfl) rfl rfl (Nat.le_of_ble_eq_true rfl)) rfl rfl rfl ?_
  refine me0 (pc' := 86) (S' := .int (80 : Int32) :: _) dm_X12_keep_84 rfl rfl rfl rfl ?_
  refine me1 (pc' := 87) dm_X12_keep_86 rfl rfl rfl rfl ?_
  refine me0 (pc' := 88) (S' := .int (240 : Int32) :: _) dm_X12_keep_87 rfl rfl rfl rfl ?_
  refine me0 (pc' := 90) (S' := .int (40 : Int32) :: _) dm_X12_keep_88 rfl rfl rfl rfl ?_
  refine me0 (pc' := 91) (S' := .int (280 : Int32) :: _) dm_X12_keep_90 rfl rfl rfl rfl ?_
  refine me1 (pc' := 92) dm_X12_keep_91 rfl rfl rfl rfl ?_
  refine me0 (pc' := 93) (S' := .int (313 : Int32) :: _) dm_X12_keep_92 rfl rfl rfl rfl ?_
  refine me1 (pc' := 94) dm_X12_keep_93 rfl rfl rfl rfl ?_
  refine me3 (pc' := 97) dm_X12_keep_94 (g_get (v := .ref 111) (lu (n := 102) (j := 0) hn rfl) rfl rfl (Nat.le_of_ble_eq_true rfl)) rfl rfl rfl ?_
  refine me1 (pc' := 98) dm_X12_keep_97 rfl rfl rfl rfl ?_
  refine me3 (pc' := 99) dm_X12_keep_98 (g_lald (v := (0 : Int64)) (lu (n := 102) (j := 9) hn rfl) rfl (by decide) rfl (Nat.le_of_ble_eq_true rfl)) rfl rfl rfl ?_
  refine me3 (pc' := 100) dm_X12_keep_99 (u_last (n := 102) (j := 12) hn rfl rfl (by decide) rfl (Nat.le_of_ble_eq_true rfl)) rfl rfl rfl ?_
  refine me1 (pc' := 101) dm_X12_keep_100 rfl rfl rfl rfl ?_
  refine me3 (pc' := 104) dm_X12_keep_101 (g_get (v := .ref 115) (lu (n := 102) (j := 0) hn rfl) rfl rfl (Nat.le_of_ble_eq_true rfl)) rfl rfl rfl ?_
  refine me0 (pc' := 106) (S' := .int (80 : Int32) :: _) dm_X12_keep_104 rfl rfl rfl rfl ?_
  refine me1 (pc' := 107) dm_X12_keep_106 rfl rfl rfl rfl ?_
  refine me0 (pc' := 108) (S' := .int (240 : Int32) :: _) dm_X12_keep_107 rfl rfl rfl rfl ?_
  refine me0 (pc' := 110) (S' := .int (40 : Int32) :: _) dm_X12_keep_108 rfl rfl rfl rfl ?_
  refine me0 (pc' := 111) (S' := .int (280 : Int32) :: _) dm_X12_keep_110 rfl rfl rfl rfl ?_
  refine me1 (pc' := 112) dm_X12_keep_111 rfl rfl rfl rfl ?_
  refine me0 (pc' := 113) (S' := .int (313 : Int32) :: _) dm_X12_keep_112 rfl rfl rfl rfl ?_
  refine me1 (pc' := 114) dm_X12_keep_113 rfl rfl rfl rfl ?_
  refine me3 (pc' := 117) dm_X12_keep_114 (g_get (v := .ref 113) (lu (n := 102) (j := 0) hn rfl) rfl rfl (Nat.le_of_ble_eq_true rfl)) rfl rfl rfl ?_
  refine me1 (pc' := 118) dm_X12_keep_117 rfl rfl rfl rfl ?_
  refine me3 (pc' := 119) dm_X12_keep_118 (g_iald (v := (0 : Int32)) (lu (n := 102) (j := 11) hn rfl) rfl (by decide) rfl (Nat.le_of_ble_eq_true rfl)) rfl rfl rfl ?_
  refine me3 (pc' := 120) dm_X12_keep_119 (u_iast (n := 102) (j := 13) hn rfl rfl (by decide) rfl (Nat.le_of_ble_eq_true rfl)) rfl rfl rfl ?_
  refine me1 (pc' := 123) (L' := [(2, .int (34 : Int32)), (0, .ref 102), (1, .int (3 : Int32))]) dm_X12_keep_120 rfl rfl rfl rfl ?_
  refine me2 (pc' := 40) dm_X12_keep_123 rfl rfl rfl ?_
  refine me1 (pc' := 41) dm_X12_keep_40 rfl rfl rfl rfl ?_
  refine me0 (pc' := 43) (S' := .int (40 : Int32) :: _) dm_X12_keep_41 rfl rfl rfl rfl ?_
  refine me_2f (pc' := 46) dm_X12_keep_43 rfl (by decide) rfl ?_
  refine me1 (pc' := 47) dm_X12_keep_46 rfl rfl rfl rfl ?_
  refine me3 (pc' := 50) dm_X12_keep_47 (g_get (v := .ref 114) (lu (n := 102) (j := 0) hn rfl) rfl rfl (Nat.le_of_ble_eq_true rfl)) rfl rfl rfl ?_
  refine me0 (pc' := 52) (S' := .int (80 : Int32) :: _) dm_X12_keep_50 rfl rfl rfl rfl ?_
  refine me1 (pc' := 53) dm_X12_keep_52 rfl rfl rfl rfl ?_
  refine me0 (pc' := 54) (S' := .int (240 : Int32) :: _) dm_X12_keep_53 rfl rfl rfl rfl ?_
  refine me1 (pc' := 55) dm_X12_keep_54 rfl rfl rfl rfl ?_
  refine me0 (pc' := 56) (S' := .int (274 : Int32) :: _) dm_X12_keep_55 rfl rfl rfl rfl ?_
  refine me1 (pc' := 57) dm_X12_keep_56 rfl rfl rfl rfl ?_
  refine me3 (pc' := 60) dm_X12_keep_57 (g_get (v := .ref 110) (lu (n := 102) (j := 0) hn rfl) rfl rfl (Nat.le_of_ble_eq_true rfl)) rfl rfl rfl ?_
  refine me1 (pc' := 61) dm_X12_keep_60 rfl rfl rfl rfl ?_
  refine me3 (pc' := 62) dm_X12_keep_61 (g_lald (v := (0 : Int64)) (lu (n := 102) (j := 8) hn rfl) rfl (by decide) rfl (Nat.le_of_ble_eq_true rfl)) rfl rfl rfl ?_
  refine me3 (pc' := 63) dm_X12_keep_62 (u_last (n := 102) (j := 12) hn rfl rfl (by decide) rfl (Nat.le_of_ble_eq_true rfl)) rfl rfl rfl ?_
  refine me1 (pc' := 64) dm_X12_keep_63 rfl rfl rfl rfl ?_
  refine me3 (pc' := 67) dm_X12_keep_64 (g_get (v := .ref 115) (lu (n := 102) (j := 0) hn rfl) rfl rfl (Nat.le_of_ble_eq_true rfl)) rfl rfl rfl ?_
  refine me0 (pc' := 69) (S' := .int (80 : Int32) :: _) dm_X12_keep_67 rfl rfl rfl rfl ?_
  refine me1 (pc' := 70) dm_X12_keep_69 rfl rfl rfl rfl ?_
  refine me0 (pc' := 71) (S' := .int (240 : Int32) :: _) dm_X12_keep_70 rfl rfl rfl rfl ?_
  refine me1 (pc' := 72) dm_X12_keep_71 rfl rfl rfl rfl ?_
  refine me0 (pc' := 73) (S' := .int (274 : Int32) :: _) dm_X12_keep_72 rfl rfl rfl rfl ?_
  refine me1 (pc' := 74) dm_X12_keep_73 rfl rfl rfl rfl ?_
  refine me3 (pc' := 77) dm_X12_keep_74 (g_get (v := .ref 112) (lu (n := 102) (j := 0) hn rfl) rfl rfl (Nat.le_of_ble_eq_true rfl)) rfl rfl rfl ?_
  refine me1 (pc' := 78) dm_X12_keep_77 rfl rfl rfl rfl ?_
  refine me3 (pc' := 79) dm_X12_keep_78 (g_iald (v := (0 : Int32)) (lu (n := 102) (j := 10) hn rfl) rfl (by decide) rfl (Nat.le_of_ble_eq_true rfl)) rfl rfl rfl ?_
  refine me3 (pc' := 80) dm_X12_keep_79 (u_iast (n := 102) (j := 13) hn rfl rfl (by decide) rfl (Nat.le_of_ble_eq_true rfl)) rfl rfl rfl ?_
  refine me1 (pc' := 81) dm_X12_keep_80 rfl rfl rfl rfl ?_
  refine me3 (pc' := 84) dm_X12_keep_81 (g_get (v := .ref 114) (lu (n := 102) (j := 0) hn rfl) rfl rfl (Nat.le_of_ble_eq_true rfl)) rfl rfl rfl ?_
  refine me0 (pc' := 86) (S' := .int (80 : Int32) :: _) dm_X12_keep_84 rfl rfl rfl rfl ?_
  refine me1 (pc' := 87) dm_X12_keep_86 rfl rfl rfl rfl ?_
  refine me0 (pc' := 88) (S' := .int (240 : Int32) :: _) dm_X12_keep_87 rfl rfl rfl rfl ?_
  refine me0 (pc' := 90) (S' := .int (40 : Int32) :: _) dm_X12_keep_88 rfl rfl rfl rfl ?_
  refine me0 (pc' := 91) (S' := .int (280 : Int32) :: _) dm_X12_keep_90 rfl rfl rfl rfl ?_
  refine me1 (pc' := 92) dm_X12_keep_91 rfl rfl rfl rfl ?_
  refine me0 (pc' := 93) (S' := .int (314 : Int32) :: _) dm_X12_keep_92 rfl rfl rfl rfl ?_
  refine me1 (pc' := 94) dm_X12_keep_93 rfl rfl rfl rfl ?_
  refine me3 (pc' := 97) dm_X12_keep_94 (g_get (v := .ref 111) (lu (n := 102) (j := 0) hn rfl) rfl rfl (Nat.le_of_ble_eq_true rfl)) rfl rfl rfl ?_
  refine me1 (pc' := 98) dm_X12_keep_97 rfl rfl rfl rfl ?_
  refine me3 (pc' := 99) dm_X12_keep_98 (g_lald (v := (0 : Int64)) (lu (n := 102) (j := 9) hn rfl) rfl (by decide) rfl (Nat.le_of_ble_eq_true rfl)) rfl rfl rfl ?_
  refine me3 (pc' := 100) dm_X12_keep_99 (u_last (n := 102) (j := 12) hn rfl rfl (by decide) rfl (Nat.le_of_ble_eq_true rfl)) rfl rfl rfl ?_
  refine me1 (pc' := 101) dm_X12_keep_100 rfl rfl rfl rfl ?_
  refine me3 (pc' := 104) dm_X12_keep_101 (g_get (v := .ref 115) (lu (n := 102) (j := 0) hn rfl) rfl rfl (Nat.le_of_ble_eq_true rfl)) rfl rfl rfl ?_
  refine me0 (pc' := 106) (S' := .int (80 : Int32) :: _) dm_X12_keep_104 rfl rfl rfl rfl ?_
  refine me1 (pc' := 107) dm_X12_keep_106 rfl rfl rfl rfl ?_
  refine me0 (pc' := 108) (S' := .int (240 : Int32) :: _) dm_X12_keep_107 rfl rfl rfl rfl ?_
  refine me0 (pc' := 110) (S' := .int (40 : Int32) :: _) dm_X12_keep_108 rfl rfl rfl rfl ?_
  refine me0 (pc' := 111) (S' := .int (280 : Int32) :: _) dm_X12_keep_110 rfl rfl rfl rfl ?_
  refine me1 (pc' := 112) dm_X12_keep_111 rfl rfl rfl rfl ?_
  refine me0 (pc' := 113) (S' := .int (314 : Int32) :: _) dm_X12_keep_112 rfl rfl rfl rfl ?_
  refine me1 (pc' := 114) dm_X12_keep_113 rfl rfl rfl rfl ?_
  refine me3 (pc' := 117) dm_X12_keep_114 (g_get (v := .ref 113) (lu (n := 102) (j := 0) hn rfl) rfl rfl (Nat.le_of_ble_eq_true rfl)) rfl rfl rfl ?_
  refine me1 (pc' := 118) dm_X12_keep_117 rfl rfl rfl rfl ?_
  refine me3 (pc' := 119) dm_X12_keep_118 (g_iald (v := (0 : Int32)) (lu (n := 102) (j := 11) hn rfl) rfl (by decide) rfl (Nat.le_of_ble_eq_true rfl)) rfl rfl rfl ?_
  refine me3 (pc' := 120) dm_X12_keep_119 (u_iast (n := 102) (j := 13) hn rfl rfl (by decide) rfl (Nat.le_of_ble_eq_true rfl)) rfl rfl rfl ?_
  refine me1 (pc' := 123) (L' := [(2, .int (35 : Int32)), (0, .ref 102), (1, .int (3 : Int32))]) dm_X12_keep_120 rfl rfl rfl rfl ?_
  refine me2 (pc' := 40) dm_X12_keep_123 rfl rfl rfl ?_
  refine me1 (pc' := 41) dm_X12_keep_40 rfl rfl rfl rfl ?_
  refine me0 (pc' := 43) (S' := .int (40 : Int32) :: _) dm_X12_keep_41 rfl rfl rfl rfl ?_
  refine me_2f (pc' := 46) dm_X12_keep_43 rfl (by decide) rfl ?_
  refine me1 (pc' := 47) dm_X12_keep_46 rfl rfl rfl rfl ?_
  refine me3 (pc' := 50) dm_X12_keep_47 (g_get (v := .ref 114) (lu (n := 102) (j := 0) hn rfl) rfl rfl (Nat.le_of_ble_eq_true rfl)) rfl rfl rfl ?_
  refine me0 (pc' := 52) (S' := .int (80 : Int32) :: _) dm_X12_keep_50 rfl rfl rfl rfl ?_
  refine me1 (pc' := 53) dm_X12_keep_52 rfl rfl rfl rfl ?_
  refine me0 (pc' := 54) (S' := .int (240 : Int32) :: _) dm_X12_keep_53 rfl rfl rfl rfl ?_
  refine me1 (pc' := 55) dm_X12_keep_54 rfl rfl rfl rfl ?_
  refine me0 (pc' := 56) (S' := .int (275 : Int32) :: _) dm_X12_keep_55 rfl rfl rfl rfl ?_
  refine me1 (pc' := 57) dm_X12_keep_56 rfl rfl rfl rfl ?_
  refine me3 (pc' := 60) dm_X12_keep_57 (g_get (v := .ref 110) (lu (n := 102) (j := 0) hn rfl) rfl rfl (Nat.le_of_ble_eq_true rfl)) rfl rfl rfl ?_
  refine me1 (pc' := 61) dm_X12_keep_60 rfl rfl rfl rfl ?_
  refine me3 (pc' := 62) dm_X12_keep_61 (g_lald (v := (0 : Int64)) (lu (n := 102) (j := 8) hn rfl) rfl (by decide) rfl (Nat.le_of_ble_eq_true rfl)) rfl rfl rfl ?_
  refine me3 (pc' := 63) dm_X12_keep_62 (u_last (n := 102) (j := 12) hn rfl rfl (by decide) rfl (Nat.le_of_ble_eq_true rfl)) rfl rfl rfl ?_
  refine me1 (pc' := 64) dm_X12_keep_63 rfl rfl rfl rfl ?_
  refine me3 (pc' := 67) dm_X12_keep_64 (g_get (v := .ref 115) (lu (n := 102) (j := 0) hn rfl) rfl rfl (Nat.le_of_ble_eq_true rfl)) rfl rfl rfl ?_
  refine me0 (pc' := 69) (S' := .int (80 : Int32) :: _) dm_X12_keep_67 rfl rfl rfl rfl ?_
  refine me1 (pc' := 70) dm_X12_keep_69 rfl rfl rfl rfl ?_
  refine me0 (pc' := 71) (S' := .int (240 : Int32) :: _) dm_X12_keep_70 rfl rfl rfl rfl ?_
  refine me1 (pc' := 72) dm_X12_keep_71 rfl rfl rfl rfl ?_
  refine me0 (pc' := 73) (S' := .int (275 : Int32) :: _) dm_X12_keep_72 rfl rfl rfl rfl ?_
  refine me1 (pc' := 74) dm_X12_keep_73 rfl rfl rfl rfl ?_
  refine me3 (pc' := 77) dm_X12_keep_74 (g_get (v := .ref 112) (lu (n := 102) (j := 0) hn rfl) rfl rfl (Nat.le_of_ble_eq_true rfl)) rfl rfl rfl ?_
  refine me1 (pc' := 78) dm_X12_keep_77 rfl rfl rfl rfl ?_
  refine me3 (pc' := 79) dm_X12_keep_78 (g_iald (v := (0 : Int32)) (lu (n := 102) (j := 10) hn rfl) rfl (by decide) rfl (Nat.le_of_ble_eq_true rfl)) rfl rfl rfl ?_
  refine me3 (pc' := 80) dm_X12_keep_79 (u_iast (n := 102) (j := 13) hn rfl rfl (by decide) rfl (Nat.le_of_ble_eq_true rfl)) rfl rfl rfl ?_
  refine me1 (pc' := 81) dm_X12_keep_80 rfl rfl rfl rfl ?_
  refine me3 (pc' := 84) dm_X12_keep_81 (g_get (v := .ref 114) (lu (n := 102) (j := 0) hn rfl) rfl rfl (Nat.le_of_ble_eq_true rfl)) rfl rfl rfl ?_
  refine me0 (pc' := 86) (S' := .int (80 : Int32) :: _) dm_X12_keep_84 rfl rfl rfl rfl ?_
  refine me1 (pc' := 87) dm_X12_keep_86 rfl rfl rfl rfl ?_
  refine me0 (pc' := 88) (S' := .int (240 : Int32) :: _) dm_X12_keep_87 rfl rfl rfl rfl ?_
  refine me0 (pc' := 90) (S' := .int (40 : Int32) :: _) dm_X12_keep_88 rfl rfl rfl rfl ?_
  refine me0 (pc' := 91) (S' := .int (280 : Int32) :: _) dm_X12_keep_90 rfl rfl rfl rfl ?_
  refine me1 (pc' := 92) dm_X12_keep_91 rfl rfl rfl rfl ?_
  refine me0 (pc' := 93) (S' := .int (315 : Int32) :: _) dm_X12_keep_92 rfl rfl rfl rfl ?_
  refine me1 (pc' := 94) dm_X12_keep_93 rfl rfl rfl rfl ?_
  refine me3 (pc' := 97) dm_X12_keep_94 (g_get (v := .ref 111) (lu (n := 102) (j := 0) hn rfl) rfl rfl (Nat.le_of_ble_eq_true rfl)) rfl rfl rfl ?_
  refine me1 (pc' := 98) dm_X12_keep_97 rfl rfl rfl rfl ?_
  refine me3 (pc' := 99) dm_X12_keep_98 (g_lald (v := (0 : Int64)) (lu (n := 102) (j := 9) hn rfl) rfl (by decide) rfl (Nat.le_of_ble_eq_true rfl)) rfl rfl rfl ?_
  refine me3 (pc' := 100) dm_X12_keep_99 (u_last (n := 102) (j := 12) hn rfl rfl (by decide) rfl (Nat.le_of_ble_eq_true rfl)) rfl rfl rfl ?_
  refine me1 (pc' := 101) dm_X12_keep_100 rfl rfl rfl rfl ?_
  refine me3 (pc' := 104) dm_X12_keep_101 (g_get (v := .ref 115) (lu (n := 102) (j := 0) hn rfl) rfl rfl (Nat.le_of_ble_eq_true rfl)) rfl rfl rfl ?_
  refine me0 (pc' := 106) (S' := .int (80 : Int32) :: _) dm_X12_keep_104 rfl rfl rfl rfl ?_
  refine me1 (pc' := 107) dm_X12_keep_106 rfl rfl rfl rfl ?_
  refine me0 (pc' := 108) (S' := .int (240 : Int32) :: _) dm_X12_keep_107 rfl rfl rfl rfl ?_
  refine me0 (pc' := 110) (S' := .int (40 : Int32) :: _) dm_X12_keep_108 rfl rfl rfl rfl ?_
  refine me0 (pc' := 111) (S' := .int (280 : Int32) :: _) dm_X12_keep_110 rfl rfl rfl rfl ?_
  refine me1 (pc' := 112) dm_X12_keep_111 rfl rfl rfl rfl ?_
  refine me0 (pc' := 113) (S' := .int (315 : Int32) :: _) dm_X12_keep_112 rfl rfl rfl rfl ?_
  refine me1 (pc' := 114) dm_X12_keep_113 rfl rfl rfl rfl ?_
  refine me3 (pc' := 117) dm_X12_keep_114 (g_get (v := .ref 113) (lu (n := 102) (j := 0) hn rfl) rfl rfl (Nat.le_of_ble_eq_true rfl)) rfl rfl rfl ?_
  refine me1 (pc' := 118) dm_X12_keep_117 rfl rfl rfl rfl ?_
  refine me3 (pc' := 119) dm_X12_keep_118 (g_iald (v := (0 : Int32)) (lu (n := 102) (j := 11) hn rfl) rfl (by decide) rfl (Nat.le_of_ble_eq_true rfl)) rfl rfl rfl ?_
  refine me3 (pc' := 120) dm_X12_keep_119 (u_iast (n := 102) (j := 13) hn rfl rfl (by decide) rfl (Nat.le_of_ble_eq_true rfl)) rfl rfl rfl ?_
  refine me1 (pc' := 123) (L' := [(2, .int (36 : Int32)), (0, .ref 102), (1, .int (3 : Int32))]) dm_X12_keep_120 rfl rfl rfl rfl ?_
  refine me2 (pc' := 40) dm_X12_keep_123 rfl rfl rfl ?_
  refine me1 (pc' := 41) dm_X12_keep_40 rfl rfl rfl rfl ?_
  refine me0 (pc' := 43) (S' := .int (40 : Int32) :: _) dm_X12_keep_41 rfl rfl rfl rfl ?_
  refine me_2f (pc' := 46) dm_X12_keep_43 rfl (by decide) rfl ?_
  refine me1 (pc' := 47) dm_X12_keep_46 rfl rfl rfl rfl ?_
  refine me3 (pc' := 50) dm_X12_keep_47 (g_get (v := .ref 114) (lu (n := 102) (j := 0) hn rfl) rfl rfl (Nat.le_of_ble_eq_true rfl)) rfl rfl rfl ?_
  refine me0 (pc' := 52) (S' := .int (80 : Int32) :: _) dm_X12_keep_50 rfl rfl rfl rfl ?_
  refine me1 (pc' := 53) dm_X12_keep_52 rfl rfl rfl rfl ?_
  refine me0 (pc' := 54) (S' := .int (240 : Int32) :: _) dm_X12_keep_53 rfl rfl rfl rfl ?_
  refine me1 (pc' := 55) dm_X12_keep_54 rfl rfl rfl rfl ?_
  refine me0 (pc' := 56) (S' := .int (276 : Int32) :: _) dm_X12_keep_55 rfl rfl rfl rfl ?_
  refine me1 (pc' := 57) dm_X12_keep_56 rfl rfl rfl rfl ?_
  refine me3 (pc' := 60) dm_X12_keep_57 (g_get (v := .ref 110) (lu (n := 102) (j := 0) hn rfl) rfl rfl (Nat.le_of_ble_eq_true rfl)) rfl rfl rfl ?_
  refine me1 (pc' := 61) dm_X12_keep_60 rfl rfl rfl rfl ?_
  refine me3 (pc' := 62) dm_X12_keep_61 (g_lald (v := (0 : Int64)) (lu (n := 102) (j := 8) hn rfl) rfl (by decide) rfl (Nat.le_of_ble_eq_true rfl)) rfl rfl rfl ?_
  refine me3 (pc' := 63) dm_X12_keep_62 (u_last (n := 102) (j := 12) hn rfl rfl (by decide) rfl (Nat.le_of_ble_eq_true rfl)) rfl rfl rfl ?_
  refine me1 (pc' := 64) dm_X12_keep_63 rfl rfl rfl rfl ?_
  refine me3 (pc' := 67) dm_X12_keep_64 (g_get (v := .ref 115) (lu (n := 102) (j := 0) hn rfl) rfl rfl (Nat.le_of_ble_eq_true rfl)) rfl rfl rfl ?_
  refine me0 (pc' := 69) (S' := .int (80 : Int32) :: _) dm_X12_keep_67 rfl rfl rfl rfl ?_
  refine me1 (pc' := 70) dm_X12_keep_69 rfl rfl rfl rfl ?_
  refine me0 (pc' := 71) (S' := .int (240 : Int32) :: _) dm_X12_keep_70 rfl rfl rfl rfl ?_
  refine me1 (pc' := 72) dm_X12_keep_71 rfl rfl rfl rfl ?_
  refine me0 (pc' := 73) (S' := .int (276 : Int32) :: _) dm_X12_keep_72 rfl rfl rfl rfl ?_
  refine me1 (pc' := 74) dm_X12_keep_73 rfl rfl rfl rfl ?_
  refine me3 (pc' := 77) dm_X12_keep_74 (g_get (v := .ref 112) (lu (n := 102) (j := 0) hn rfl) rfl rfl (Nat.le_of_ble_eq_true rfl)) rfl rfl rfl ?_
  refine me1 (pc' := 78) dm_X12_keep_77 rfl rfl rfl rfl ?_
  refine me3 (pc' := 79) dm_X12_keep_78 (g_iald (v := (0 : Int32)) (lu (n := 102) (j := 10) hn rfl) rfl (by decide) rfl (Nat.le_of_ble_eq_true rfl)) rfl rfl rfl ?_
  refine me3 (pc' := 80) dm_X12_keep_79 (u_iast (n := 102) (j := 13) hn rfl rfl (by decide) rfl (Nat.le_of_ble_eq_true rfl)) rfl rfl rfl ?_
  refine me1 (pc' := 81) dm_X12_keep_80 rfl rfl rfl rfl ?_
  refine me3 (pc' := 84) dm_X12_keep_81 (g_get (v := .ref 114) (lu (n := 102) (j := 0) hn rfl) rfl rfl (Nat.le_of_ble_eq_true rfl)) rfl rfl rfl ?_
  refine me0 (pc' := 86) (S' := .int (80 : Int32) :: _) dm_X12_keep_84 rfl rfl rfl rfl ?_
  refine me1 (pc' := 87) dm_X12_keep_86 rfl rfl rfl rfl ?_
  refine me0 (pc' := 88) (S' := .int (240 : Int32) :: _) dm_X12_keep_87 rfl rfl rfl rfl ?_
  refine me0 (pc' := 90) (S' := .int (40 : Int32) :: _) dm_X12_keep_88 rfl rfl rfl rfl ?_
  refine me0 (pc' := 91) (S' := .int (280 : Int32) :: _) dm_X12_keep_90 rfl rfl rfl rfl ?_
  refine me1 (pc' := 92) dm_X12_keep_91 rfl rfl rfl rfl ?_
  refine me0 (pc' := 93) (S' := .int (316 : Int32) :: _) dm_X12_keep_92 rfl rfl rfl rfl ?_
  refine me1 (pc' := 94) dm_X12_keep_93 rfl rfl rfl rfl ?_
  refine me3 (pc' := 97) dm_X12_keep_94 (g_get (v := .ref 111) (lu (n := 102) (j := 0) hn rfl) rfl rfl (Nat.le_of_ble_eq_true rfl)) rfl rfl rfl ?_
  refine me1 (pc' := 98) dm_X12_keep_97 rfl rfl rfl rfl ?_
  refine me3 (pc' := 99) dm_X12_keep_98 (g_lald (v := (0 : Int64)) (lu (n := 102) (j := 9) hn rfl) rfl (by decide) rfl (Nat.le_of_ble_eq_true rfl)) rfl rfl rfl ?_
  refine me3 (pc' := 100) dm_X12_keep_99 (u_last (n := 102) (j := 12) hn rfl rfl (by decide) rfl (Nat.le_of_ble_eq_true rfl)) rfl rfl rfl ?_
  refine me1 (pc' := 101) dm_X12_keep_100 rfl rfl rfl rfl ?_
  refine me3 (pc' := 104) dm_X12_keep_101 (g_get (v := .ref 115) (lu (n := 102) (j := 0) hn rfl) rfl rfl (Nat.le_of_ble_eq_true rfl)) rfl rfl rfl ?_
  refine me0 (pc' := 106) (S' := .int (80 : Int32) :: _) dm_X12_keep_104 rfl rfl rfl rfl ?_
  refine me1 (pc' := 107) dm_X12_keep_106 rfl rfl rfl rfl ?_
  refine me0 (pc' := 108) (S' := .int (240 : Int32) :: _) dm_X12_keep_107 rfl rfl rfl rfl ?_
  refine me0 (pc' := 110) (S' := .int (40 : Int32) :: _) dm_X12_keep_108 rfl rfl rfl rfl ?_
  refine me0 (pc' := 111) (S' := .int (280 : Int32) :: _) dm_X12_keep_110 rfl rfl rfl rfl ?_
  refine me1 (pc' := 112) dm_X12_keep_111 rfl rfl rfl rfl ?_
  refine me0 (pc' := 113) (S' := .int (316 : Int32) :: _) dm_X12_keep_112 rfl rfl rfl rfl ?_
  refine me1 (pc' := 114) dm_X12_keep_113 rfl rfl rfl rfl ?_
  refine me3 (pc' := 117) dm_X12_keep_114 (g_get (v := .ref 113) (lu (n := 102) (j := 0) hn rfl) rfl rfl (Nat.le_of_ble_eq_true rfl)) rfl rfl rfl ?_
  refine me1 (pc' := 118) dm_X12_keep_117 rfl rfl rfl rfl ?_
  refine me3 (pc' := 119) dm_X12_keep_118 (g_iald (v := (0 : Int32)) (lu (n := 102) (j := 11) hn rfl) rfl (by decide) rfl (Nat.le_of_ble_eq_true rfl)) rfl rfl rfl ?_
  refine me3 (pc' := 120) dm_X12_keep_119 (u_iast (n := 102) (j := 13) hn rfl rfl (by decide) rfl (Nat.le_of_ble_eq_true rfl)) rfl rfl rfl ?_
  refine me1 (pc' := 123) (L' := [(2, .int (37 : Int32)), (0, .ref 102), (1, .int (3 : Int32))]) dm_X12_keep_120 rfl rfl rfl rfl ?_
  refine me2 (pc' := 40) dm_X12_keep_123 rfl rfl rfl ?_
  refine me1 (pc' := 41) dm_X12_keep_40 rfl rfl rfl rfl ?_
  refine me0 (pc' := 43) (S' := .int (40 : Int32) :: _) dm_X12_keep_41 rfl rfl rfl rfl ?_
  refine me_2f (pc' := 46) dm_X12_keep_43 rfl (by decide) rfl ?_
  refine me1 (pc' := 47) dm_X12_keep_46 rfl rfl rfl rfl ?_
  refine me3 (pc' := 50) dm_X12_keep_47 (g_get (v := .ref 114) (lu (n := 102) (j := 0) hn rfl) rfl rfl (Nat.le_of_ble_eq_true rfl)) rfl rfl rfl ?_
  refine me0 (pc' := 52) (S' := .int (80 : Int32) :: _) dm_X12_keep_50 rfl rfl rfl rfl ?_
  refine me1 (pc' := 53) dm_X12_keep_52 rfl rfl rfl rfl ?_
  refine me0 (pc' := 54) (S' := .int (240 : Int32) :: _) dm_X12_keep_53 rfl rfl rfl rfl ?_
  refine me1 (pc' := 55) dm_X12_keep_54 rfl rfl rfl rfl ?_
  refine me0 (pc' := 56) (S' := .int (277 : Int32) :: _) dm_X12_keep_55 rfl rfl rfl rfl ?_
  refine me1 (pc' := 57) dm_X12_keep_56 rfl rfl rfl rfl ?_
  refine me3 (pc' := 60) dm_X12_keep_57 (g_get (v := .ref 110) (lu (n := 102) (j := 0) hn rfl) rfl rfl (Nat.le_of_ble_eq_true rfl)) rfl rfl rfl ?_
  refine me1 (pc' := 61) dm_X12_keep_60 rfl rfl rfl rfl ?_
  refine me3 (pc' := 62) dm_X12_keep_61 (g_lald (v := (0 : Int64)) (lu (n := 102) (j := 8) hn rfl) rfl (by decide) rfl (Nat.le_of_ble_eq_true rfl)) rfl rfl rfl ?_
  refine me3 (pc' := 63) dm_X12_keep_62 (u_last (n := 102) (j := 12) hn rfl rfl (by decide) rfl (Nat.le_of_ble_eq_true rfl)) rfl rfl rfl ?_
  refine me1 (pc' := 64) dm_X12_keep_63 rfl rfl rfl rfl ?_
  refine me3 (pc' := 67) dm_X12_keep_64 (g_get (v := .ref 115) (lu (n := 102) (j := 0) hn rfl) rfl rfl (Nat.le_of_ble_eq_true rfl)) rfl rfl rfl ?_
  refine me0 (pc' := 69) (S' := .int (80 : Int32) :: _) dm_X12_keep_67 rfl rfl rfl rfl ?_
  refine me1 (pc' := 70) dm_X12_keep_69 rfl rfl rfl rfl ?_
  refine me0 (pc' := 71) (S' := .int (240 : Int32) :: _) dm_X12_keep_70 rfl rfl rfl rfl ?_
  refine me1 (pc' := 72) dm_X12_keep_71 rfl rfl rfl rfl ?_
  refine me0 (pc' := 73) (S' := .int (277 : Int32) :: _) dm_X12_keep_72 rfl rfl rfl rfl ?_
  refine me1 (pc' := 74) dm_X12_keep_73 rfl rfl rfl rfl ?_
  refine me3 (pc' := 77) dm_X12_keep_74 (g_get (v := .ref 112) (lu (n := 102) (j := 0) hn rfl) rfl rfl (Nat.le_of_ble_eq_true rfl)) rfl rfl rfl ?_
  refine me1 (pc' := 78) dm_X12_keep_77 rfl rfl rfl rfl ?_
  refine me3 (pc' := 79) dm_X12_keep_78 (g_iald (v := (0 : Int32)) (lu (n := 102) (j := 10) hn rfl) rfl (by decide) rfl (Nat.le_of_ble_eq_true rfl)) rfl rfl rfl ?_
  refine me3 (pc' := 80) dm_X12_keep_79 (u_iast (n := 102) (j := 13) hn rfl rfl (by decide) rfl (Nat.le_of_ble_eq_true rfl)) rfl rfl rfl ?_
  refine me1 (pc' := 81) dm_X12_keep_80 rfl rfl rfl rfl ?_
  refine me3 (pc' := 84) dm_X12_keep_81 (g_get (v := .ref 114) (lu (n := 102) (j := 0) hn rfl) rfl rfl (Nat.le_of_ble_eq_true rfl)) rfl rfl rfl ?_
  refine me0 (pc' := 86) (S' := .int (80 : Int32) :: _) dm_X12_keep_84 rfl rfl rfl rfl ?_
  refine me1 (pc' := 87) dm_X12_keep_86 rfl rfl rfl rfl ?_
  refine me0 (pc' := 88) (S' := .int (240 : Int32) :: _) dm_X12_keep_87 rfl rfl rfl rfl ?_
  refine me0 (pc' := 90) (S' := .int (40 : Int32) :: _) dm_X12_keep_88 rfl rfl rfl rfl ?_
  refine me0 (pc' := 91) (S' := .int (280 : Int32) :: _) dm_X12_keep_90 rfl rfl rfl rfl ?_
  refine me1 (pc' := 92) dm_X12_keep_91 rfl rfl rfl rfl ?_
  refine me0 (pc' := 93) (S' := .int (317 : Int32) :: _) dm_X12_keep_92 rfl rfl rfl rfl ?_
  refine me1 (pc' := 94) dm_X12_keep_93 rfl rfl rfl rfl ?_
  refine me3 (pc' := 97) dm_X12_keep_94 (g_get (v := .ref 111) (lu (n := 102) (j := 0) hn rfl) rfl rfl (Nat.le_of_ble_eq_true rfl)) rfl rfl rfl ?_
  refine me1 (pc' := 98) dm_X12_keep_97 rfl rfl rfl rfl ?_
  refine me3 (pc' := 99) dm_X12_keep_98 (g_lald (v := (0 : Int64)) (lu (n := 102) (j := 9) hn rfl) rfl (by decide) rfl (Nat.le_of_ble_eq_true rfl)) rfl rfl rfl ?_
  refine me3 (pc' := 100) dm_X12_keep_99 (u_last (n := 102) (j := 12) hn rfl rfl (by decide) rfl (Nat.le_of_ble_eq_true rfl)) rfl rfl rfl ?_
  refine me1 (pc' := 101) dm_X12_keep_100 rfl rfl rfl rfl ?_
  refine me3 (pc' := 104) dm_X12_keep_101 (g_get (v := .ref 115) (lu (n := 102) (j := 0) hn rfl) rfl rfl (Nat.le_of_ble_eq_true rfl)) rfl rfl rfl ?_
  refine me0 (pc' := 106) (S' := .int (80 : Int32) :: _) dm_X12_keep_104 rfl rfl rfl rfl ?_
  refine me1 (pc' := 107) dm_X12_keep_106 rfl rfl rfl rfl ?_
  refine me0 (pc' := 108) (S' := .int (240 : Int32) :: _) dm_X12_keep_107 rfl rfl rfl rfl ?_
  refine me0 (pc' := 110) (S' := .int (40 : Int32) :: _) dm_X12_keep_108 rfl rfl rfl rfl ?_
  refine me0 (pc' := 111) (S' := .int (280 : Int32) :: _) dm_X12_keep_110 rfl rfl rfl rfl ?_
  refine me1 (pc' := 112) dm_X12_keep_111 rfl rfl rfl rfl ?_
  refine me0 (pc' := 113) (S' := .int (317 : Int32) :: _) dm_X12_keep_112 rfl rfl rfl rfl ?_
  refine me1 (pc' := 114) dm_X12_keep_113 rfl rfl rfl rfl ?_
  refine me3 (pc' := 117) dm_X12_keep_114 (g_get (v := .ref 113) (lu (n := 102) (j := 0) hn rfl) rfl rfl (Nat.le_of_ble_eq_true rfl)) rfl rfl rfl ?_
  refine me1 (pc' := 118) dm_X12_keep_117 rfl rfl rfl rfl ?_
  refine me3 (pc' := 119) dm_X12_keep_118 (g_iald (v := (0 : Int32)) (lu (n := 102) (j := 11) hn rfl) rfl (by decide) rfl (Nat.le_of_ble_eq_true rfl)) rfl rfl rfl ?_
  refine me3 (pc' := 120) dm_X12_keep_119 (u_iast (n := 102) (j := 13) hn rfl rfl (by decide) rfl (Nat.le_of_ble_eq_true rfl)) rfl rfl rfl ?_
  refine me1 (pc' := 123) (L' := [(2, .int (38 : Int32)), (0, .ref 102), (1, .int (3 : Int32))]) dm_X12_keep_120 rfl rfl rfl rfl ?_
  refine me2 (pc' := 40) dm_X12_keep_123 rfl rfl rfl ?_
  refine me1 (pc' := 41) dm_X12_keep_40 rfl rfl rfl rfl ?_
  refine me0 (pc' := 43) (S' := .int (40 : Int32) :: _) dm_X12_keep_41 rfl rfl rfl rfl ?_
  refine me_2f (pc' := 46) dm_X12_keep_43 rfl (by decide) rfl ?_
  refine me1 (pc' := 47) dm_X12_keep_46 rfl rfl rfl rfl ?_
  refine me3 (pc' := 50) dm_X12_keep_47 (g_get (v := .ref 114) (lu (n := 102) (j := 0) hn rfl) rfl rfl (Nat.le_of_ble_eq_true rfl)) rfl rfl rfl ?_
  refine me0 (pc' := 52) (S' := .int (80 : Int32) :: _) dm_X12_keep_50 rfl rfl rfl rfl ?_
  refine me1 (pc' := 53) dm_X12_keep_52 rfl rfl rfl rfl ?_
  refine me0 (pc' := 54) (S' := .int (240 : Int32) :: _) dm_X12_keep_53 rfl rfl rfl rfl ?_
  refine me1 (pc' := 55) dm_X12_keep_54 rfl rfl rfl rfl ?_
  refine me0 (pc' := 56) (S' := .int (278 : Int32) :: _) dm_X12_keep_55 rfl rfl rfl rfl ?_
  refine me1 (pc' := 57) dm_X12_keep_56 rfl rfl rfl rfl ?_
  refine me3 (pc' := 60) dm_X12_keep_57 (g_get (v := .ref 110) (lu (n := 102) (j := 0) hn rfl) rfl rfl (Nat.le_of_ble_eq_true rfl)) rfl rfl rfl ?_
  refine me1 (pc' := 61) dm_X12_keep_60 rfl rfl rfl rfl ?_
  refine me3 (pc' := 62) dm_X12_keep_61 (g_lald (v := (0 : Int64)) (lu (n := 102) (j := 8) hn rfl) rfl (by decide) rfl (Nat.le_of_ble_eq_true rfl)) rfl rfl rfl ?_
  refine me3 (pc' := 63) dm_X12_keep_62 (u_last (n := 102) (j := 12) hn rfl rfl (by decide) rfl (Nat.le_of_ble_eq_true rfl)) rfl rfl rfl ?_
  refine me1 (pc' := 64) dm_X12_keep_63 rfl rfl rfl rfl ?_
  refine me3 (pc' := 67) dm_X12_keep_64 (g_get (v := .ref 115) (lu (n := 102) (j := 0) hn rfl) rfl rfl (Nat.le_of_ble_eq_true rfl)) rfl rfl rfl ?_
  refine me0 (pc' := 69) (S' := .int (80 : Int32) :: _) dm_X12_keep_67 rfl rfl rfl rfl ?_
  refine me1 (pc' := 70) dm_X12_keep_69 rfl rfl rfl rfl ?_
  refine me0 (pc' := 71) (S' := .int (240 : Int32) :: _) dm_X12_keep_70 rfl rfl rfl rfl ?_
  refine me1 (pc' := 72) dm_X12_keep_71 rfl rfl rfl rfl ?_
  refine me0 (pc' := 73) (S' := .int (278 : Int32) :: _) dm_X12_keep_72 rfl rfl rfl rfl ?_
  refine me1 (pc' := 74) dm_X12_keep_73 rfl rfl rfl rfl ?_
  refine me3 (pc' := 77) dm_X12_keep_74 (g_get (v := .ref 112) (lu (n := 102) (j := 0) hn rfl) rfl rfl (Nat.le_of_ble_eq_true rfl)) rfl rfl rfl ?_
  refine me1 (pc' := 78) dm_X12_keep_77 rfl rfl rfl rfl ?_
  refine me3 (pc' := 79) dm_X12_keep_78 (g_iald (v := (0 : Int32)) (lu (n := 102) (j := 10) hn rfl) rfl (by decide) rfl (Nat.le_of_ble_eq_true rfl)) rfl rfl rfl ?_
  refine me3 (pc' := 80) dm_X12_keep_79 (u_iast (n := 102) (j := 13) hn rfl rfl (by decide) rfl (Nat.le_of_ble_eq_true rfl)) rfl rfl rfl ?_
  refine me1 (pc' := 81) dm_X12_keep_80 rfl rfl rfl rfl ?_
  refine me3 (pc' := 84) dm_X12_keep_81 (g_get (v := .ref 114) (lu (n := 102) (j := 0) hn rfl) rfl rfl (Nat.le_of_ble_eq_true rfl)) rfl rfl rfl ?_
  refine me0 (pc' := 86) (S' := .int (80 : Int32) :: _) dm_X12_keep_84 rfl rfl rfl rfl ?_
  refine me1 (pc' := 87) dm_X12_keep_86 rfl rfl rfl rfl ?_
  refine me0 (pc' := 88) (S' := .int (240 : Int32) :: _) dm_X12_keep_87 rfl rfl rfl rfl ?_
  refine me0 (pc' := 90) (S' := .int (40 : Int32) :: _) dm_X12_keep_88 rfl rfl rfl rfl ?_
  refine me0 (pc' := 91) (S' := .int (280 : Int32) :: _) dm_X12_keep_90 rfl rfl rfl rfl ?_
  refine me1 (pc' := 92) dm_X12_keep_91 rfl rfl rfl rfl ?_
  refine me0 (pc' := 93) (S' := .int (318 : Int32) :: _) dm_X12_keep_92 rfl rfl rfl rfl ?_
  refine me1 (pc' := 94) dm_X12_keep_93 rfl rfl rfl rfl ?_
  refine me3 (pc' := 97) dm_X12_keep_94 (g_get (v := .ref 111) (lu (n := 102) (j := 0) hn rfl) rfl rfl (Nat.le_of_ble_eq_true rfl)) rfl rfl rfl ?_
  refine me1 (pc' := 98) dm_X12_keep_97 rfl rfl rfl rfl ?_
  refine me3 (pc' := 99) dm_X12_keep_98 (g_lald (v := (0 : Int64)) (lu (n := 102) (j := 9) hn rfl) rfl (by decide) rfl (Nat.le_of_ble_eq_true rfl)) rfl rfl rfl ?_
  refine me3 (pc' := 100) dm_X12_keep_99 (u_last (n := 102) (j := 12) hn rfl rfl (by decide) rfl (Nat.le_of_ble_eq_true rfl)) rfl rfl rfl ?_
  refine me1 (pc' := 101) dm_X12_keep_100 rfl rfl rfl rfl ?_
  refine me3 (pc' := 104) dm_X12_keep_101 (g_get (v := .ref 115) (lu (n := 102) (j := 0) hn rfl) rfl rfl (Nat.le_of_ble_eq_true rfl)) rfl rfl rfl ?_
  refine me0 (pc' := 106) (S' := .int (80 : Int32) :: _) dm_X12_keep_104 rfl rfl rfl rfl ?_
  refine me1 (pc' := 107) dm_X12_keep_106 rfl rfl rfl rfl ?_
  refine me0 (pc' := 108) (S' := .int (240 : Int32) :: _) dm_X12_keep_107 rfl rfl rfl rfl ?_
  refine me0 (pc' := 110) (S' := .int (40 : Int32) :: _) dm_X12_keep_108 rfl rfl rfl rfl ?_
  refine me0 (pc' := 111) (S' := .int (280 : Int32) :: _) dm_X12_keep_110 rfl rfl rfl rfl ?_
  refine me1 (pc' := 112) dm_X12_keep_111 rfl rfl rfl rfl ?_
  refine me0 (pc' := 113) (S' := .int (318 : Int32) :: _) dm_X12_keep_112 rfl rfl rfl rfl ?_
  refine me1 (pc' := 114) dm_X12_keep_113 rfl rfl rfl rfl ?_
  refine me3 (pc' := 117) dm_X12_keep_114 (g_get (v := .ref 113) (lu (n := 102) (j := 0) hn rfl) rfl rfl (Nat.le_of_ble_eq_true rfl)) rfl rfl rfl ?_
  refine me1 (pc' := 118) dm_X12_keep_117 rfl rfl rfl rfl ?_
  refine me3 (pc' := 119) dm_X12_keep_118 (g_iald (v := (0 : Int32)) (lu (n := 102) (j := 11) hn rfl) rfl (by decide) rfl (Nat.le_of_ble_eq_true rfl)) rfl rfl rfl ?_
  refine me3 (pc' := 120) dm_X12_keep_119 (u_iast (n := 102) (j := 13) hn rfl rfl (by decide) rfl (Nat.le_of_ble_eq_true rfl)) rfl rfl rfl ?_
  refine me1 (pc' := 123) (L' := [(2, .int (39 : Int32)), (0, .ref 102), (1, .int (3 : Int32))]) dm_X12_keep_120 rfl rfl rfl rfl ?_
  refine me2 (pc' := 40) dm_X12_keep_123 rfl rfl rfl ?_
  refine me1 (pc' := 41) dm_X12_keep_40 rfl rfl rfl rfl ?_
  refine me0 (pc' := 43) (S' := .int (40 : Int32) :: _) dm_X12_keep_41 rfl rfl rfl rfl ?_
  refine me_2f (pc' := 46) dm_X12_keep_43 rfl (by decide) rfl ?_
  refine me1 (pc' := 47) dm_X12_keep_46 rfl rfl rfl rfl ?_
  refine me3 (pc' := 50) dm_X12_keep_47 (g_get (v := .ref 114) (lu (n := 102) (j := 0) hn rfl) rfl rfl (Nat.le_of_ble_eq_true rfl)) rfl rfl rfl ?_
  refine me0 (pc' := 52) (S' := .int (80 : Int32) :: _) dm_X12_keep_50 rfl rfl rfl rfl ?_
  refine me1 (pc' := 53) dm_X12_keep_52 rfl rfl rfl rfl ?_
  refine me0 (pc' := 54) (S' := .int (240 : Int32) :: _) dm_X12_keep_53 rfl rfl rfl rfl ?_
  refine me1 (pc' := 55) dm_X12_keep_54 rfl rfl rfl rfl ?_
  refine me0 (pc' := 56) (S' := .int (279 : Int32) :: _) dm_X12_keep_55 rfl rfl rfl rfl ?_
  refine me1 (pc' := 57) dm_X12_keep_56 rfl rfl rfl rfl ?_
  refine me3 (pc' := 60) dm_X12_keep_57 (g_get (v := .ref 110) (lu (n := 102) (j := 0) hn rfl) rfl rfl (Nat.le_of_ble_eq_true rfl)) rfl rfl rfl ?_
  refine me1 (pc' := 61) dm_X12_keep_60 rfl rfl rfl rfl ?_
  refine me3 (pc' := 62) dm_X12_keep_61 (g_lald (v := (0 : Int64)) (lu (n := 102) (j := 8) hn rfl) rfl (by decide) rfl (Nat.le_of_ble_eq_true rfl)) rfl rfl rfl ?_
  refine me3 (pc' := 63) dm_X12_keep_62 (u_last (n := 102) (j := 12) hn rfl rfl (by decide) rfl (Nat.le_of_ble_eq_true rfl)) rfl rfl rfl ?_
  refine me1 (pc' := 64) dm_X12_keep_63 rfl rfl rfl rfl ?_
  refine me3 (pc' := 67) dm_X12_keep_64 (g_get (v := .ref 115) (lu (n := 102) (j := 0) hn rfl) rfl rfl (Nat.le_of_ble_eq_true rfl)) rfl rfl rfl ?_
  refine me0 (pc' := 69) (S' := .int (80 : Int32) :: _) dm_X12_keep_67 rfl rfl rfl rfl ?_
  refine me1 (pc' := 70) dm_X12_keep_69 rfl rfl rfl rfl ?_
  refine me0 (pc' := 71) (S' := .int (240 : Int32) :: _) dm_X12_keep_70 rfl rfl rfl rfl ?_
  refine me1 (pc' := 72) dm_X12_keep_71 rfl rfl rfl rfl ?_
  refine me0 (pc' := 73) (S' := .int (279 : Int32) :: _) dm_X12_keep_72 rfl rfl rfl rfl ?_
  refine me1 (pc' := 74) dm_X12_keep_73 rfl rfl rfl rfl ?_
  refine me3 (pc' := 77) dm_X12_keep_74 (g_get (v := .ref 112) (lu (n := 102) (j := 0) hn rfl) rfl rfl (Nat.le_of_ble_eq_true rfl)) rfl rfl rfl ?_
  refine me1 (pc' := 78) dm_X12_keep_77 rfl rfl rfl rfl ?_
  refine me3 (pc' := 79) dm_X12_keep_78 (g_iald (v := (0 : Int32)) (lu (n := 102) (j := 10) hn rfl) rfl (by decide) rfl (Nat.le_of_ble_eq_true rfl)) rfl rfl rfl ?_
  refine me3 (pc' := 80) dm_X12_keep_79 (u_iast (n := 102) (j := 13) hn rfl rfl (by decide) rfl (Nat.le_of_ble_eq_true rfl)) rfl rfl rfl ?_
  refine me1 (pc' := 81) dm_X12_keep_80 rfl rfl rfl rfl ?_
  refine me3 (pc' := 84) dm_X12_keep_81 (g_get (v := .ref 114) (lu (n := 102) (j := 0) hn rfl) rfl rfl (Nat.le_of_ble_eq_true rfl)) rfl rfl rfl ?_
  refine me0 (pc' := 86) (S' := .int (80 : Int32) :: _) dm_X12_keep_84 rfl rfl rfl rfl ?_
  refine me1 (pc' := 87) dm_X12_keep_86 rfl rfl rfl rfl ?_
  refine me0 (pc' := 88) (S' := .int (240 : Int32) :: _) dm_X12_keep_87 rfl rfl rfl rfl ?_
  refine me0 (pc' := 90) (S' := .int (40 : Int32) :: _) dm_X12_keep_88 rfl rfl rfl rfl ?_
  refine me0 (pc' := 91) (S' := .int (280 : Int32) :: _) dm_X12_keep_90 rfl rfl rfl rfl ?_
  refine me1 (pc' := 92) dm_X12_keep_91 rfl rfl rfl rfl ?_
  refine me0 (pc' := 93) (S' := .int (319 : Int32) :: _) dm_X12_keep_92 rfl rfl rfl rfl ?_
  refine me1 (pc' := 94) dm_X12_keep_93 rfl rfl rfl rfl ?_
  refine me3 (pc' := 97) dm_X12_keep_94 (g_get (v := .ref 111) (lu (n := 102) (j := 0) hn rfl) rfl rfl (Nat.le_of_ble_eq_true rfl)) rfl rfl rfl ?_
  refine me1 (pc' := 98) dm_X12_keep_97 rfl rfl rfl rfl ?_
  refine me3 (pc' := 99) dm_X12_keep_98 (g_lald (v := (0 : Int64)) (lu (n := 102) (j := 9) hn rfl) rfl (by decide) rfl (Nat.le_of_ble_eq_true rfl)) rfl rfl rfl ?_
  refine me3 (pc' := 100) dm_X12_keep_99 (u_last (n := 102) (j := 12) hn rfl rfl (by decide) rfl (Nat.le_of_ble_eq_true rfl)) rfl rfl rfl ?_
  refine me1 (pc' := 101) dm_X12_keep_100 rfl rfl rfl rfl ?_
  refine me3 (pc' := 104) dm_X12_keep_101 (g_get (v := .ref 115) (lu (n := 102) (j := 0) hn rfl) rfl rfl (Nat.le_of_ble_eq_true rfl)) rfl rfl rfl ?_
  refine me0 (pc' := 106) (S' := .int (80 : Int32) :: _) dm_X12_keep_104 rfl rfl rfl rfl ?_
  refine me1 (pc' := 107) dm_X12_keep_106 rfl rfl rfl rfl ?_
  refine me0 (pc' := 108) (S' := .int (240 : Int32) :: _) dm_X12_keep_107 rfl rfl rfl rfl ?_
  refine me0 (pc' := 110) (S' := .int (40 : Int32) :: _) dm_X12_keep_108 rfl rfl rfl rfl ?_
  refine me0 (pc' := 111) (S' := .int (280 : Int32) :: _) dm_X12_keep_110 rfl rfl rfl rfl ?_
  refine me1 (pc' := 112) dm_X12_keep_111 rfl rfl rfl rfl ?_
  refine me0 (pc' := 113) (S' := .int (319 : Int32) :: _) dm_X12_keep_112 rfl rfl rfl rfl ?_
  refine me1 (pc' := 114) dm_X12_keep_113 rfl rfl rfl rfl ?_
  refine me3 (pc' := 117) dm_X12_keep_114 (g_get (v := .ref 113) (lu (n := 102) (j := 0) hn rfl) rfl rfl (Nat.le_of_ble_eq_true rfl)) rfl rfl rfl ?_
  refine me1 (pc' := 118) dm_X12_keep_117 rfl rfl rfl rfl ?_
  refine me3 (pc' := 119) dm_X12_keep_118 (g_iald (v := (0 : Int32)) (lu (n := 102) (j := 11) hn rfl) rfl (by decide) rfl (Nat.le_of_ble_eq_true rfl)) rfl rfl rfl ?_
  refine me3 (pc' := 120) dm_X12_keep_119 (u_iast (n := 102) (j := 13) hn rfl rfl (by decide) rfl (Nat.le_of_ble_eq_true rfl)) rfl rfl rfl ?_
  refine me1 (pc' := 123) (L' := [(2, .int (40 : Int32)), (0, .ref 102), (1, .int (3 : Int32))]) dm_X12_keep_120 rfl rfl rfl rfl ?_
  refine me2 (pc' := 40) dm_X12_keep_123 rfl rfl rfl ?_
  refine me1 (pc' := 41) dm_X12_keep_40 rfl rfl rfl rfl ?_
  refine me0 (pc' := 43) (S' := .int (40 : Int32) :: _) dm_X12_keep_41 rfl rfl rfl rfl ?_
  refine me_2t (pc' := 126) dm_X12_keep_43 rfl rfl ?_
  refine me0 (pc' := 127) (S' := .int (1 : Int32) :: _) dm_X12_keep_126 rfl rfl rfl rfl ?_
  refine me5 dm_X12_keep_127 rfl rfl rfl ?_
  exact k _ rfl (Nat.le_of_ble_eq_true rfl)
set_option maxRecDepth 100000 in
set_option maxHeartbeats 40000000 in
theorem r_keep_ge {xt : mj_X} {d : Nat} {h W : mj_H} (hn : h.length = 102) {P : Option Value → mj_H → Prop} {p0 : Int32} (hl0 : 4 ≤ p0.toInt) (k : ∀ U, U.length = 25 → mj_sl U ≤ 3000000 → P (some (.int (0 : Int32))) (h ++ (U ++ W))) : pgE xt (d + 20) 12 3 false (Option.some FieldType.boolean) (mj_dec prog_14_method_119_code) 0 [(0, .ref 102), (1, .int p0)] [] (h ++ (rT ++ W)) P := by
  refine me1 (pc' := 1) dm_X12_keep_0 rfl rfl rfl rfl ?_
  refine me_1f (pc' := 4) dm_X12_keep_1 rfl (cn_f_lt (c := 0) rfl (by omega)) rfl ?_
  refine me1 (pc' := 5) dm_X12_keep_4 rfl rfl rfl rfl ?_
  refine me0 (pc' := 6) (S' := .int (3 : Int32) :: _) dm_X12_keep_5 rfl rfl rfl rfl ?_
  refine me_2f (pc' := 9) dm_X12_keep_6 rfl (cn_f_le (c := 3) rfl (by omega)) rfl ?_
  refine me0 (pc' := 10) (S' := .int (0 : Int32) :: _) dm_X12_keep_9 rfl rfl rfl rfl ?_
  refine me5 dm_X12_keep_10 rfl rfl rfl ?_
  exact k _ rfl (Nat.le_of_ble_eq_true rfl)
