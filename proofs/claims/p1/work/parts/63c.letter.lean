set_option maxRecDepth 100000 in
set_option maxHeartbeats 40000000 in
theorem c_letter_lt_lt_lt {xt : mj_X} {d : Nat} {h V : mj_H} (hn : h.length = 2) (hv : V.length = 25) {P : Option Value → mj_H → Prop} {p0 : Int32} {p1 : Int32} {p2 : Int32} (hh0 : p0.toInt ≤ -1) (hh1 : p1.toInt ≤ -1) (hh2 : p2.toInt ≤ -1) (k : ∀ U D, U.length = 100 → mj_sl U ≤ 20000 → D.length ≤ 10 → mj_sl D ≤ 2000 → P (some (.int (-1 : Int32))) (h ++ (U ++ (V ++ D)))) : pgE xt (d + 20) 11 5 false (Option.some FieldType.int) (mj_dec prog_1_method_18_code) 0 [(0, .ref 2), (1, .int p0), (2, .int p1), (3, .int p2)] [] (h ++ (cT ++ (V ++ []))) P := by
  refine me1 (pc' := 1) dm_X11_letter_0 rfl rfl rfl rfl ?_
  refine me_1t (pc' := 10) dm_X11_letter_1 rfl (cn_t_lt (c := 0) rfl (by omega)) ?_
  refine me0 (pc' := 11) (S' := .int (-1 : Int32) :: _) dm_X11_letter_10 rfl rfl rfl rfl ?_
  refine me5 dm_X11_letter_11 rfl rfl rfl ?_
  exact k _ _ rfl (Nat.le_of_ble_eq_true rfl) (Nat.le_of_ble_eq_true rfl) (Nat.le_of_ble_eq_true rfl)
set_option maxRecDepth 100000 in
set_option maxHeartbeats 40000000 in
theorem c_letter_lt_lt_v0 {xt : mj_X} {d : Nat} {h V : mj_H} (hn : h.length = 2) (hv : V.length = 25) {P : Option Value → mj_H → Prop} {p0 : Int32} {p1 : Int32} (hh0 : p0.toInt ≤ -1) (hh1 : p1.toInt ≤ -1) (k : ∀ U D, U.length = 100 → mj_sl U ≤ 20000 → D.length ≤ 10 → mj_sl D ≤ 2000 → P (some (.int (-1 : Int32))) (h ++ (U ++ (V ++ D)))) : pgE xt (d + 20) 11 5 false (Option.some FieldType.int) (mj_dec prog_1_method_18_code) 0 [(0, .ref 2), (1, .int p0), (2, .int p1), (3, .int (0 : Int32))] [] (h ++ (cT ++ (V ++ []))) P := by
  refine me1 (pc' := 1) dm_X11_letter_0 rfl rfl rfl rfl ?_
  refine me_1f (pc' := 4) dm_X11_letter_1 rfl (by decide) rfl ?_
  refine me1 (pc' := 5) dm_X11_letter_4 rfl rfl rfl rfl ?_
  refine me0 (pc' := 7) (S' := .int (8 : Int32) :: _) dm_X11_letter_5 rfl rfl rfl rfl ?_
  refine me_2t (pc' := 12) dm_X11_letter_7 rfl rfl ?_
  refine me1 (pc' := 13) dm_X11_letter_12 rfl rfl rfl rfl ?_
  refine me3 (pc' := 16) dm_X11_letter_13 (g_get (v := .ref 4) (lu (n := 2) (j := 0) hn rfl) rfl rfl (Nat.le_of_ble_eq_true rfl)) rfl rfl rfl ?_
  refine me1 (pc' := 17) dm_X11_letter_16 rfl rfl rfl rfl ?_
  refine me1 (pc' := 18) dm_X11_letter_17 rfl rfl rfl rfl ?_
  refine me4 (pc' := 21) (L0 := [(0, .ref 4), (1, .int p0), (2, .int p1)]) dm_X11_letter_18 rfl (g_inv (As := [.int p0, .int p1]) (lu (n := 2) (j := 2) hn rfl) rfl rfl rfl (Nat.le_of_ble_eq_true rfl)) pm_X2_keyAt rfl (Nat.le_of_ble_eq_true rfl) rfl rfl rfl ?_
  refine me1 (pc' := 1) dm_X2_keyAt_0 rfl rfl rfl rfl ?_
  refine me_1t (pc' := 13) dm_X2_keyAt_1 rfl (cn_t_lt (c := 0) rfl (by omega)) ?_
  refine me0 (pc' := 14) (S' := .long (0 : Int64) :: _) dm_X2_keyAt_13 rfl rfl rfl rfl ?_
  refine me5 dm_X2_keyAt_14 rfl rfl rfl ?_
  refine me1 (pc' := 22) dm_X11_letter_21 rfl rfl rfl rfl ?_
  refine me0 (pc' := 23) (S' := .int (5 : Int32) :: _) dm_X11_letter_22 rfl rfl rfl rfl ?_
  refine me0 (pc' := 24) (S' := .int (0 : Int32) :: _) dm_X11_letter_23 rfl rfl rfl rfl ?_
  refine me0 (pc' := 25) (S' := .long (0 : Int64) :: _) dm_X11_letter_24 rfl rfl rfl rfl ?_
  refine me0 (pc' := 26) (S' := .int (0 : Int32) :: _) dm_X11_letter_25 rfl rfl rfl rfl ?_
  refine me0 (pc' := 28) (S' := .int (31 : Int32) :: _) dm_X11_letter_26 rfl rfl rfl rfl ?_
  refine me0 (pc' := 29) (S' := .int (0 : Int32) :: _) dm_X11_letter_28 rfl rfl rfl rfl ?_
  refine me1 (pc' := 31) (L' := [(4, .int (0 : Int32)), (0, .ref 2), (1, .int p0), (2, .int p1), (3, .int (0 : Int32))]) dm_X11_letter_29 rfl rfl rfl rfl ?_
  refine me1 (pc' := 33) dm_X11_letter_31 rfl rfl rfl rfl ?_
  refine me_1f (pc' := 36) dm_X11_letter_33 rfl (by decide) rfl ?_
  refine me0 (pc' := 37) (S' := .int (-1 : Int32) :: _) dm_X11_letter_36 rfl rfl rfl rfl ?_
  refine me2 (pc' := 45) dm_X11_letter_37 rfl rfl rfl ?_
  refine me5 dm_X11_letter_45 rfl rfl rfl ?_
  exact k _ _ rfl (Nat.le_of_ble_eq_true rfl) (Nat.le_of_ble_eq_true rfl) (Nat.le_of_ble_eq_true rfl)
set_option maxRecDepth 100000 in
set_option maxHeartbeats 40000000 in
theorem c_letter_lt_lt_v1 {xt : mj_X} {d : Nat} {h V : mj_H} (hn : h.length = 2) (hv : V.length = 25) {P : Option Value → mj_H → Prop} {p0 : Int32} {p1 : Int32} (hh0 : p0.toInt ≤ -1) (hh1 : p1.toInt ≤ -1) (k : ∀ U D, U.length = 100 → mj_sl U ≤ 20000 → D.length ≤ 10 → mj_sl D ≤ 2000 → P (some (.int (-1 : Int32))) (h ++ (U ++ (V ++ D)))) : pgE xt (d + 20) 11 5 false (Option.some FieldType.int) (mj_dec prog_1_method_18_code) 0 [(0, .ref 2), (1, .int p0), (2, .int p1), (3, .int (1 : Int32))] [] (h ++ (cT ++ (V ++ []))) P := by
  refine me1 (pc' := 1) dm_X11_letter_0 rfl rfl rfl rfl ?_
  refine me_1f (pc' := 4) dm_X11_letter_1 rfl (by decide) rfl ?_
  refine me1 (pc' := 5) dm_X11_letter_4 rfl rfl rfl rfl ?_
  refine me0 (pc' := 7) (S' := .int (8 : Int32) :: _) dm_X11_letter_5 rfl rfl rfl rfl ?_
  refine me_2t (pc' := 12) dm_X11_letter_7 rfl rfl ?_
  refine me1 (pc' := 13) dm_X11_letter_12 rfl rfl rfl rfl ?_
  refine me3 (pc' := 16) dm_X11_letter_13 (g_get (v := .ref 4) (lu (n := 2) (j := 0) hn rfl) rfl rfl (Nat.le_of_ble_eq_true rfl)) rfl rfl rfl ?_
  refine me1 (pc' := 17) dm_X11_letter_16 rfl rfl rfl rfl ?_
  refine me1 (pc' := 18) dm_X11_letter_17 rfl rfl rfl rfl ?_
  refine me4 (pc' := 21) (L0 := [(0, .ref 4), (1, .int p0), (2, .int p1)]) dm_X11_letter_18 rfl (g_inv (As := [.int p0, .int p1]) (lu (n := 2) (j := 2) hn rfl) rfl rfl rfl (Nat.le_of_ble_eq_true rfl)) pm_X2_keyAt rfl (Nat.le_of_ble_eq_true rfl) rfl rfl rfl ?_
  refine me1 (pc' := 1) dm_X2_keyAt_0 rfl rfl rfl rfl ?_
  refine me_1t (pc' := 13) dm_X2_keyAt_1 rfl (cn_t_lt (c := 0) rfl (by omega)) ?_
  refine me0 (pc' := 14) (S' := .long (0 : Int64) :: _) dm_X2_keyAt_13 rfl rfl rfl rfl ?_
  refine me5 dm_X2_keyAt_14 rfl rfl rfl ?_
  refine me1 (pc' := 22) dm_X11_letter_21 rfl rfl rfl rfl ?_
  refine me0 (pc' := 23) (S' := .int (5 : Int32) :: _) dm_X11_letter_22 rfl rfl rfl rfl ?_
  refine me0 (pc' := 24) (S' := .int (5 : Int32) :: _) dm_X11_letter_23 rfl rfl rfl rfl ?_
  refine me0 (pc' := 25) (S' := .long (0 : Int64) :: _) dm_X11_letter_24 rfl rfl rfl rfl ?_
  refine me0 (pc' := 26) (S' := .int (0 : Int32) :: _) dm_X11_letter_25 rfl rfl rfl rfl ?_
  refine me0 (pc' := 28) (S' := .int (31 : Int32) :: _) dm_X11_letter_26 rfl rfl rfl rfl ?_
  refine me0 (pc' := 29) (S' := .int (0 : Int32) :: _) dm_X11_letter_28 rfl rfl rfl rfl ?_
  refine me1 (pc' := 31) (L' := [(4, .int (0 : Int32)), (0, .ref 2), (1, .int p0), (2, .int p1), (3, .int (1 : Int32))]) dm_X11_letter_29 rfl rfl rfl rfl ?_
  refine me1 (pc' := 33) dm_X11_letter_31 rfl rfl rfl rfl ?_
  refine me_1f (pc' := 36) dm_X11_letter_33 rfl (by decide) rfl ?_
  refine me0 (pc' := 37) (S' := .int (-1 : Int32) :: _) dm_X11_letter_36 rfl rfl rfl rfl ?_
  refine me2 (pc' := 45) dm_X11_letter_37 rfl rfl rfl ?_
  refine me5 dm_X11_letter_45 rfl rfl rfl ?_
  exact k _ _ rfl (Nat.le_of_ble_eq_true rfl) (Nat.le_of_ble_eq_true rfl) (Nat.le_of_ble_eq_true rfl)
set_option maxRecDepth 100000 in
set_option maxHeartbeats 40000000 in
theorem c_letter_lt_lt_v2 {xt : mj_X} {d : Nat} {h V : mj_H} (hn : h.length = 2) (hv : V.length = 25) {P : Option Value → mj_H → Prop} {p0 : Int32} {p1 : Int32} (hh0 : p0.toInt ≤ -1) (hh1 : p1.toInt ≤ -1) (k : ∀ U D, U.length = 100 → mj_sl U ≤ 20000 → D.length ≤ 10 → mj_sl D ≤ 2000 → P (some (.int (-1 : Int32))) (h ++ (U ++ (V ++ D)))) : pgE xt (d + 20) 11 5 false (Option.some FieldType.int) (mj_dec prog_1_method_18_code) 0 [(0, .ref 2), (1, .int p0), (2, .int p1), (3, .int (2 : Int32))] [] (h ++ (cT ++ (V ++ []))) P := by
  refine me1 (pc' := 1) dm_X11_letter_0 rfl rfl rfl rfl ?_
  refine me_1f (pc' := 4) dm_X11_letter_1 rfl (by decide) rfl ?_
  refine me1 (pc' := 5) dm_X11_letter_4 rfl rfl rfl rfl ?_
  refine me0 (pc' := 7) (S' := .int (8 : Int32) :: _) dm_X11_letter_5 rfl rfl rfl rfl ?_
  refine me_2t (pc' := 12) dm_X11_letter_7 rfl rfl ?_
  refine me1 (pc' := 13) dm_X11_letter_12 rfl rfl rfl rfl ?_
  refine me3 (pc' := 16) dm_X11_letter_13 (g_get (v := .ref 4) (lu (n := 2) (j := 0) hn rfl) rfl rfl (Nat.le_of_ble_eq_true rfl)) rfl rfl rfl ?_
  refine me1 (pc' := 17) dm_X11_letter_16 rfl rfl rfl rfl ?_
  refine me1 (pc' := 18) dm_X11_letter_17 rfl rfl rfl rfl ?_
  refine me4 (pc' := 21) (L0 := [(0, .ref 4), (1, .int p0), (2, .int p1)]) dm_X11_letter_18 rfl (g_inv (As := [.int p0, .int p1]) (lu (n := 2) (j := 2) hn rfl) rfl rfl rfl (Nat.le_of_ble_eq_true rfl)) pm_X2_keyAt rfl (Nat.le_of_ble_eq_true rfl) rfl rfl rfl ?_
  refine me1 (pc' := 1) dm_X2_keyAt_0 rfl rfl rfl rfl ?_
  refine me_1t (pc' := 13) dm_X2_keyAt_1 rfl (cn_t_lt (c := 0) rfl (by omega)) ?_
  refine me0 (pc' := 14) (S' := .long (0 : Int64) :: _) dm_X2_keyAt_13 rfl rfl rfl rfl ?_
  refine me5 dm_X2_keyAt_14 rfl rfl rfl ?_
  refine me1 (pc' := 22) dm_X11_letter_21 rfl rfl rfl rfl ?_
  refine me0 (pc' := 23) (S' := .int (5 : Int32) :: _) dm_X11_letter_22 rfl rfl rfl rfl ?_
  refine me0 (pc' := 24) (S' := .int (10 : Int32) :: _) dm_X11_letter_23 rfl rfl rfl rfl ?_
  refine me0 (pc' := 25) (S' := .long (0 : Int64) :: _) dm_X11_letter_24 rfl rfl rfl rfl ?_
  refine me0 (pc' := 26) (S' := .int (0 : Int32) :: _) dm_X11_letter_25 rfl rfl rfl rfl ?_
  refine me0 (pc' := 28) (S' := .int (31 : Int32) :: _) dm_X11_letter_26 rfl rfl rfl rfl ?_
  refine me0 (pc' := 29) (S' := .int (0 : Int32) :: _) dm_X11_letter_28 rfl rfl rfl rfl ?_
  refine me1 (pc' := 31) (L' := [(4, .int (0 : Int32)), (0, .ref 2), (1, .int p0), (2, .int p1), (3, .int (2 : Int32))]) dm_X11_letter_29 rfl rfl rfl rfl ?_
  refine me1 (pc' := 33) dm_X11_letter_31 rfl rfl rfl rfl ?_
  refine me_1f (pc' := 36) dm_X11_letter_33 rfl (by decide) rfl ?_
  refine me0 (pc' := 37) (S' := .int (-1 : Int32) :: _) dm_X11_letter_36 rfl rfl rfl rfl ?_
  refine me2 (pc' := 45) dm_X11_letter_37 rfl rfl rfl ?_
  refine me5 dm_X11_letter_45 rfl rfl rfl ?_
  exact k _ _ rfl (Nat.le_of_ble_eq_true rfl) (Nat.le_of_ble_eq_true rfl) (Nat.le_of_ble_eq_true rfl)
set_option maxRecDepth 100000 in
set_option maxHeartbeats 40000000 in
theorem c_letter_lt_lt_v3 {xt : mj_X} {d : Nat} {h V : mj_H} (hn : h.length = 2) (hv : V.length = 25) {P : Option Value → mj_H → Prop} {p0 : Int32} {p1 : Int32} (hh0 : p0.toInt ≤ -1) (hh1 : p1.toInt ≤ -1) (k : ∀ U D, U.length = 100 → mj_sl U ≤ 20000 → D.length ≤ 10 → mj_sl D ≤ 2000 → P (some (.int (-1 : Int32))) (h ++ (U ++ (V ++ D)))) : pgE xt (d + 20) 11 5 false (Option.some FieldType.int) (mj_dec prog_1_method_18_code) 0 [(0, .ref 2), (1, .int p0), (2, .int p1), (3, .int (3 : Int32))] [] (h ++ (cT ++ (V ++ []))) P := by
  refine me1 (pc' := 1) dm_X11_letter_0 rfl rfl rfl rfl ?_
  refine me_1f (pc' := 4) dm_X11_letter_1 rfl (by decide) rfl ?_
  refine me1 (pc' := 5) dm_X11_letter_4 rfl rfl rfl rfl ?_
  refine me0 (pc' := 7) (S' := .int (8 : Int32) :: _) dm_X11_letter_5 rfl rfl rfl rfl ?_
  refine me_2t (pc' := 12) dm_X11_letter_7 rfl rfl ?_
  refine me1 (pc' := 13) dm_X11_letter_12 rfl rfl rfl rfl ?_
  refine me3 (pc' := 16) dm_X11_letter_13 (g_get (v := .ref 4) (lu (n := 2) (j := 0) hn rfl) rfl rfl (Nat.le_of_ble_eq_true rfl)) rfl rfl rfl ?_
  refine me1 (pc' := 17) dm_X11_letter_16 rfl rfl rfl rfl ?_
  refine me1 (pc' := 18) dm_X11_letter_17 rfl rfl rfl rfl ?_
  refine me4 (pc' := 21) (L0 := [(0, .ref 4), (1, .int p0), (2, .int p1)]) dm_X11_letter_18 rfl (g_inv (As := [.int p0, .int p1]) (lu (n := 2) (j := 2) hn rfl) rfl rfl rfl (Nat.le_of_ble_eq_true rfl)) pm_X2_keyAt rfl (Nat.le_of_ble_eq_true rfl) rfl rfl rfl ?_
  refine me1 (pc' := 1) dm_X2_keyAt_0 rfl rfl rfl rfl ?_
  refine me_1t (pc' := 13) dm_X2_keyAt_1 rfl (cn_t_lt (c := 0) rfl (by omega)) ?_
  refine me0 (pc' := 14) (S' := .long (0 : Int64) :: _) dm_X2_keyAt_13 rfl rfl rfl rfl ?_
  refine me5 dm_X2_keyAt_14 rfl rfl rfl ?_
  refine me1 (pc' := 22) dm_X11_letter_21 rfl rfl rfl rfl ?_
  refine me0 (pc' := 23) (S' := .int (5 : Int32) :: _) dm_X11_letter_22 rfl rfl rfl rfl ?_
  refine me0 (pc' := 24) (S' := .int (15 : Int32) :: _) dm_X11_letter_23 rfl rfl rfl rfl ?_
  refine me0 (pc' := 25) (S' := .long (0 : Int64) :: _) dm_X11_letter_24 rfl rfl rfl rfl ?_
  refine me0 (pc' := 26) (S' := .int (0 : Int32) :: _) dm_X11_letter_25 rfl rfl rfl rfl ?_
  refine me0 (pc' := 28) (S' := .int (31 : Int32) :: _) dm_X11_letter_26 rfl rfl rfl rfl ?_
  refine me0 (pc' := 29) (S' := .int (0 : Int32) :: _) dm_X11_letter_28 rfl rfl rfl rfl ?_
  refine me1 (pc' := 31) (L' := [(4, .int (0 : Int32)), (0, .ref 2), (1, .int p0), (2, .int p1), (3, .int (3 : Int32))]) dm_X11_letter_29 rfl rfl rfl rfl ?_
  refine me1 (pc' := 33) dm_X11_letter_31 rfl rfl rfl rfl ?_
  refine me_1f (pc' := 36) dm_X11_letter_33 rfl (by decide) rfl ?_
  refine me0 (pc' := 37) (S' := .int (-1 : Int32) :: _) dm_X11_letter_36 rfl rfl rfl rfl ?_
  refine me2 (pc' := 45) dm_X11_letter_37 rfl rfl rfl ?_
  refine me5 dm_X11_letter_45 rfl rfl rfl ?_
  exact k _ _ rfl (Nat.le_of_ble_eq_true rfl) (Nat.le_of_ble_eq_true rfl) (Nat.le_of_ble_eq_true rfl)
set_option maxRecDepth 100000 in
set_option maxHeartbeats 40000000 in
theorem c_letter_lt_lt_v4 {xt : mj_X} {d : Nat} {h V : mj_H} (hn : h.length = 2) (hv : V.length = 25) {P : Option Value → mj_H → Prop} {p0 : Int32} {p1 : Int32} (hh0 : p0.toInt ≤ -1) (hh1 : p1.toInt ≤ -1) (k : ∀ U D, U.length = 100 → mj_sl U ≤ 20000 → D.length ≤ 10 → mj_sl D ≤ 2000 → P (some (.int (-1 : Int32))) (h ++ (U ++ (V ++ D)))) : pgE xt (d + 20) 11 5 false (Option.some FieldType.int) (mj_dec prog_1_method_18_code) 0 [(0, .ref 2), (1, .int p0), (2, .int p1), (3, .int (4 : Int32))] [] (h ++ (cT ++ (V ++ []))) P := by
  refine me1 (pc' := 1) dm_X11_letter_0 rfl rfl rfl rfl ?_
  refine me_1f (pc' := 4) dm_X11_letter_1 rfl (by decide) rfl ?_
  refine me1 (pc' := 5) dm_X11_letter_4 rfl rfl rfl rfl ?_
  refine me0 (pc' := 7) (S' := .int (8 : Int32) :: _) dm_X11_letter_5 rfl rfl rfl rfl ?_
  refine me_2t (pc' := 12) dm_X11_letter_7 rfl rfl ?_
  refine me1 (pc' := 13) dm_X11_letter_12 rfl rfl rfl rfl ?_
  refine me3 (pc' := 16) dm_X11_letter_13 (g_get (v := .ref 4) (lu (n := 2) (j := 0) hn rfl) rfl rfl (Nat.le_of_ble_eq_true rfl)) rfl rfl rfl ?_
  refine me1 (pc' := 17) dm_X11_letter_16 rfl rfl rfl rfl ?_
  refine me1 (pc' := 18) dm_X11_letter_17 rfl rfl rfl rfl ?_
  refine me4 (pc' := 21) (L0 := [(0, .ref 4), (1, .int p0), (2, .int p1)]) dm_X11_letter_18 rfl (g_inv (As := [.int p0, .int p1]) (lu (n := 2) (j := 2) hn rfl) rfl rfl rfl (Nat.le_of_ble_eq_true rfl)) pm_X2_keyAt rfl (Nat.le_of_ble_eq_true rfl) rfl rfl rfl ?_
  refine me1 (pc' := 1) dm_X2_keyAt_0 rfl rfl rfl rfl ?_
  refine me_1t (pc' := 13) dm_X2_keyAt_1 rfl (cn_t_lt (c := 0) rfl (by omega)) ?_
  refine me0 (pc' := 14) (S' := .long (0 : Int64) :: _) dm_X2_keyAt_13 rfl rfl rfl rfl ?_
  refine me5 dm_X2_keyAt_14 rfl rfl rfl ?_
  refine me1 (pc' := 22) dm_X11_letter_21 rfl rfl rfl rfl ?_
  refine me0 (pc' := 23) (S' := .int (5 : Int32) :: _) dm_X11_letter_22 rfl rfl rfl rfl ?_
  refine me0 (pc' := 24) (S' := .int (20 : Int32) :: _) dm_X11_letter_23 rfl rfl rfl rfl ?_
  refine me0 (pc' := 25) (S' := .long (0 : Int64) :: _) dm_X11_letter_24 rfl rfl rfl rfl ?_
  refine me0 (pc' := 26) (S' := .int (0 : Int32) :: _) dm_X11_letter_25 rfl rfl rfl rfl ?_
  refine me0 (pc' := 28) (S' := .int (31 : Int32) :: _) dm_X11_letter_26 rfl rfl rfl rfl ?_
  refine me0 (pc' := 29) (S' := .int (0 : Int32) :: _) dm_X11_letter_28 rfl rfl rfl rfl ?_
  refine me1 (pc' := 31) (L' := [(4, .int (0 : Int32)), (0, .ref 2), (1, .int p0), (2, .int p1), (3, .int (4 : Int32))]) dm_X11_letter_29 rfl rfl rfl rfl ?_
  refine me1 (pc' := 33) dm_X11_letter_31 rfl rfl rfl rfl ?_
  refine me_1f (pc' := 36) dm_X11_letter_33 rfl (by decide) rfl ?_
  refine me0 (pc' := 37) (S' := .int (-1 : Int32) :: _) dm_X11_letter_36 rfl rfl rfl rfl ?_
  refine me2 (pc' := 45) dm_X11_letter_37 rfl rfl rfl ?_
  refine me5 dm_X11_letter_45 rfl rfl rfl ?_
  exact k _ _ rfl (Nat.le_of_ble_eq_true rfl) (Nat.le_of_ble_eq_true rfl) (Nat.le_of_ble_eq_true rfl)
set_option maxRecDepth 100000 in
set_option maxHeartbeats 40000000 in
theorem c_letter_lt_lt_v5 {xt : mj_X} {d : Nat} {h V : mj_H} (hn : h.length = 2) (hv : V.length = 25) {P : Option Value → mj_H → Prop} {p0 : Int32} {p1 : Int32} (hh0 : p0.toInt ≤ -1) (hh1 : p1.toInt ≤ -1) (k : ∀ U D, U.length = 100 → mj_sl U ≤ 20000 → D.length ≤ 10 → mj_sl D ≤ 2000 → P (some (.int (-1 : Int32))) (h ++ (U ++ (V ++ D)))) : pgE xt (d + 20) 11 5 false (Option.some FieldType.int) (mj_dec prog_1_method_18_code) 0 [(0, .ref 2), (1, .int p0), (2, .int p1), (3, .int (5 : Int32))] [] (h ++ (cT ++ (V ++ []))) P := by
  refine me1 (pc' := 1) dm_X11_letter_0 rfl rfl rfl rfl ?_
  refine me_1f (pc' := 4) dm_X11_letter_1 rfl (by decide) rfl ?_
  refine me1 (pc' := 5) dm_X11_letter_4 rfl rfl rfl rfl ?_
  refine me0 (pc' := 7) (S' := .int (8 : Int32) :: _) dm_X11_letter_5 rfl rfl rfl rfl ?_
  refine me_2t (pc' := 12) dm_X11_letter_7 rfl rfl ?_
  refine me1 (pc' := 13) dm_X11_letter_12 rfl rfl rfl rfl ?_
  refine me3 (pc' := 16) dm_X11_letter_13 (g_get (v := .ref 4) (lu (n := 2) (j := 0) hn rfl) rfl rfl (Nat.le_of_ble_eq_true rfl)) rfl rfl rfl ?_
  refine me1 (pc' := 17) dm_X11_letter_16 rfl rfl rfl rfl ?_
  refine me1 (pc' := 18) dm_X11_letter_17 rfl rfl rfl rfl ?_
  refine me4 (pc' := 21) (L0 := [(0, .ref 4), (1, .int p0), (2, .int p1)]) dm_X11_letter_18 rfl (g_inv (As := [.int p0, .int p1]) (lu (n := 2) (j := 2) hn rfl) rfl rfl rfl (Nat.le_of_ble_eq_true rfl)) pm_X2_keyAt rfl (Nat.le_of_ble_eq_true rfl) rfl rfl rfl ?_
  refine me1 (pc' := 1) dm_X2_keyAt_0 rfl rfl rfl rfl ?_
  refine me_1t (pc' := 13) dm_X2_keyAt_1 rfl (cn_t_lt (c := 0) rfl (by omega)) ?_
  refine me0 (pc' := 14) (S' := .long (0 : Int64) :: _) dm_X2_keyAt_13 rfl rfl rfl rfl ?_
  refine me5 dm_X2_keyAt_14 rfl rfl rfl ?_
  refine me1 (pc' := 22) dm_X11_letter_21 rfl rfl rfl rfl ?_
  refine me0 (pc' := 23) (S' := .int (5 : Int32) :: _) dm_X11_letter_22 rfl rfl rfl rfl ?_
  refine me0 (pc' := 24) (S' := .int (25 : Int32) :: _) dm_X11_letter_23 rfl rfl rfl rfl ?_
  refine me0 (pc' := 25) (S' := .long (0 : Int64) :: _) dm_X11_letter_24 rfl rfl rfl rfl ?_
  refine me0 (pc' := 26) (S' := .int (0 : Int32) :: _) dm_X11_letter_25 rfl rfl rfl rfl ?_
  refine me0 (pc' := 28) (S' := .int (31 : Int32) :: _) dm_X11_letter_26 rfl rfl rfl rfl ?_
  refine me0 (pc' := 29) (S' := .int (0 : Int32) :: _) dm_X11_letter_28 rfl rfl rfl rfl ?_
  refine me1 (pc' := 31) (L' := [(4, .int (0 : Int32)), (0, .ref 2), (1, .int p0), (2, .int p1), (3, .int (5 : Int32))]) dm_X11_letter_29 rfl rfl rfl rfl ?_
  refine me1 (pc' := 33) dm_X11_letter_31 rfl rfl rfl rfl ?_
  refine me_1f (pc' := 36) dm_X11_letter_33 rfl (by decide) rfl ?_
  refine me0 (pc' := 37) (S' := .int (-1 : Int32) :: _) dm_X11_letter_36 rfl rfl rfl rfl ?_
  refine me2 (pc' := 45) dm_X11_letter_37 rfl rfl rfl ?_
  refine me5 dm_X11_letter_45 rfl rfl rfl ?_
  exact k _ _ rfl (Nat.le_of_ble_eq_true rfl) (Nat.le_of_ble_eq_true rfl) (Nat.le_of_ble_eq_true rfl)
set_option maxRecDepth 100000 in
set_option maxHeartbeats 40000000 in
theorem c_letter_lt_lt_v6 {xt : mj_X} {d : Nat} {h V : mj_H} (hn : h.length = 2) (hv : V.length = 25) {P : Option Value → mj_H → Prop} {p0 : Int32} {p1 : Int32} (hh0 : p0.toInt ≤ -1) (hh1 : p1.toInt ≤ -1) (k : ∀ U D, U.length = 100 → mj_sl U ≤ 20000 → D.length ≤ 10 → mj_sl D ≤ 2000 → P (some (.int (-1 : Int32))) (h ++ (U ++ (V ++ D)))) : pgE xt (d + 20) 11 5 false (Option.some FieldType.int) (mj_dec prog_1_method_18_code) 0 [(0, .ref 2), (1, .int p0), (2, .int p1), (3, .int (6 : Int32))] [] (h ++ (cT ++ (V ++ []))) P := by
  refine me1 (pc' := 1) dm_X11_letter_0 rfl rfl rfl rfl ?_
  refine me_1f (pc' := 4) dm_X11_letter_1 rfl (by decide) rfl ?_
  refine me1 (pc' := 5) dm_X11_letter_4 rfl rfl rfl rfl ?_
  refine me0 (pc' := 7) (S' := .int (8 : Int32) :: _) dm_X11_letter_5 rfl rfl rfl rfl ?_
  refine me_2t (pc' := 12) dm_X11_letter_7 rfl rfl ?_
  refine me1 (pc' := 13) dm_X11_letter_12 rfl rfl rfl rfl ?_
  refine me3 (pc' := 16) dm_X11_letter_13 (g_get (v := .ref 4) (lu (n := 2) (j := 0) hn rfl) rfl rfl (Nat.le_of_ble_eq_true rfl)) rfl rfl rfl ?_
  refine me1 (pc' := 17) dm_X11_letter_16 rfl rfl rfl rfl ?_
  refine me1 (pc' := 18) dm_X11_letter_17 rfl rfl rfl rfl ?_
  refine me4 (pc' := 21) (L0 := [(0, .ref 4), (1, .int p0), (2, .int p1)]) dm_X11_letter_18 rfl (g_inv (As := [.int p0, .int p1]) (lu (n := 2) (j := 2) hn rfl) rfl rfl rfl (Nat.le_of_ble_eq_true rfl)) pm_X2_keyAt rfl (Nat.le_of_ble_eq_true rfl) rfl rfl rfl ?_
  refine me1 (pc' := 1) dm_X2_keyAt_0 rfl rfl rfl rfl ?_
  refine me_1t (pc' := 13) dm_X2_keyAt_1 rfl (cn_t_lt (c := 0) rfl (by omega)) ?_
  refine me0 (pc' := 14) (S' := .long (0 : Int64) :: _) dm_X2_keyAt_13 rfl rfl rfl rfl ?_
  refine me5 dm_X2_keyAt_14 rfl rfl rfl ?_
  refine me1 (pc' := 22) dm_X11_letter_21 rfl rfl rfl rfl ?_
  refine me0 (pc' := 23) (S' := .int (5 : Int32) :: _) dm_X11_letter_22 rfl rfl rfl rfl ?_
  refine me0 (pc' := 24) (S' := .int (30 : Int32) :: _) dm_X11_letter_23 rfl rfl rfl rfl ?_
  refine me0 (pc' := 25) (S' := .long (0 : Int64) :: _) dm_X11_letter_24 rfl rfl rfl rfl ?_
  refine me0 (pc' := 26) (S' := .int (0 : Int32) :: _) dm_X11_letter_25 rfl rfl rfl rfl ?_
  refine me0 (pc' := 28) (S' := .int (31 : Int32) :: _) dm_X11_letter_26 rfl rfl rfl rfl ?_
  refine me0 (pc' := 29) (S' := .int (0 : Int32) :: _) dm_X11_letter_28 rfl rfl rfl rfl ?_
  refine me1 (pc' := 31) (L' := [(4, .int (0 : Int32)), (0, .ref 2), (1, .int p0), (2, .int p1), (3, .int (6 : Int32))]) dm_X11_letter_29 rfl rfl rfl rfl ?_
  refine me1 (pc' := 33) dm_X11_letter_31 rfl rfl rfl rfl ?_
  refine me_1f (pc' := 36) dm_X11_letter_33 rfl (by decide) rfl ?_
  refine me0 (pc' := 37) (S' := .int (-1 : Int32) :: _) dm_X11_letter_36 rfl rfl rfl rfl ?_
  refine me2 (pc' := 45) dm_X11_letter_37 rfl rfl rfl ?_
  refine me5 dm_X11_letter_45 rfl rfl rfl ?_
  exact k _ _ rfl (Nat.le_of_ble_eq_true rfl) (Nat.le_of_ble_eq_true rfl) (Nat.le_of_ble_eq_true rfl)
set_option maxRecDepth 100000 in
set_option maxHeartbeats 40000000 in
theorem c_letter_lt_lt_v7 {xt : mj_X} {d : Nat} {h V : mj_H} (hn : h.length = 2) (hv : V.length = 25) {P : Option Value → mj_H → Prop} {p0 : Int32} {p1 : Int32} (hh0 : p0.toInt ≤ -1) (hh1 : p1.toInt ≤ -1) (k : ∀ U D, U.length = 100 → mj_sl U ≤ 20000 → D.length ≤ 10 → mj_sl D ≤ 2000 → P (some (.int (-1 : Int32))) (h ++ (U ++ (V ++ D)))) : pgE xt (d + 20) 11 5 false (Option.some FieldType.int) (mj_dec prog_1_method_18_code) 0 [(0, .ref 2), (1, .int p0), (2, .int p1), (3, .int (7 : Int32))] [] (h ++ (cT ++ (V ++ []))) P := by
  refine me1 (pc' := 1) dm_X11_letter_0 rfl rfl rfl rfl ?_
  refine me_1f (pc' := 4) dm_X11_letter_1 rfl (by decide) rfl ?_
  refine me1 (pc' := 5) dm_X11_letter_4 rfl rfl rfl rfl ?_
  refine me0 (pc' := 7) (S' := .int (8 : Int32) :: _) dm_X11_letter_5 rfl rfl rfl rfl ?_
  refine me_2t (pc' := 12) dm_X11_letter_7 rfl rfl ?_
  refine me1 (pc' := 13) dm_X11_letter_12 rfl rfl rfl rfl ?_
  refine me3 (pc' := 16) dm_X11_letter_13 (g_get (v := .ref 4) (lu (n := 2) (j := 0) hn rfl) rfl rfl (Nat.le_of_ble_eq_true rfl)) rfl rfl rfl ?_
  refine me1 (pc' := 17) dm_X11_letter_16 rfl rfl rfl rfl ?_
  refine me1 (pc' := 18) dm_X11_letter_17 rfl rfl rfl rfl ?_
  refine me4 (pc' := 21) (L0 := [(0, .ref 4), (1, .int p0), (2, .int p1)]) dm_X11_letter_18 rfl (g_inv (As := [.int p0, .int p1]) (lu (n := 2) (j := 2) hn rfl) rfl rfl rfl (Nat.le_of_ble_eq_true rfl)) pm_X2_keyAt rfl (Nat.le_of_ble_eq_true rfl) rfl rfl rfl ?_
  refine me1 (pc' := 1) dm_X2_keyAt_0 rfl rfl rfl rfl ?_
  refine me_1t (pc' := 13) dm_X2_keyAt_1 rfl (cn_t_lt (c := 0) rfl (by omega)) ?_
  refine me0 (pc' := 14) (S' := .long (0 : Int64) :: _) dm_X2_keyAt_13 rfl rfl rfl rfl ?_
  refine me5 dm_X2_keyAt_14 rfl rfl rfl ?_
  refine me1 (pc' := 22) dm_X11_letter_21 rfl rfl rfl rfl ?_
  refine me0 (pc' := 23) (S' := .int (5 : Int32) :: _) dm_X11_letter_22 rfl rfl rfl rfl ?_
  refine me0 (pc' := 24) (S' := .int (35 : Int32) :: _) dm_X11_letter_23 rfl rfl rfl rfl ?_
  refine me0 (pc' := 25) (S' := .long (0 : Int64) :: _) dm_X11_letter_24 rfl rfl rfl rfl ?_
  refine me0 (pc' := 26) (S' := .int (0 : Int32) :: _) dm_X11_letter_25 rfl rfl rfl rfl ?_
  refine me0 (pc' := 28) (S' := .int (31 : Int32) :: _) dm_X11_letter_26 rfl rfl rfl rfl ?_
  refine me0 (pc' := 29) (S' := .int (0 : Int32) :: _) dm_X11_letter_28 rfl rfl rfl rfl ?_
  refine me1 (pc' := 31) (L' := [(4, .int (0 : Int32)), (0, .ref 2), (1, .int p0), (2, .int p1), (3, .int (7 : Int32))]) dm_X11_letter_29 rfl rfl rfl rfl ?_
  refine me1 (pc' := 33) dm_X11_letter_31 rfl rfl rfl rfl ?_
  refine me_1f (pc' := 36) dm_X11_letter_33 rfl (by decide) rfl ?_
  refine me0 (pc' := 37) (S' := .int (-1 : Int32) :: _) dm_X11_letter_36 rfl rfl rfl rfl ?_
  refine me2 (pc' := 45) dm_X11_letter_37 rfl rfl rfl ?_
  refine me5 dm_X11_letter_45 rfl rfl rfl ?_
  exact k _ _ rfl (Nat.le_of_ble_eq_true rfl) (Nat.le_of_ble_eq_true rfl) (Nat.le_of_ble_eq_true rfl)
set_option maxRecDepth 100000 in
set_option maxHeartbeats 40000000 in
theorem c_letter_lt_lt_ge {xt : mj_X} {d : Nat} {h V : mj_H} (hn : h.length = 2) (hv : V.length = 25) {P : Option Value → mj_H → Prop} {p0 : Int32} {p1 : Int32} {p2 : Int32} (hh0 : p0.toInt ≤ -1) (hh1 : p1.toInt ≤ -1) (hl2 : 8 ≤ p2.toInt) (k : ∀ U D, U.length = 100 → mj_sl U ≤ 20000 → D.length ≤ 10 → mj_sl D ≤ 2000 → P (some (.int (-1 : Int32))) (h ++ (U ++ (V ++ D)))) : pgE xt (d + 20) 11 5 false (Option.some FieldType.int) (mj_dec prog_1_method_18_code) 0 [(0, .ref 2), (1, .int p0), (2, .int p1), (3, .int p2)] [] (h ++ (cT ++ (V ++ []))) P := by
  refine me1 (pc' := 1) dm_X11_letter_0 rfl rfl rfl rfl ?_
  refine me_1f (pc' := 4) dm_X11_letter_1 rfl (cn_f_lt (c := 0) rfl (by omega)) rfl ?_
  refine me1 (pc' := 5) dm_X11_letter_4 rfl rfl rfl rfl ?_
  refine me0 (pc' := 7) (S' := .int (8 : Int32) :: _) dm_X11_letter_5 rfl rfl rfl rfl ?_
  refine me_2f (pc' := 10) dm_X11_letter_7 rfl (cn_f_lt (c := 8) rfl (by omega)) rfl ?_
  refine me0 (pc' := 11) (S' := .int (-1 : Int32) :: _) dm_X11_letter_10 rfl rfl rfl rfl ?_
  refine me5 dm_X11_letter_11 rfl rfl rfl ?_
  exact k _ _ rfl (Nat.le_of_ble_eq_true rfl) (Nat.le_of_ble_eq_true rfl) (Nat.le_of_ble_eq_true rfl)
set_option maxRecDepth 100000 in
set_option maxHeartbeats 40000000 in
theorem c_letter_lt_ge_lt {xt : mj_X} {d : Nat} {h V : mj_H} (hn : h.length = 2) (hv : V.length = 25) {P : Option Value → mj_H → Prop} {p0 : Int32} {p1 : Int32} {p2 : Int32} (hh0 : p0.toInt ≤ -1) (hl1 : 0 ≤ p1.toInt) (hh2 : p2.toInt ≤ -1) (k : ∀ U D, U.length = 100 → mj_sl U ≤ 20000 → D.length ≤ 10 → mj_sl D ≤ 2000 → P (some (.int (-1 : Int32))) (h ++ (U ++ (V ++ D)))) : pgE xt (d + 20) 11 5 false (Option.some FieldType.int) (mj_dec prog_1_method_18_code) 0 [(0, .ref 2), (1, .int p0), (2, .int p1), (3, .int p2)] [] (h ++ (cT ++ (V ++ []))) P := by
  refine me1 (pc' := 1) dm_X11_letter_0 rfl rfl rfl rfl ?_
  refine me_1t (pc' := 10) dm_X11_letter_1 rfl (cn_t_lt (c := 0) rfl (by omega)) ?_
  refine me0 (pc' := 11) (S' := .int (-1 : Int32) :: _) dm_X11_letter_10 rfl rfl rfl rfl ?_
  refine me5 dm_X11_letter_11 rfl rfl rfl ?_
  exact k _ _ rfl (Nat.le_of_ble_eq_true rfl) (Nat.le_of_ble_eq_true rfl) (Nat.le_of_ble_eq_true rfl)
set_option maxRecDepth 100000 in
set_option maxHeartbeats 40000000 in
theorem c_letter_lt_ge_v0 {xt : mj_X} {d : Nat} {h V : mj_H} (hn : h.length = 2) (hv : V.length = 25) {P : Option Value → mj_H → Prop} {p0 : Int32} {p1 : Int32} (hh0 : p0.toInt ≤ -1) (hl1 : 0 ≤ p1.toInt) (k : ∀ U D, U.length = 100 → mj_sl U ≤ 20000 → D.length ≤ 10 → mj_sl D ≤ 2000 → P (some (.int (-1 : Int32))) (h ++ (U ++ (V ++ D)))) : pgE xt (d + 20) 11 5 false (Option.some FieldType.int) (mj_dec prog_1_method_18_code) 0 [(0, .ref 2), (1, .int p0), (2, .int p1), (3, .int (0 : Int32))] [] (h ++ (cT ++ (V ++ []))) P := by
  refine me1 (pc' := 1) dm_X11_letter_0 rfl rfl rfl rfl ?_
  refine me_1f (pc' := 4) dm_X11_letter_1 rfl (by decide) rfl ?_
  refine me1 (pc' := 5) dm_X11_letter_4 rfl rfl rfl rfl ?_
  refine me0 (pc' := 7) (S' := .int (8 : Int32) :: _) dm_X11_letter_5 rfl rfl rfl rfl ?_
  refine me_2t (pc' := 12) dm_X11_letter_7 rfl rfl ?_
  refine me1 (pc' := 13) dm_X11_letter_12 rfl rfl rfl rfl ?_
  refine me3 (pc' := 16) dm_X11_letter_13 (g_get (v := .ref 4) (lu (n := 2) (j := 0) hn rfl) rfl rfl (Nat.le_of_ble_eq_true rfl)) rfl rfl rfl ?_
  refine me1 (pc' := 17) dm_X11_letter_16 rfl rfl rfl rfl ?_
  refine me1 (pc' := 18) dm_X11_letter_17 rfl rfl rfl rfl ?_
  refine me4 (pc' := 21) (L0 := [(0, .ref 4), (1, .int p0), (2, .int p1)]) dm_X11_letter_18 rfl (g_inv (As := [.int p0, .int p1]) (lu (n := 2) (j := 2) hn rfl) rfl rfl rfl (Nat.le_of_ble_eq_true rfl)) pm_X2_keyAt rfl (Nat.le_of_ble_eq_true rfl) rfl rfl rfl ?_
  refine me1 (pc' := 1) dm_X2_keyAt_0 rfl rfl rfl rfl ?_
  refine me_1f (pc' := 4) dm_X2_keyAt_1 rfl (cn_f_lt (c := 0) rfl (by omega)) rfl ?_
  refine me1 (pc' := 5) dm_X2_keyAt_4 rfl rfl rfl rfl ?_
  refine me1 (pc' := 6) dm_X2_keyAt_5 rfl rfl rfl rfl ?_
  refine me1 (pc' := 7) dm_X2_keyAt_6 rfl rfl rfl rfl ?_
  refine me4 (pc' := 10) (L0 := [(0, .ref 4), (1, .int p0)]) dm_X2_keyAt_7 rfl (g_inv (As := [.int p0]) (lu (n := 2) (j := 2) hn rfl) rfl rfl rfl (Nat.le_of_ble_eq_true rfl)) pm_X2_howMany rfl (Nat.le_of_ble_eq_true rfl) rfl rfl rfl ?_
  refine me1 (pc' := 1) dm_X2_howMany_0 rfl rfl rfl rfl ?_
  refine me_1t (pc' := 9) dm_X2_howMany_1 rfl (cn_t_ne (c := 0) rfl (by omega)) ?_
  refine me1 (pc' := 10) dm_X2_howMany_9 rfl rfl rfl rfl ?_
  refine me0 (pc' := 11) (S' := .int (1 : Int32) :: _) dm_X2_howMany_10 rfl rfl rfl rfl ?_
  refine me_2t (pc' := 21) dm_X2_howMany_11 rfl (cn_t_ne (c := 1) rfl (by omega)) ?_
  refine me0 (pc' := 22) (S' := .int (-1 : Int32) :: _) dm_X2_howMany_21 rfl rfl rfl rfl ?_
  refine me5 dm_X2_howMany_22 rfl rfl rfl ?_
  refine me_2f (pc' := 13) dm_X2_keyAt_10 rfl (cn_f_lt (c := -1) rfl (by omega)) rfl ?_
  refine me0 (pc' := 14) (S' := .long (0 : Int64) :: _) dm_X2_keyAt_13 rfl rfl rfl rfl ?_
  refine me5 dm_X2_keyAt_14 rfl rfl rfl ?_
  refine me1 (pc' := 22) dm_X11_letter_21 rfl rfl rfl rfl ?_
  refine me0 (pc' := 23) (S' := .int (5 : Int32) :: _) dm_X11_letter_22 rfl rfl rfl rfl ?_
  refine me0 (pc' := 24) (S' := .int (0 : Int32) :: _) dm_X11_letter_23 rfl rfl rfl rfl ?_
  refine me0 (pc' := 25) (S' := .long (0 : Int64) :: _) dm_X11_letter_24 rfl rfl rfl rfl ?_
  refine me0 (pc' := 26) (S' := .int (0 : Int32) :: _) dm_X11_letter_25 rfl rfl rfl rfl ?_
  refine me0 (pc' := 28) (S' := .int (31 : Int32) :: _) dm_X11_letter_26 rfl rfl rfl rfl ?_
  refine me0 (pc' := 29) (S' := .int (0 : Int32) :: _) dm_X11_letter_28 rfl rfl rfl rfl ?_
  refine me1 (pc' := 31) (L' := [(4, .int (0 : Int32)), (0, .ref 2), (1, .int p0), (2, .int p1), (3, .int (0 : Int32))]) dm_X11_letter_29 rfl rfl rfl rfl ?_
  refine me1 (pc' := 33) dm_X11_letter_31 rfl rfl rfl rfl ?_
  refine me_1f (pc' := 36) dm_X11_letter_33 rfl (by decide) rfl ?_
  refine me0 (pc' := 37) (S' := .int (-1 : Int32) :: _) dm_X11_letter_36 rfl rfl rfl rfl ?_
  refine me2 (pc' := 45) dm_X11_letter_37 rfl rfl rfl ?_
  refine me5 dm_X11_letter_45 rfl rfl rfl ?_
  exact k _ _ rfl (Nat.le_of_ble_eq_true rfl) (Nat.le_of_ble_eq_true rfl) (Nat.le_of_ble_eq_true rfl)
set_option maxRecDepth 100000 in
set_option maxHeartbeats 40000000 in
theorem c_letter_lt_ge_v1 {xt : mj_X} {d : Nat} {h V : mj_H} (hn : h.length = 2) (hv : V.length = 25) {P : Option Value → mj_H → Prop} {p0 : Int32} {p1 : Int32} (hh0 : p0.toInt ≤ -1) (hl1 : 0 ≤ p1.toInt) (k : ∀ U D, U.length = 100 → mj_sl U ≤ 20000 → D.length ≤ 10 → mj_sl D ≤ 2000 → P (some (.int (-1 : Int32))) (h ++ (U ++ (V ++ D)))) : pgE xt (d + 20) 11 5 false (Option.some FieldType.int) (mj_dec prog_1_method_18_code) 0 [(0, .ref 2), (1, .int p0), (2, .int p1), (3, .int (1 : Int32))] [] (h ++ (cT ++ (V ++ []))) P := by
  refine me1 (pc' := 1) dm_X11_letter_0 rfl rfl rfl rfl ?_
  refine me_1f (pc' := 4) dm_X11_letter_1 rfl (by decide) rfl ?_
  refine me1 (pc' := 5) dm_X11_letter_4 rfl rfl rfl rfl ?_
  refine me0 (pc' := 7) (S' := .int (8 : Int32) :: _) dm_X11_letter_5 rfl rfl rfl rfl ?_
  refine me_2t (pc' := 12) dm_X11_letter_7 rfl rfl ?_
  refine me1 (pc' := 13) dm_X11_letter_12 rfl rfl rfl rfl ?_
  refine me3 (pc' := 16) dm_X11_letter_13 (g_get (v := .ref 4) (lu (n := 2) (j := 0) hn rfl) rfl rfl (Nat.le_of_ble_eq_true rfl)) rfl rfl rfl ?_
  refine me1 (pc' := 17) dm_X11_letter_16 rfl rfl rfl rfl ?_
  refine me1 (pc' := 18) dm_X11_letter_17 rfl rfl rfl rfl ?_
  refine me4 (pc' := 21) (L0 := [(0, .ref 4), (1, .int p0), (2, .int p1)]) dm_X11_letter_18 rfl (g_inv (As := [.int p0, .int p1]) (lu (n := 2) (j := 2) hn rfl) rfl rfl rfl (Nat.le_of_ble_eq_true rfl)) pm_X2_keyAt rfl (Nat.le_of_ble_eq_true rfl) rfl rfl rfl ?_
  refine me1 (pc' := 1) dm_X2_keyAt_0 rfl rfl rfl rfl ?_
  refine me_1f (pc' := 4) dm_X2_keyAt_1 rfl (cn_f_lt (c := 0) rfl (by omega)) rfl ?_
  refine me1 (pc' := 5) dm_X2_keyAt_4 rfl rfl rfl rfl ?_
  refine me1 (pc' := 6) dm_X2_keyAt_5 rfl rfl rfl rfl ?_
  refine me1 (pc' := 7) dm_X2_keyAt_6 rfl rfl rfl rfl ?_
  refine me4 (pc' := 10) (L0 := [(0, .ref 4), (1, .int p0)]) dm_X2_keyAt_7 rfl (g_inv (As := [.int p0]) (lu (n := 2) (j := 2) hn rfl) rfl rfl rfl (Nat.le_of_ble_eq_true rfl)) pm_X2_howMany rfl (Nat.le_of_ble_eq_true rfl) rfl rfl rfl ?_
  refine me1 (pc' := 1) dm_X2_howMany_0 rfl rfl rfl rfl ?_
  refine me_1t (pc' := 9) dm_X2_howMany_1 rfl (cn_t_ne (c := 0) rfl (by omega)) ?_
  refine me1 (pc' := 10) dm_X2_howMany_9 rfl rfl rfl rfl ?_
  refine me0 (pc' := 11) (S' := .int (1 : Int32) :: _) dm_X2_howMany_10 rfl rfl rfl rfl ?_
  refine me_2t (pc' := 21) dm_X2_howMany_11 rfl (cn_t_ne (c := 1) rfl (by omega)) ?_
  refine me0 (pc' := 22) (S' := .int (-1 : Int32) :: _) dm_X2_howMany_21 rfl rfl rfl rfl ?_
  refine me5 dm_X2_howMany_22 rfl rfl rfl ?_
  refine me_2f (pc' := 13) dm_X2_keyAt_10 rfl (cn_f_lt (c := -1) rfl (by omega)) rfl ?_
  refine me0 (pc' := 14) (S' := .long (0 : Int64) :: _) dm_X2_keyAt_13 rfl rfl rfl rfl ?_
  refine me5 dm_X2_keyAt_14 rfl rfl rfl ?_
  refine me1 (pc' := 22) dm_X11_letter_21 rfl rfl rfl rfl ?_
  refine me0 (pc' := 23) (S' := .int (5 : Int32) :: _) dm_X11_letter_22 rfl rfl rfl rfl ?_
  refine me0 (pc' := 24) (S' := .int (5 : Int32) :: _) dm_X11_letter_23 rfl rfl rfl rfl ?_
  refine me0 (pc' := 25) (S' := .long (0 : Int64) :: _) dm_X11_letter_24 rfl rfl rfl rfl ?_
  refine me0 (pc' := 26) (S' := .int (0 : Int32) :: _) dm_X11_letter_25 rfl rfl rfl rfl ?_
  refine me0 (pc' := 28) (S' := .int (31 : Int32) :: _) dm_X11_letter_26 rfl rfl rfl rfl ?_
  refine me0 (pc' := 29) (S' := .int (0 : Int32) :: _) dm_X11_letter_28 rfl rfl rfl rfl ?_
  refine me1 (pc' := 31) (L' := [(4, .int (0 : Int32)), (0, .ref 2), (1, .int p0), (2, .int p1), (3, .int (1 : Int32))]) dm_X11_letter_29 rfl rfl rfl rfl ?_
  refine me1 (pc' := 33) dm_X11_letter_31 rfl rfl rfl rfl ?_
  refine me_1f (pc' := 36) dm_X11_letter_33 rfl (by decide) rfl ?_
  refine me0 (pc' := 37) (S' := .int (-1 : Int32) :: _) dm_X11_letter_36 rfl rfl rfl rfl ?_
  refine me2 (pc' := 45) dm_X11_letter_37 rfl rfl rfl ?_
  refine me5 dm_X11_letter_45 rfl rfl rfl ?_
  exact k _ _ rfl (Nat.le_of_ble_eq_true rfl) (Nat.le_of_ble_eq_true rfl) (Nat.le_of_ble_eq_true rfl)
set_option maxRecDepth 100000 in
set_option maxHeartbeats 40000000 in
theorem c_letter_lt_ge_v2 {xt : mj_X} {d : Nat} {h V : mj_H} (hn : h.length = 2) (hv : V.length = 25) {P : Option Value → mj_H → Prop} {p0 : Int32} {p1 : Int32} (hh0 : p0.toInt ≤ -1) (hl1 : 0 ≤ p1.toInt) (k : ∀ U D, U.length = 100 → mj_sl U ≤ 20000 → D.length ≤ 10 → mj_sl D ≤ 2000 → P (some (.int (-1 : Int32))) (h ++ (U ++ (V ++ D)))) : pgE xt (d + 20) 11 5 false (Option.some FieldType.int) (mj_dec prog_1_method_18_code) 0 [(0, .ref 2), (1, .int p0), (2, .int p1), (3, .int (2 : Int32))] [] (h ++ (cT ++ (V ++ []))) P := by
  refine me1 (pc' := 1) dm_X11_letter_0 rfl rfl rfl rfl ?_
  refine me_1f (pc' := 4) dm_X11_letter_1 rfl (by decide) rfl ?_
  refine me1 (pc' := 5) dm_X11_letter_4 rfl rfl rfl rfl ?_
  refine me0 (pc' := 7) (S' := .int (8 : Int32) :: _) dm_X11_letter_5 rfl rfl rfl rfl ?_
  refine me_2t (pc' := 12) dm_X11_letter_7 rfl rfl ?_
  refine me1 (pc' := 13) dm_X11_letter_12 rfl rfl rfl rfl ?_
  refine me3 (pc' := 16) dm_X11_letter_13 (g_get (v := .ref 4) (lu (n := 2) (j := 0) hn rfl) rfl rfl (Nat.le_of_ble_eq_true rfl)) rfl rfl rfl ?_
  refine me1 (pc' := 17) dm_X11_letter_16 rfl rfl rfl rfl ?_
  refine me1 (pc' := 18) dm_X11_letter_17 rfl rfl rfl rfl ?_
  refine me4 (pc' := 21) (L0 := [(0, .ref 4), (1, .int p0), (2, .int p1)]) dm_X11_letter_18 rfl (g_inv (As := [.int p0, .int p1]) (lu (n := 2) (j := 2) hn rfl) rfl rfl rfl (Nat.le_of_ble_eq_true rfl)) pm_X2_keyAt rfl (Nat.le_of_ble_eq_true rfl) rfl rfl rfl ?_
  refine me1 (pc' := 1) dm_X2_keyAt_0 rfl rfl rfl rfl ?_
  refine me_1f (pc' := 4) dm_X2_keyAt_1 rfl (cn_f_lt (c := 0) rfl (by omega)) rfl ?_
  refine me1 (pc' := 5) dm_X2_keyAt_4 rfl rfl rfl rfl ?_
  refine me1 (pc' := 6) dm_X2_keyAt_5 rfl rfl rfl rfl ?_
  refine me1 (pc' := 7) dm_X2_keyAt_6 rfl rfl rfl rfl ?_
  refine me4 (pc' := 10) (L0 := [(0, .ref 4), (1, .int p0)]) dm_X2_keyAt_7 rfl (g_inv (As := [.int p0]) (lu (n := 2) (j := 2) hn rfl) rfl rfl rfl (Nat.le_of_ble_eq_true rfl)) pm_X2_howMany rfl (Nat.le_of_ble_eq_true rfl) rfl rfl rfl ?_
  refine me1 (pc' := 1) dm_X2_howMany_0 rfl rfl rfl rfl ?_
  refine me_1t (pc' := 9) dm_X2_howMany_1 rfl (cn_t_ne (c := 0) rfl (by omega)) ?_
  refine me1 (pc' := 10) dm_X2_howMany_9 rfl rfl rfl rfl ?_
  refine me0 (pc' := 11) (S' := .int (1 : Int32) :: _) dm_X2_howMany_10 rfl rfl rfl rfl ?_
  refine me_2t (pc' := 21) dm_X2_howMany_11 rfl (cn_t_ne (c := 1) rfl (by omega)) ?_
  refine me0 (pc' := 22) (S' := .int (-1 : Int32) :: _) dm_X2_howMany_21 rfl rfl rfl rfl ?_
  refine me5 dm_X2_howMany_22 rfl rfl rfl ?_
  refine me_2f (pc' := 13) dm_X2_keyAt_10 rfl (cn_f_lt (c := -1) rfl (by omega)) rfl ?_
  refine me0 (pc' := 14) (S' := .long (0 : Int64) :: _) dm_X2_keyAt_13 rfl rfl rfl rfl ?_
  refine me5 dm_X2_keyAt_14 rfl rfl rfl ?_
  refine me1 (pc' := 22) dm_X11_letter_21 rfl rfl rfl rfl ?_
  refine me0 (pc' := 23) (S' := .int (5 : Int32) :: _) dm_X11_letter_22 rfl rfl rfl rfl ?_
  refine me0 (pc' := 24) (S' := .int (10 : Int32) :: _) dm_X11_letter_23 rfl rfl rfl rfl ?_
  refine me0 (pc' := 25) (S' := .long (0 : Int64) :: _) dm_X11_letter_24 rfl rfl rfl rfl ?_
  refine me0 (pc' := 26) (S' := .int (0 : Int32) :: _) dm_X11_letter_25 rfl rfl rfl rfl ?_
  refine me0 (pc' := 28) (S' := .int (31 : Int32) :: _) dm_X11_letter_26 rfl rfl rfl rfl ?_
  refine me0 (pc' := 29) (S' := .int (0 : Int32) :: _) dm_X11_letter_28 rfl rfl rfl rfl ?_
  refine me1 (pc' := 31) (L' := [(4, .int (0 : Int32)), (0, .ref 2), (1, .int p0), (2, .int p1), (3, .int (2 : Int32))]) dm_X11_letter_29 rfl rfl rfl rfl ?_
  refine me1 (pc' := 33) dm_X11_letter_31 rfl rfl rfl rfl ?_
  refine me_1f (pc' := 36) dm_X11_letter_33 rfl (by decide) rfl ?_
  refine me0 (pc' := 37) (S' := .int (-1 : Int32) :: _) dm_X11_letter_36 rfl rfl rfl rfl ?_
  refine me2 (pc' := 45) dm_X11_letter_37 rfl rfl rfl ?_
  refine me5 dm_X11_letter_45 rfl rfl rfl ?_
  exact k _ _ rfl (Nat.le_of_ble_eq_true rfl) (Nat.le_of_ble_eq_true rfl) (Nat.le_of_ble_eq_true rfl)
set_option maxRecDepth 100000 in
set_option maxHeartbeats 40000000 in
theorem c_letter_lt_ge_v3 {xt : mj_X} {d : Nat} {h V : mj_H} (hn : h.length = 2) (hv : V.length = 25) {P : Option Value → mj_H → Prop} {p0 : Int32} {p1 : Int32} (hh0 : p0.toInt ≤ -1) (hl1 : 0 ≤ p1.toInt) (k : ∀ U D, U.length = 100 → mj_sl U ≤ 20000 → D.length ≤ 10 → mj_sl D ≤ 2000 → P (some (.int (-1 : Int32))) (h ++ (U ++ (V ++ D)))) : pgE xt (d + 20) 11 5 false (Option.some FieldType.int) (mj_dec prog_1_method_18_code) 0 [(0, .ref 2), (1, .int p0), (2, .int p1), (3, .int (3 : Int32))] [] (h ++ (cT ++ (V ++ []))) P := by
  refine me1 (pc' := 1) dm_X11_letter_0 rfl rfl rfl rfl ?_
  refine me_1f (pc' := 4) dm_X11_letter_1 rfl (by decide) rfl ?_
  refine me1 (pc' := 5) dm_X11_letter_4 rfl rfl rfl rfl ?_
  refine me0 (pc' := 7) (S' := .int (8 : Int32) :: _) dm_X11_letter_5 rfl rfl rfl rfl ?_
  refine me_2t (pc' := 12) dm_X11_letter_7 rfl rfl ?_
  refine me1 (pc' := 13) dm_X11_letter_12 rfl rfl rfl rfl ?_
  refine me3 (pc' := 16) dm_X11_letter_13 (g_get (v := .ref 4) (lu (n := 2) (j := 0) hn rfl) rfl rfl (Nat.le_of_ble_eq_true rfl)) rfl rfl rfl ?_
  refine me1 (pc' := 17) dm_X11_letter_16 rfl rfl rfl rfl ?_
  refine me1 (pc' := 18) dm_X11_letter_17 rfl rfl rfl rfl ?_
  refine me4 (pc' := 21) (L0 := [(0, .ref 4), (1, .int p0), (2, .int p1)]) dm_X11_letter_18 rfl (g_inv (As := [.int p0, .int p1]) (lu (n := 2) (j := 2) hn rfl) rfl rfl rfl (Nat.le_of_ble_eq_true rfl)) pm_X2_keyAt rfl (Nat.le_of_ble_eq_true rfl) rfl rfl rfl ?_
  refine me1 (pc' := 1) dm_X2_keyAt_0 rfl rfl rfl rfl ?_
  refine me_1f (pc' := 4) dm_X2_keyAt_1 rfl (cn_f_lt (c := 0) rfl (by omega)) rfl ?_
  refine me1 (pc' := 5) dm_X2_keyAt_4 rfl rfl rfl rfl ?_
  refine me1 (pc' := 6) dm_X2_keyAt_5 rfl rfl rfl rfl ?_
  refine me1 (pc' := 7) dm_X2_keyAt_6 rfl rfl rfl rfl ?_
  refine me4 (pc' := 10) (L0 := [(0, .ref 4), (1, .int p0)]) dm_X2_keyAt_7 rfl (g_inv (As := [.int p0]) (lu (n := 2) (j := 2) hn rfl) rfl rfl rfl (Nat.le_of_ble_eq_true rfl)) pm_X2_howMany rfl (Nat.le_of_ble_eq_true rfl) rfl rfl rfl ?_
  refine me1 (pc' := 1) dm_X2_howMany_0 rfl rfl rfl rfl ?_
  refine me_1t (pc' := 9) dm_X2_howMany_1 rfl (cn_t_ne (c := 0) rfl (by omega)) ?_
  refine me1 (pc' := 10) dm_X2_howMany_9 rfl rfl rfl rfl ?_
  refine me0 (pc' := 11) (S' := .int (1 : Int32) :: _) dm_X2_howMany_10 rfl rfl rfl rfl ?_
  refine me_2t (pc' := 21) dm_X2_howMany_11 rfl (cn_t_ne (c := 1) rfl (by omega)) ?_
  refine me0 (pc' := 22) (S' := .int (-1 : Int32) :: _) dm_X2_howMany_21 rfl rfl rfl rfl ?_
  refine me5 dm_X2_howMany_22 rfl rfl rfl ?_
  refine me_2f (pc' := 13) dm_X2_keyAt_10 rfl (cn_f_lt (c := -1) rfl (by omega)) rfl ?_
  refine me0 (pc' := 14) (S' := .long (0 : Int64) :: _) dm_X2_keyAt_13 rfl rfl rfl rfl ?_
  refine me5 dm_X2_keyAt_14 rfl rfl rfl ?_
  refine me1 (pc' := 22) dm_X11_letter_21 rfl rfl rfl rfl ?_
  refine me0 (pc' := 23) (S' := .int (5 : Int32) :: _) dm_X11_letter_22 rfl rfl rfl rfl ?_
  refine me0 (pc' := 24) (S' := .int (15 : Int32) :: _) dm_X11_letter_23 rfl rfl rfl rfl ?_
  refine me0 (pc' := 25) (S' := .long (0 : Int64) :: _) dm_X11_letter_24 rfl rfl rfl rfl ?_
  refine me0 (pc' := 26) (S' := .int (0 : Int32) :: _) dm_X11_letter_25 rfl rfl rfl rfl ?_
  refine me0 (pc' := 28) (S' := .int (31 : Int32) :: _) dm_X11_letter_26 rfl rfl rfl rfl ?_
  refine me0 (pc' := 29) (S' := .int (0 : Int32) :: _) dm_X11_letter_28 rfl rfl rfl rfl ?_
  refine me1 (pc' := 31) (L' := [(4, .int (0 : Int32)), (0, .ref 2), (1, .int p0), (2, .int p1), (3, .int (3 : Int32))]) dm_X11_letter_29 rfl rfl rfl rfl ?_
  refine me1 (pc' := 33) dm_X11_letter_31 rfl rfl rfl rfl ?_
  refine me_1f (pc' := 36) dm_X11_letter_33 rfl (by decide) rfl ?_
  refine me0 (pc' := 37) (S' := .int (-1 : Int32) :: _) dm_X11_letter_36 rfl rfl rfl rfl ?_
  refine me2 (pc' := 45) dm_X11_letter_37 rfl rfl rfl ?_
  refine me5 dm_X11_letter_45 rfl rfl rfl ?_
  exact k _ _ rfl (Nat.le_of_ble_eq_true rfl) (Nat.le_of_ble_eq_true rfl) (Nat.le_of_ble_eq_true rfl)
set_option maxRecDepth 100000 in
set_option maxHeartbeats 40000000 in
theorem c_letter_lt_ge_v4 {xt : mj_X} {d : Nat} {h V : mj_H} (hn : h.length = 2) (hv : V.length = 25) {P : Option Value → mj_H → Prop} {p0 : Int32} {p1 : Int32} (hh0 : p0.toInt ≤ -1) (hl1 : 0 ≤ p1.toInt) (k : ∀ U D, U.length = 100 → mj_sl U ≤ 20000 → D.length ≤ 10 → mj_sl D ≤ 2000 → P (some (.int (-1 : Int32))) (h ++ (U ++ (V ++ D)))) : pgE xt (d + 20) 11 5 false (Option.some FieldType.int) (mj_dec prog_1_method_18_code) 0 [(0, .ref 2), (1, .int p0), (2, .int p1), (3, .int (4 : Int32))] [] (h ++ (cT ++ (V ++ []))) P := by
  refine me1 (pc' := 1) dm_X11_letter_0 rfl rfl rfl rfl ?_
  refine me_1f (pc' := 4) dm_X11_letter_1 rfl (by decide) rfl ?_
  refine me1 (pc' := 5) dm_X11_letter_4 rfl rfl rfl rfl ?_
  refine me0 (pc' := 7) (S' := .int (8 : Int32) :: _) dm_X11_letter_5 rfl rfl rfl rfl ?_
  refine me_2t (pc' := 12) dm_X11_letter_7 rfl rfl ?_
  refine me1 (pc' := 13) dm_X11_letter_12 rfl rfl rfl rfl ?_
  refine me3 (pc' := 16) dm_X11_letter_13 (g_get (v := .ref 4) (lu (n := 2) (j := 0) hn rfl) rfl rfl (Nat.le_of_ble_eq_true rfl)) rfl rfl rfl ?_
  refine me1 (pc' := 17) dm_X11_letter_16 rfl rfl rfl rfl ?_
  refine me1 (pc' := 18) dm_X11_letter_17 rfl rfl rfl rfl ?_
  refine me4 (pc' := 21) (L0 := [(0, .ref 4), (1, .int p0), (2, .int p1)]) dm_X11_letter_18 rfl (g_inv (As := [.int p0, .int p1]) (lu (n := 2) (j := 2) hn rfl) rfl rfl rfl (Nat.le_of_ble_eq_true rfl)) pm_X2_keyAt rfl (Nat.le_of_ble_eq_true rfl) rfl rfl rfl ?_
  refine me1 (pc' := 1) dm_X2_keyAt_0 rfl rfl rfl rfl ?_
  refine me_1f (pc' := 4) dm_X2_keyAt_1 rfl (cn_f_lt (c := 0) rfl (by omega)) rfl ?_
  refine me1 (pc' := 5) dm_X2_keyAt_4 rfl rfl rfl rfl ?_
  refine me1 (pc' := 6) dm_X2_keyAt_5 rfl rfl rfl rfl ?_
  refine me1 (pc' := 7) dm_X2_keyAt_6 rfl rfl rfl rfl ?_
  refine me4 (pc' := 10) (L0 := [(0, .ref 4), (1, .int p0)]) dm_X2_keyAt_7 rfl (g_inv (As := [.int p0]) (lu (n := 2) (j := 2) hn rfl) rfl rfl rfl (Nat.le_of_ble_eq_true rfl)) pm_X2_howMany rfl (Nat.le_of_ble_eq_true rfl) rfl rfl rfl ?_
  refine me1 (pc' := 1) dm_X2_howMany_0 rfl rfl rfl rfl ?_
  refine me_1t (pc' := 9) dm_X2_howMany_1 rfl (cn_t_ne (c := 0) rfl (by omega)) ?_
  refine me1 (pc' := 10) dm_X2_howMany_9 rfl rfl rfl rfl ?_
  refine me0 (pc' := 11) (S' := .int (1 : Int32) :: _) dm_X2_howMany_10 rfl rfl rfl rfl ?_
  refine me_2t (pc' := 21) dm_X2_howMany_11 rfl (cn_t_ne (c := 1) rfl (by omega)) ?_
  refine me0 (pc' := 22) (S' := .int (-1 : Int32) :: _) dm_X2_howMany_21 rfl rfl rfl rfl ?_
  refine me5 dm_X2_howMany_22 rfl rfl rfl ?_
  refine me_2f (pc' := 13) dm_X2_keyAt_10 rfl (cn_f_lt (c := -1) rfl (by omega)) rfl ?_
  refine me0 (pc' := 14) (S' := .long (0 : Int64) :: _) dm_X2_keyAt_13 rfl rfl rfl rfl ?_
  refine me5 dm_X2_keyAt_14 rfl rfl rfl ?_
  refine me1 (pc' := 22) dm_X11_letter_21 rfl rfl rfl rfl ?_
  refine me0 (pc' := 23) (S' := .int (5 : Int32) :: _) dm_X11_letter_22 rfl rfl rfl rfl ?_
  refine me0 (pc' := 24) (S' := .int (20 : Int32) :: _) dm_X11_letter_23 rfl rfl rfl rfl ?_
  refine me0 (pc' := 25) (S' := .long (0 : Int64) :: _) dm_X11_letter_24 rfl rfl rfl rfl ?_
  refine me0 (pc' := 26) (S' := .int (0 : Int32) :: _) dm_X11_letter_25 rfl rfl rfl rfl ?_
  refine me0 (pc' := 28) (S' := .int (31 : Int32) :: _) dm_X11_letter_26 rfl rfl rfl rfl ?_
  refine me0 (pc' := 29) (S' := .int (0 : Int32) :: _) dm_X11_letter_28 rfl rfl rfl rfl ?_
  refine me1 (pc' := 31) (L' := [(4, .int (0 : Int32)), (0, .ref 2), (1, .int p0), (2, .int p1), (3, .int (4 : Int32))]) dm_X11_letter_29 rfl rfl rfl rfl ?_
  refine me1 (pc' := 33) dm_X11_letter_31 rfl rfl rfl rfl ?_
  refine me_1f (pc' := 36) dm_X11_letter_33 rfl (by decide) rfl ?_
  refine me0 (pc' := 37) (S' := .int (-1 : Int32) :: _) dm_X11_letter_36 rfl rfl rfl rfl ?_
  refine me2 (pc' := 45) dm_X11_letter_37 rfl rfl rfl ?_
  refine me5 dm_X11_letter_45 rfl rfl rfl ?_
  exact k _ _ rfl (Nat.le_of_ble_eq_true rfl) (Nat.le_of_ble_eq_true rfl) (Nat.le_of_ble_eq_true rfl)
set_option maxRecDepth 100000 in
set_option maxHeartbeats 40000000 in
theorem c_letter_lt_ge_v5 {xt : mj_X} {d : Nat} {h V : mj_H} (hn : h.length = 2) (hv : V.length = 25) {P : Option Value → mj_H → Prop} {p0 : Int32} {p1 : Int32} (hh0 : p0.toInt ≤ -1) (hl1 : 0 ≤ p1.toInt) (k : ∀ U D, U.length = 100 → mj_sl U ≤ 20000 → D.length ≤ 10 → mj_sl D ≤ 2000 → P (some (.int (-1 : Int32))) (h ++ (U ++ (V ++ D)))) : pgE xt (d + 20) 11 5 false (Option.some FieldType.int) (mj_dec prog_1_method_18_code) 0 [(0, .ref 2), (1, .int p0), (2, .int p1), (3, .int (5 : Int32))] [] (h ++ (cT ++ (V ++ []))) P := by
  refine me1 (pc' := 1) dm_X11_letter_0 rfl rfl rfl rfl ?_
  refine me_1f (pc' := 4) dm_X11_letter_1 rfl (by decide) rfl ?_
  refine me1 (pc' := 5) dm_X11_letter_4 rfl rfl rfl rfl ?_
  refine me0 (pc' := 7) (S' := .int (8 : Int32) :: _) dm_X11_letter_5 rfl rfl rfl rfl ?_
  refine me_2t (pc' := 12) dm_X11_letter_7 rfl rfl ?_
  refine me1 (pc' := 13) dm_X11_letter_12 rfl rfl rfl rfl ?_
  refine me3 (pc' := 16) dm_X11_letter_13 (g_get (v := .ref 4) (lu (n := 2) (j := 0) hn rfl) rfl rfl (Nat.le_of_ble_eq_true rfl)) rfl rfl rfl ?_
  refine me1 (pc' := 17) dm_X11_letter_16 rfl rfl rfl rfl ?_
  refine me1 (pc' := 18) dm_X11_letter_17 rfl rfl rfl rfl ?_
  refine me4 (pc' := 21) (L0 := [(0, .ref 4), (1, .int p0), (2, .int p1)]) dm_X11_letter_18 rfl (g_inv (As := [.int p0, .int p1]) (lu (n := 2) (j := 2) hn rfl) rfl rfl rfl (Nat.le_of_ble_eq_true rfl)) pm_X2_keyAt rfl (Nat.le_of_ble_eq_true rfl) rfl rfl rfl ?_
  refine me1 (pc' := 1) dm_X2_keyAt_0 rfl rfl rfl rfl ?_
  refine me_1f (pc' := 4) dm_X2_keyAt_1 rfl (cn_f_lt (c := 0) rfl (by omega)) rfl ?_
  refine me1 (pc' := 5) dm_X2_keyAt_4 rfl rfl rfl rfl ?_
  refine me1 (pc' := 6) dm_X2_keyAt_5 rfl rfl rfl rfl ?_
  refine me1 (pc' := 7) dm_X2_keyAt_6 rfl rfl rfl rfl ?_
  refine me4 (pc' := 10) (L0 := [(0, .ref 4), (1, .int p0)]) dm_X2_keyAt_7 rfl (g_inv (As := [.int p0]) (lu (n := 2) (j := 2) hn rfl) rfl rfl rfl (Nat.le_of_ble_eq_true rfl)) pm_X2_howMany rfl (Nat.le_of_ble_eq_true rfl) rfl rfl rfl ?_
  refine me1 (pc' := 1) dm_X2_howMany_0 rfl rfl rfl rfl ?_
  refine me_1t (pc' := 9) dm_X2_howMany_1 rfl (cn_t_ne (c := 0) rfl (by omega)) ?_
  refine me1 (pc' := 10) dm_X2_howMany_9 rfl rfl rfl rfl ?_
  refine me0 (pc' := 11) (S' := .int (1 : Int32) :: _) dm_X2_howMany_10 rfl rfl rfl rfl ?_
  refine me_2t (pc' := 21) dm_X2_howMany_11 rfl (cn_t_ne (c := 1) rfl (by omega)) ?_
  refine me0 (pc' := 22) (S' := .int (-1 : Int32) :: _) dm_X2_howMany_21 rfl rfl rfl rfl ?_
  refine me5 dm_X2_howMany_22 rfl rfl rfl ?_
  refine me_2f (pc' := 13) dm_X2_keyAt_10 rfl (cn_f_lt (c := -1) rfl (by omega)) rfl ?_
  refine me0 (pc' := 14) (S' := .long (0 : Int64) :: _) dm_X2_keyAt_13 rfl rfl rfl rfl ?_
  refine me5 dm_X2_keyAt_14 rfl rfl rfl ?_
  refine me1 (pc' := 22) dm_X11_letter_21 rfl rfl rfl rfl ?_
  refine me0 (pc' := 23) (S' := .int (5 : Int32) :: _) dm_X11_letter_22 rfl rfl rfl rfl ?_
  refine me0 (pc' := 24) (S' := .int (25 : Int32) :: _) dm_X11_letter_23 rfl rfl rfl rfl ?_
  refine me0 (pc' := 25) (S' := .long (0 : Int64) :: _) dm_X11_letter_24 rfl rfl rfl rfl ?_
  refine me0 (pc' := 26) (S' := .int (0 : Int32) :: _) dm_X11_letter_25 rfl rfl rfl rfl ?_
  refine me0 (pc' := 28) (S' := .int (31 : Int32) :: _) dm_X11_letter_26 rfl rfl rfl rfl ?_
  refine me0 (pc' := 29) (S' := .int (0 : Int32) :: _) dm_X11_letter_28 rfl rfl rfl rfl ?_
  refine me1 (pc' := 31) (L' := [(4, .int (0 : Int32)), (0, .ref 2), (1, .int p0), (2, .int p1), (3, .int (5 : Int32))]) dm_X11_letter_29 rfl rfl rfl rfl ?_
  refine me1 (pc' := 33) dm_X11_letter_31 rfl rfl rfl rfl ?_
  refine me_1f (pc' := 36) dm_X11_letter_33 rfl (by decide) rfl ?_
  refine me0 (pc' := 37) (S' := .int (-1 : Int32) :: _) dm_X11_letter_36 rfl rfl rfl rfl ?_
  refine me2 (pc' := 45) dm_X11_letter_37 rfl rfl rfl ?_
  refine me5 dm_X11_letter_45 rfl rfl rfl ?_
  exact k _ _ rfl (Nat.le_of_ble_eq_true rfl) (Nat.le_of_ble_eq_true rfl) (Nat.le_of_ble_eq_true rfl)
set_option maxRecDepth 100000 in
set_option maxHeartbeats 40000000 in
theorem c_letter_lt_ge_v6 {xt : mj_X} {d : Nat} {h V : mj_H} (hn : h.length = 2) (hv : V.length = 25) {P : Option Value → mj_H → Prop} {p0 : Int32} {p1 : Int32} (hh0 : p0.toInt ≤ -1) (hl1 : 0 ≤ p1.toInt) (k : ∀ U D, U.length = 100 → mj_sl U ≤ 20000 → D.length ≤ 10 → mj_sl D ≤ 2000 → P (some (.int (-1 : Int32))) (h ++ (U ++ (V ++ D)))) : pgE xt (d + 20) 11 5 false (Option.some FieldType.int) (mj_dec prog_1_method_18_code) 0 [(0, .ref 2), (1, .int p0), (2, .int p1), (3, .int (6 : Int32))] [] (h ++ (cT ++ (V ++ []))) P := by
  refine me1 (pc' := 1) dm_X11_letter_0 rfl rfl rfl rfl ?_
  refine me_1f (pc' := 4) dm_X11_letter_1 rfl (by decide) rfl ?_
  refine me1 (pc' := 5) dm_X11_letter_4 rfl rfl rfl rfl ?_
  refine me0 (pc' := 7) (S' := .int (8 : Int32) :: _) dm_X11_letter_5 rfl rfl rfl rfl ?_
  refine me_2t (pc' := 12) dm_X11_letter_7 rfl rfl ?_
  refine me1 (pc' := 13) dm_X11_letter_12 rfl rfl rfl rfl ?_
  refine me3 (pc' := 16) dm_X11_letter_13 (g_get (v := .ref 4) (lu (n := 2) (j := 0) hn rfl) rfl rfl (Nat.le_of_ble_eq_true rfl)) rfl rfl rfl ?_
  refine me1 (pc' := 17) dm_X11_letter_16 rfl rfl rfl rfl ?_
  refine me1 (pc' := 18) dm_X11_letter_17 rfl rfl rfl rfl ?_
  refine me4 (pc' := 21) (L0 := [(0, .ref 4), (1, .int p0), (2, .int p1)]) dm_X11_letter_18 rfl (g_inv (As := [.int p0, .int p1]) (lu (n := 2) (j := 2) hn rfl) rfl rfl rfl (Nat.le_of_ble_eq_true rfl)) pm_X2_keyAt rfl (Nat.le_of_ble_eq_true rfl) rfl rfl rfl ?_
  refine me1 (pc' := 1) dm_X2_keyAt_0 rfl rfl rfl rfl ?_
  refine me_1f (pc' := 4) dm_X2_keyAt_1 rfl (cn_f_lt (c := 0) rfl (by omega)) rfl ?_
  refine me1 (pc' := 5) dm_X2_keyAt_4 rfl rfl rfl rfl ?_
  refine me1 (pc' := 6) dm_X2_keyAt_5 rfl rfl rfl rfl ?_
  refine me1 (pc' := 7) dm_X2_keyAt_6 rfl rfl rfl rfl ?_
  refine me4 (pc' := 10) (L0 := [(0, .ref 4), (1, .int p0)]) dm_X2_keyAt_7 rfl (g_inv (As := [.int p0]) (lu (n := 2) (j := 2) hn rfl) rfl rfl rfl (Nat.le_of_ble_eq_true rfl)) pm_X2_howMany rfl (Nat.le_of_ble_eq_true rfl) rfl rfl rfl ?_
  refine me1 (pc' := 1) dm_X2_howMany_0 rfl rfl rfl rfl ?_
  refine me_1t (pc' := 9) dm_X2_howMany_1 rfl (cn_t_ne (c := 0) rfl (by omega)) ?_
  refine me1 (pc' := 10) dm_X2_howMany_9 rfl rfl rfl rfl ?_
  refine me0 (pc' := 11) (S' := .int (1 : Int32) :: _) dm_X2_howMany_10 rfl rfl rfl rfl ?_
  refine me_2t (pc' := 21) dm_X2_howMany_11 rfl (cn_t_ne (c := 1) rfl (by omega)) ?_
  refine me0 (pc' := 22) (S' := .int (-1 : Int32) :: _) dm_X2_howMany_21 rfl rfl rfl rfl ?_
  refine me5 dm_X2_howMany_22 rfl rfl rfl ?_
  refine me_2f (pc' := 13) dm_X2_keyAt_10 rfl (cn_f_lt (c := -1) rfl (by omega)) rfl ?_
  refine me0 (pc' := 14) (S' := .long (0 : Int64) :: _) dm_X2_keyAt_13 rfl rfl rfl rfl ?_
  refine me5 dm_X2_keyAt_14 rfl rfl rfl ?_
  refine me1 (pc' := 22) dm_X11_letter_21 rfl rfl rfl rfl ?_
  refine me0 (pc' := 23) (S' := .int (5 : Int32) :: _) dm_X11_letter_22 rfl rfl rfl rfl ?_
  refine me0 (pc' := 24) (S' := .int (30 : Int32) :: _) dm_X11_letter_23 rfl rfl rfl rfl ?_
  refine me0 (pc' := 25) (S' := .long (0 : Int64) :: _) dm_X11_letter_24 rfl rfl rfl rfl ?_
  refine me0 (pc' := 26) (S' := .int (0 : Int32) :: _) dm_X11_letter_25 rfl rfl rfl rfl ?_
  refine me0 (pc' := 28) (S' := .int (31 : Int32) :: _) dm_X11_letter_26 rfl rfl rfl rfl ?_
  refine me0 (pc' := 29) (S' := .int (0 : Int32) :: _) dm_X11_letter_28 rfl rfl rfl rfl ?_
  refine me1 (pc' := 31) (L' := [(4, .int (0 : Int32)), (0, .ref 2), (1, .int p0), (2, .int p1), (3, .int (6 : Int32))]) dm_X11_letter_29 rfl rfl rfl rfl ?_
  refine me1 (pc' := 33) dm_X11_letter_31 rfl rfl rfl rfl ?_
  refine me_1f (pc' := 36) dm_X11_letter_33 rfl (by decide) rfl ?_
  refine me0 (pc' := 37) (S' := .int (-1 : Int32) :: _) dm_X11_letter_36 rfl rfl rfl rfl ?_
  refine me2 (pc' := 45) dm_X11_letter_37 rfl rfl rfl ?_
  refine me5 dm_X11_letter_45 rfl rfl rfl ?_
  exact k _ _ rfl (Nat.le_of_ble_eq_true rfl) (Nat.le_of_ble_eq_true rfl) (Nat.le_of_ble_eq_true rfl)
set_option maxRecDepth 100000 in
set_option maxHeartbeats 40000000 in
theorem c_letter_lt_ge_v7 {xt : mj_X} {d : Nat} {h V : mj_H} (hn : h.length = 2) (hv : V.length = 25) {P : Option Value → mj_H → Prop} {p0 : Int32} {p1 : Int32} (hh0 : p0.toInt ≤ -1) (hl1 : 0 ≤ p1.toInt) (k : ∀ U D, U.length = 100 → mj_sl U ≤ 20000 → D.length ≤ 10 → mj_sl D ≤ 2000 → P (some (.int (-1 : Int32))) (h ++ (U ++ (V ++ D)))) : pgE xt (d + 20) 11 5 false (Option.some FieldType.int) (mj_dec prog_1_method_18_code) 0 [(0, .ref 2), (1, .int p0), (2, .int p1), (3, .int (7 : Int32))] [] (h ++ (cT ++ (V ++ []))) P := by
  refine me1 (pc' := 1) dm_X11_letter_0 rfl rfl rfl rfl ?_
  refine me_1f (pc' := 4) dm_X11_letter_1 rfl (by decide) rfl ?_
  refine me1 (pc' := 5) dm_X11_letter_4 rfl rfl rfl rfl ?_
  refine me0 (pc' := 7) (S' := .int (8 : Int32) :: _) dm_X11_letter_5 rfl rfl rfl rfl ?_
  refine me_2t (pc' := 12) dm_X11_letter_7 rfl rfl ?_
  refine me1 (pc' := 13) dm_X11_letter_12 rfl rfl rfl rfl ?_
  refine me3 (pc' := 16) dm_X11_letter_13 (g_get (v := .ref 4) (lu (n := 2) (j := 0) hn rfl) rfl rfl (Nat.le_of_ble_eq_true rfl)) rfl rfl rfl ?_
  refine me1 (pc' := 17) dm_X11_letter_16 rfl rfl rfl rfl ?_
  refine me1 (pc' := 18) dm_X11_letter_17 rfl rfl rfl rfl ?_
  refine me4 (pc' := 21) (L0 := [(0, .ref 4), (1, .int p0), (2, .int p1)]) dm_X11_letter_18 rfl (g_inv (As := [.int p0, .int p1]) (lu (n := 2) (j := 2) hn rfl) rfl rfl rfl (Nat.le_of_ble_eq_true rfl)) pm_X2_keyAt rfl (Nat.le_of_ble_eq_true rfl) rfl rfl rfl ?_
  refine me1 (pc' := 1) dm_X2_keyAt_0 rfl rfl rfl rfl ?_
  refine me_1f (pc' := 4) dm_X2_keyAt_1 rfl (cn_f_lt (c := 0) rfl (by omega)) rfl ?_
  refine me1 (pc' := 5) dm_X2_keyAt_4 rfl rfl rfl rfl ?_
  refine me1 (pc' := 6) dm_X2_keyAt_5 rfl rfl rfl rfl ?_
  refine me1 (pc' := 7) dm_X2_keyAt_6 rfl rfl rfl rfl ?_
  refine me4 (pc' := 10) (L0 := [(0, .ref 4), (1, .int p0)]) dm_X2_keyAt_7 rfl (g_inv (As := [.int p0]) (lu (n := 2) (j := 2) hn rfl) rfl rfl rfl (Nat.le_of_ble_eq_true rfl)) pm_X2_howMany rfl (Nat.le_of_ble_eq_true rfl) rfl rfl rfl ?_
  refine me1 (pc' := 1) dm_X2_howMany_0 rfl rfl rfl rfl ?_
  refine me_1t (pc' := 9) dm_X2_howMany_1 rfl (cn_t_ne (c := 0) rfl (by omega)) ?_
  refine me1 (pc' := 10) dm_X2_howMany_9 rfl rfl rfl rfl ?_
  refine me0 (pc' := 11) (S' := .int (1 : Int32) :: _) dm_X2_howMany_10 rfl rfl rfl rfl ?_
  refine me_2t (pc' := 21) dm_X2_howMany_11 rfl (cn_t_ne (c := 1) rfl (by omega)) ?_
  refine me0 (pc' := 22) (S' := .int (-1 : Int32) :: _) dm_X2_howMany_21 rfl rfl rfl rfl ?_
  refine me5 dm_X2_howMany_22 rfl rfl rfl ?_
  refine me_2f (pc' := 13) dm_X2_keyAt_10 rfl (cn_f_lt (c := -1) rfl (by omega)) rfl ?_
  refine me0 (pc' := 14) (S' := .long (0 : Int64) :: _) dm_X2_keyAt_13 rfl rfl rfl rfl ?_
  refine me5 dm_X2_keyAt_14 rfl rfl rfl ?_
  refine me1 (pc' := 22) dm_X11_letter_21 rfl rfl rfl rfl ?_
  refine me0 (pc' := 23) (S' := .int (5 : Int32) :: _) dm_X11_letter_22 rfl rfl rfl rfl ?_
  refine me0 (pc' := 24) (S' := .int (35 : Int32) :: _) dm_X11_letter_23 rfl rfl rfl rfl ?_
  refine me0 (pc' := 25) (S' := .long (0 : Int64) :: _) dm_X11_letter_24 rfl rfl rfl rfl ?_
  refine me0 (pc' := 26) (S' := .int (0 : Int32) :: _) dm_X11_letter_25 rfl rfl rfl rfl ?_
  refine me0 (pc' := 28) (S' := .int (31 : Int32) :: _) dm_X11_letter_26 rfl rfl rfl rfl ?_
  refine me0 (pc' := 29) (S' := .int (0 : Int32) :: _) dm_X11_letter_28 rfl rfl rfl rfl ?_
  refine me1 (pc' := 31) (L' := [(4, .int (0 : Int32)), (0, .ref 2), (1, .int p0), (2, .int p1), (3, .int (7 : Int32))]) dm_X11_letter_29 rfl rfl rfl rfl ?_
  refine me1 (pc' := 33) dm_X11_letter_31 rfl rfl rfl rfl ?_
  refine me_1f (pc' := 36) dm_X11_letter_33 rfl (by decide) rfl ?_
  refine me0 (pc' := 37) (S' := .int (-1 : Int32) :: _) dm_X11_letter_36 rfl rfl rfl rfl ?_
  refine me2 (pc' := 45) dm_X11_letter_37 rfl rfl rfl ?_
  refine me5 dm_X11_letter_45 rfl rfl rfl ?_
  exact k _ _ rfl (Nat.le_of_ble_eq_true rfl) (Nat.le_of_ble_eq_true rfl) (Nat.le_of_ble_eq_true rfl)
set_option maxRecDepth 100000 in
set_option maxHeartbeats 40000000 in
theorem c_letter_lt_ge_ge {xt : mj_X} {d : Nat} {h V : mj_H} (hn : h.length = 2) (hv : V.length = 25) {P : Option Value → mj_H → Prop} {p0 : Int32} {p1 : Int32} {p2 : Int32} (hh0 : p0.toInt ≤ -1) (hl1 : 0 ≤ p1.toInt) (hl2 : 8 ≤ p2.toInt) (k : ∀ U D, U.length = 100 → mj_sl U ≤ 20000 → D.length ≤ 10 → mj_sl D ≤ 2000 → P (some (.int (-1 : Int32))) (h ++ (U ++ (V ++ D)))) : pgE xt (d + 20) 11 5 false (Option.some FieldType.int) (mj_dec prog_1_method_18_code) 0 [(0, .ref 2), (1, .int p0), (2, .int p1), (3, .int p2)] [] (h ++ (cT ++ (V ++ []))) P := by
  refine me1 (pc' := 1) dm_X11_letter_0 rfl rfl rfl rfl ?_
  refine me_1f (pc' := 4) dm_X11_letter_1 rfl (cn_f_lt (c := 0) rfl (by omega)) rfl ?_
  refine me1 (pc' := 5) dm_X11_letter_4 rfl rfl rfl rfl ?_
  refine me0 (pc' := 7) (S' := .int (8 : Int32) :: _) dm_X11_letter_5 rfl rfl rfl rfl ?_
  refine me_2f (pc' := 10) dm_X11_letter_7 rfl (cn_f_lt (c := 8) rfl (by omega)) rfl ?_
  refine me0 (pc' := 11) (S' := .int (-1 : Int32) :: _) dm_X11_letter_10 rfl rfl rfl rfl ?_
  refine me5 dm_X11_letter_11 rfl rfl rfl ?_
  exact k _ _ rfl (Nat.le_of_ble_eq_true rfl) (Nat.le_of_ble_eq_true rfl) (Nat.le_of_ble_eq_true rfl)
set_option maxRecDepth 100000 in
set_option maxHeartbeats 40000000 in
theorem c_letter_v0_lt_lt {xt : mj_X} {d : Nat} {h V : mj_H} (hn : h.length = 2) (hv : V.length = 25) {P : Option Value → mj_H → Prop} {p1 : Int32} {p2 : Int32} (hh1 : p1.toInt ≤ -1) (hh2 : p2.toInt ≤ -1) (k : ∀ U D, U.length = 100 → mj_sl U ≤ 20000 → D.length ≤ 10 → mj_sl D ≤ 2000 → P (some (.int (-1 : Int32))) (h ++ (U ++ (V ++ D)))) : pgE xt (d + 20) 11 5 false (Option.some FieldType.int) (mj_dec prog_1_method_18_code) 0 [(0, .ref 2), (1, .int (0 : Int32)), (2, .int p1), (3, .int p2)] [] (h ++ (cT ++ (V ++ []))) P := by
  refine me1 (pc' := 1) dm_X11_letter_0 rfl rfl rfl rfl ?_
  refine me_1t (pc' := 10) dm_X11_letter_1 rfl (cn_t_lt (c := 0) rfl (by omega)) ?_
  refine me0 (pc' := 11) (S' := .int (-1 : Int32) :: _) dm_X11_letter_10 rfl rfl rfl rfl ?_
  refine me5 dm_X11_letter_11 rfl rfl rfl ?_
  exact k _ _ rfl (Nat.le_of_ble_eq_true rfl) (Nat.le_of_ble_eq_true rfl) (Nat.le_of_ble_eq_true rfl)
set_option maxRecDepth 100000 in
set_option maxHeartbeats 40000000 in
theorem c_letter_v0_lt_v0 {xt : mj_X} {d : Nat} {h V : mj_H} (hn : h.length = 2) (hv : V.length = 25) {P : Option Value → mj_H → Prop} {p1 : Int32} (hh1 : p1.toInt ≤ -1) (k : ∀ U D, U.length = 100 → mj_sl U ≤ 20000 → D.length ≤ 10 → mj_sl D ≤ 2000 → P (some (.int (-1 : Int32))) (h ++ (U ++ (V ++ D)))) : pgE xt (d + 20) 11 5 false (Option.some FieldType.int) (mj_dec prog_1_method_18_code) 0 [(0, .ref 2), (1, .int (0 : Int32)), (2, .int p1), (3, .int (0 : Int32))] [] (h ++ (cT ++ (V ++ []))) P := by
  refine me1 (pc' := 1) dm_X11_letter_0 rfl rfl rfl rfl ?_
  refine me_1f (pc' := 4) dm_X11_letter_1 rfl (by decide) rfl ?_
  refine me1 (pc' := 5) dm_X11_letter_4 rfl rfl rfl rfl ?_
  refine me0 (pc' := 7) (S' := .int (8 : Int32) :: _) dm_X11_letter_5 rfl rfl rfl rfl ?_
  refine me_2t (pc' := 12) dm_X11_letter_7 rfl rfl ?_
  refine me1 (pc' := 13) dm_X11_letter_12 rfl rfl rfl rfl ?_
  refine me3 (pc' := 16) dm_X11_letter_13 (g_get (v := .ref 4) (lu (n := 2) (j := 0) hn rfl) rfl rfl (Nat.le_of_ble_eq_true rfl)) rfl rfl rfl ?_
  refine me1 (pc' := 17) dm_X11_letter_16 rfl rfl rfl rfl ?_
  refine me1 (pc' := 18) dm_X11_letter_17 rfl rfl rfl rfl ?_
  refine me4 (pc' := 21) (L0 := [(0, .ref 4), (1, .int (0 : Int32)), (2, .int p1)]) dm_X11_letter_18 rfl (g_inv (As := [.int (0 : Int32), .int p1]) (lu (n := 2) (j := 2) hn rfl) rfl rfl rfl (Nat.le_of_ble_eq_true rfl)) pm_X2_keyAt rfl (Nat.le_of_ble_eq_true rfl) rfl rfl rfl ?_
  refine me1 (pc' := 1) dm_X2_keyAt_0 rfl rfl rfl rfl ?_
  refine me_1t (pc' := 13) dm_X2_keyAt_1 rfl (cn_t_lt (c := 0) rfl (by omega)) ?_
  refine me0 (pc' := 14) (S' := .long (0 : Int64) :: _) dm_X2_keyAt_13 rfl rfl rfl rfl ?_
  refine me5 dm_X2_keyAt_14 rfl rfl rfl ?_
  refine me1 (pc' := 22) dm_X11_letter_21 rfl rfl rfl rfl ?_
  refine me0 (pc' := 23) (S' := .int (5 : Int32) :: _) dm_X11_letter_22 rfl rfl rfl rfl ?_
  refine me0 (pc' := 24) (S' := .int (0 : Int32) :: _) dm_X11_letter_23 rfl rfl rfl rfl ?_
  refine me0 (pc' := 25) (S' := .long (0 : Int64) :: _) dm_X11_letter_24 rfl rfl rfl rfl ?_
  refine me0 (pc' := 26) (S' := .int (0 : Int32) :: _) dm_X11_letter_25 rfl rfl rfl rfl ?_
  refine me0 (pc' := 28) (S' := .int (31 : Int32) :: _) dm_X11_letter_26 rfl rfl rfl rfl ?_
  refine me0 (pc' := 29) (S' := .int (0 : Int32) :: _) dm_X11_letter_28 rfl rfl rfl rfl ?_
  refine me1 (pc' := 31) (L' := [(4, .int (0 : Int32)), (0, .ref 2), (1, .int (0 : Int32)), (2, .int p1), (3, .int (0 : Int32))]) dm_X11_letter_29 rfl rfl rfl rfl ?_
  refine me1 (pc' := 33) dm_X11_letter_31 rfl rfl rfl rfl ?_
  refine me_1f (pc' := 36) dm_X11_letter_33 rfl (by decide) rfl ?_
  refine me0 (pc' := 37) (S' := .int (-1 : Int32) :: _) dm_X11_letter_36 rfl rfl rfl rfl ?_
  refine me2 (pc' := 45) dm_X11_letter_37 rfl rfl rfl ?_
  refine me5 dm_X11_letter_45 rfl rfl rfl ?_
  exact k _ _ rfl (Nat.le_of_ble_eq_true rfl) (Nat.le_of_ble_eq_true rfl) (Nat.le_of_ble_eq_true rfl)
set_option maxRecDepth 100000 in
set_option maxHeartbeats 40000000 in
theorem c_letter_v0_lt_v1 {xt : mj_X} {d : Nat} {h V : mj_H} (hn : h.length = 2) (hv : V.length = 25) {P : Option Value → mj_H → Prop} {p1 : Int32} (hh1 : p1.toInt ≤ -1) (k : ∀ U D, U.length = 100 → mj_sl U ≤ 20000 → D.length ≤ 10 → mj_sl D ≤ 2000 → P (some (.int (-1 : Int32))) (h ++ (U ++ (V ++ D)))) : pgE xt (d + 20) 11 5 false (Option.some FieldType.int) (mj_dec prog_1_method_18_code) 0 [(0, .ref 2), (1, .int (0 : Int32)), (2, .int p1), (3, .int (1 : Int32))] [] (h ++ (cT ++ (V ++ []))) P := by
  refine me1 (pc' := 1) dm_X11_letter_0 rfl rfl rfl rfl ?_
  refine me_1f (pc' := 4) dm_X11_letter_1 rfl (by decide) rfl ?_
  refine me1 (pc' := 5) dm_X11_letter_4 rfl rfl rfl rfl ?_
  refine me0 (pc' := 7) (S' := .int (8 : Int32) :: _) dm_X11_letter_5 rfl rfl rfl rfl ?_
  refine me_2t (pc' := 12) dm_X11_letter_7 rfl rfl ?_
  refine me1 (pc' := 13) dm_X11_letter_12 rfl rfl rfl rfl ?_
  refine me3 (pc' := 16) dm_X11_letter_13 (g_get (v := .ref 4) (lu (n := 2) (j := 0) hn rfl) rfl rfl (Nat.le_of_ble_eq_true rfl)) rfl rfl rfl ?_
  refine me1 (pc' := 17) dm_X11_letter_16 rfl rfl rfl rfl ?_
  refine me1 (pc' := 18) dm_X11_letter_17 rfl rfl rfl rfl ?_
  refine me4 (pc' := 21) (L0 := [(0, .ref 4), (1, .int (0 : Int32)), (2, .int p1)]) dm_X11_letter_18 rfl (g_inv (As := [.int (0 : Int32), .int p1]) (lu (n := 2) (j := 2) hn rfl) rfl rfl rfl (Nat.le_of_ble_eq_true rfl)) pm_X2_keyAt rfl (Nat.le_of_ble_eq_true rfl) rfl rfl rfl ?_
  refine me1 (pc' := 1) dm_X2_keyAt_0 rfl rfl rfl rfl ?_
  refine me_1t (pc' := 13) dm_X2_keyAt_1 rfl (cn_t_lt (c := 0) rfl (by omega)) ?_
  refine me0 (pc' := 14) (S' := .long (0 : Int64) :: _) dm_X2_keyAt_13 rfl rfl rfl rfl ?_
  refine me5 dm_X2_keyAt_14 rfl rfl rfl ?_
  refine me1 (pc' := 22) dm_X11_letter_21 rfl rfl rfl rfl ?_
  refine me0 (pc' := 23) (S' := .int (5 : Int32) :: _) dm_X11_letter_22 rfl rfl rfl rfl ?_
  refine me0 (pc' := 24) (S' := .int (5 : Int32) :: _) dm_X11_letter_23 rfl rfl rfl rfl ?_
  refine me0 (pc' := 25) (S' := .long (0 : Int64) :: _) dm_X11_letter_24 rfl rfl rfl rfl ?_
  refine me0 (pc' := 26) (S' := .int (0 : Int32) :: _) dm_X11_letter_25 rfl rfl rfl rfl ?_
  refine me0 (pc' := 28) (S' := .int (31 : Int32) :: _) dm_X11_letter_26 rfl rfl rfl rfl ?_
  refine me0 (pc' := 29) (S' := .int (0 : Int32) :: _) dm_X11_letter_28 rfl rfl rfl rfl ?_
  refine me1 (pc' := 31) (L' := [(4, .int (0 : Int32)), (0, .ref 2), (1, .int (0 : Int32)), (2, .int p1), (3, .int (1 : Int32))]) dm_X11_letter_29 rfl rfl rfl rfl ?_
  refine me1 (pc' := 33) dm_X11_letter_31 rfl rfl rfl rfl ?_
  refine me_1f (pc' := 36) dm_X11_letter_33 rfl (by decide) rfl ?_
  refine me0 (pc' := 37) (S' := .int (-1 : Int32) :: _) dm_X11_letter_36 rfl rfl rfl rfl ?_
  refine me2 (pc' := 45) dm_X11_letter_37 rfl rfl rfl ?_
  refine me5 dm_X11_letter_45 rfl rfl rfl ?_
  exact k _ _ rfl (Nat.le_of_ble_eq_true rfl) (Nat.le_of_ble_eq_true rfl) (Nat.le_of_ble_eq_true rfl)
set_option maxRecDepth 100000 in
set_option maxHeartbeats 40000000 in
theorem c_letter_v0_lt_v2 {xt : mj_X} {d : Nat} {h V : mj_H} (hn : h.length = 2) (hv : V.length = 25) {P : Option Value → mj_H → Prop} {p1 : Int32} (hh1 : p1.toInt ≤ -1) (k : ∀ U D, U.length = 100 → mj_sl U ≤ 20000 → D.length ≤ 10 → mj_sl D ≤ 2000 → P (some (.int (-1 : Int32))) (h ++ (U ++ (V ++ D)))) : pgE xt (d + 20) 11 5 false (Option.some FieldType.int) (mj_dec prog_1_method_18_code) 0 [(0, .ref 2), (1, .int (0 : Int32)), (2, .int p1), (3, .int (2 : Int32))] [] (h ++ (cT ++ (V ++ []))) P := by
  refine me1 (pc' := 1) dm_X11_letter_0 rfl rfl rfl rfl ?_
  refine me_1f (pc' := 4) dm_X11_letter_1 rfl (by decide) rfl ?_
  refine me1 (pc' := 5) dm_X11_letter_4 rfl rfl rfl rfl ?_
  refine me0 (pc' := 7) (S' := .int (8 : Int32) :: _) dm_X11_letter_5 rfl rfl rfl rfl ?_
  refine me_2t (pc' := 12) dm_X11_letter_7 rfl rfl ?_
  refine me1 (pc' := 13) dm_X11_letter_12 rfl rfl rfl rfl ?_
  refine me3 (pc' := 16) dm_X11_letter_13 (g_get (v := .ref 4) (lu (n := 2) (j := 0) hn rfl) rfl rfl (Nat.le_of_ble_eq_true rfl)) rfl rfl rfl ?_
  refine me1 (pc' := 17) dm_X11_letter_16 rfl rfl rfl rfl ?_
  refine me1 (pc' := 18) dm_X11_letter_17 rfl rfl rfl rfl ?_
  refine me4 (pc' := 21) (L0 := [(0, .ref 4), (1, .int (0 : Int32)), (2, .int p1)]) dm_X11_letter_18 rfl (g_inv (As := [.int (0 : Int32), .int p1]) (lu (n := 2) (j := 2) hn rfl) rfl rfl rfl (Nat.le_of_ble_eq_true rfl)) pm_X2_keyAt rfl (Nat.le_of_ble_eq_true rfl) rfl rfl rfl ?_
  refine me1 (pc' := 1) dm_X2_keyAt_0 rfl rfl rfl rfl ?_
  refine me_1t (pc' := 13) dm_X2_keyAt_1 rfl (cn_t_lt (c := 0) rfl (by omega)) ?_
  refine me0 (pc' := 14) (S' := .long (0 : Int64) :: _) dm_X2_keyAt_13 rfl rfl rfl rfl ?_
  refine me5 dm_X2_keyAt_14 rfl rfl rfl ?_
  refine me1 (pc' := 22) dm_X11_letter_21 rfl rfl rfl rfl ?_
  refine me0 (pc' := 23) (S' := .int (5 : Int32) :: _) dm_X11_letter_22 rfl rfl rfl rfl ?_
  refine me0 (pc' := 24) (S' := .int (10 : Int32) :: _) dm_X11_letter_23 rfl rfl rfl rfl ?_
  refine me0 (pc' := 25) (S' := .long (0 : Int64) :: _) dm_X11_letter_24 rfl rfl rfl rfl ?_
  refine me0 (pc' := 26) (S' := .int (0 : Int32) :: _) dm_X11_letter_25 rfl rfl rfl rfl ?_
  refine me0 (pc' := 28) (S' := .int (31 : Int32) :: _) dm_X11_letter_26 rfl rfl rfl rfl ?_
  refine me0 (pc' := 29) (S' := .int (0 : Int32) :: _) dm_X11_letter_28 rfl rfl rfl rfl ?_
  refine me1 (pc' := 31) (L' := [(4, .int (0 : Int32)), (0, .ref 2), (1, .int (0 : Int32)), (2, .int p1), (3, .int (2 : Int32))]) dm_X11_letter_29 rfl rfl rfl rfl ?_
  refine me1 (pc' := 33) dm_X11_letter_31 rfl rfl rfl rfl ?_
  refine me_1f (pc' := 36) dm_X11_letter_33 rfl (by decide) rfl ?_
  refine me0 (pc' := 37) (S' := .int (-1 : Int32) :: _) dm_X11_letter_36 rfl rfl rfl rfl ?_
  refine me2 (pc' := 45) dm_X11_letter_37 rfl rfl rfl ?_
  refine me5 dm_X11_letter_45 rfl rfl rfl ?_
  exact k _ _ rfl (Nat.le_of_ble_eq_true rfl) (Nat.le_of_ble_eq_true rfl) (Nat.le_of_ble_eq_true rfl)
set_option maxRecDepth 100000 in
set_option maxHeartbeats 40000000 in
theorem c_letter_v0_lt_v3 {xt : mj_X} {d : Nat} {h V : mj_H} (hn : h.length = 2) (hv : V.length = 25) {P : Option Value → mj_H → Prop} {p1 : Int32} (hh1 : p1.toInt ≤ -1) (k : ∀ U D, U.length = 100 → mj_sl U ≤ 20000 → D.length ≤ 10 → mj_sl D ≤ 2000 → P (some (.int (-1 : Int32))) (h ++ (U ++ (V ++ D)))) : pgE xt (d + 20) 11 5 false (Option.some FieldType.int) (mj_dec prog_1_method_18_code) 0 [(0, .ref 2), (1, .int (0 : Int32)), (2, .int p1), (3, .int (3 : Int32))] [] (h ++ (cT ++ (V ++ []))) P := by
  refine me1 (pc' := 1) dm_X11_letter_0 rfl rfl rfl rfl ?_
  refine me_1f (pc' := 4) dm_X11_letter_1 rfl (by decide) rfl ?_
  refine me1 (pc' := 5) dm_X11_letter_4 rfl rfl rfl rfl ?_
  refine me0 (pc' := 7) (S' := .int (8 : Int32) :: _) dm_X11_letter_5 rfl rfl rfl rfl ?_
  refine me_2t (pc' := 12) dm_X11_letter_7 rfl rfl ?_
  refine me1 (pc' := 13) dm_X11_letter_12 rfl rfl rfl rfl ?_
  refine me3 (pc' := 16) dm_X11_letter_13 (g_get (v := .ref 4) (lu (n := 2) (j := 0) hn rfl) rfl rfl (Nat.le_of_ble_eq_true rfl)) rfl rfl rfl ?_
  refine me1 (pc' := 17) dm_X11_letter_16 rfl rfl rfl rfl ?_
  refine me1 (pc' := 18) dm_X11_letter_17 rfl rfl rfl rfl ?_
  refine me4 (pc' := 21) (L0 := [(0, .ref 4), (1, .int (0 : Int32)), (2, .int p1)]) dm_X11_letter_18 rfl (g_inv (As := [.int (0 : Int32), .int p1]) (lu (n := 2) (j := 2) hn rfl) rfl rfl rfl (Nat.le_of_ble_eq_true rfl)) pm_X2_keyAt rfl (Nat.le_of_ble_eq_true rfl) rfl rfl rfl ?_
  refine me1 (pc' := 1) dm_X2_keyAt_0 rfl rfl rfl rfl ?_
  refine me_1t (pc' := 13) dm_X2_keyAt_1 rfl (cn_t_lt (c := 0) rfl (by omega)) ?_
  refine me0 (pc' := 14) (S' := .long (0 : Int64) :: _) dm_X2_keyAt_13 rfl rfl rfl rfl ?_
  refine me5 dm_X2_keyAt_14 rfl rfl rfl ?_
  refine me1 (pc' := 22) dm_X11_letter_21 rfl rfl rfl rfl ?_
  refine me0 (pc' := 23) (S' := .int (5 : Int32) :: _) dm_X11_letter_22 rfl rfl rfl rfl ?_
  refine me0 (pc' := 24) (S' := .int (15 : Int32) :: _) dm_X11_letter_23 rfl rfl rfl rfl ?_
  refine me0 (pc' := 25) (S' := .long (0 : Int64) :: _) dm_X11_letter_24 rfl rfl rfl rfl ?_
  refine me0 (pc' := 26) (S' := .int (0 : Int32) :: _) dm_X11_letter_25 rfl rfl rfl rfl ?_
  refine me0 (pc' := 28) (S' := .int (31 : Int32) :: _) dm_X11_letter_26 rfl rfl rfl rfl ?_
  refine me0 (pc' := 29) (S' := .int (0 : Int32) :: _) dm_X11_letter_28 rfl rfl rfl rfl ?_
  refine me1 (pc' := 31) (L' := [(4, .int (0 : Int32)), (0, .ref 2), (1, .int (0 : Int32)), (2, .int p1), (3, .int (3 : Int32))]) dm_X11_letter_29 rfl rfl rfl rfl ?_
  refine me1 (pc' := 33) dm_X11_letter_31 rfl rfl rfl rfl ?_
  refine me_1f (pc' := 36) dm_X11_letter_33 rfl (by decide) rfl ?_
  refine me0 (pc' := 37) (S' := .int (-1 : Int32) :: _) dm_X11_letter_36 rfl rfl rfl rfl ?_
  refine me2 (pc' := 45) dm_X11_letter_37 rfl rfl rfl ?_
  refine me5 dm_X11_letter_45 rfl rfl rfl ?_
  exact k _ _ rfl (Nat.le_of_ble_eq_true rfl) (Nat.le_of_ble_eq_true rfl) (Nat.le_of_ble_eq_true rfl)
set_option maxRecDepth 100000 in
set_option maxHeartbeats 40000000 in
theorem c_letter_v0_lt_v4 {xt : mj_X} {d : Nat} {h V : mj_H} (hn : h.length = 2) (hv : V.length = 25) {P : Option Value → mj_H → Prop} {p1 : Int32} (hh1 : p1.toInt ≤ -1) (k : ∀ U D, U.length = 100 → mj_sl U ≤ 20000 → D.length ≤ 10 → mj_sl D ≤ 2000 → P (some (.int (-1 : Int32))) (h ++ (U ++ (V ++ D)))) : pgE xt (d + 20) 11 5 false (Option.some FieldType.int) (mj_dec prog_1_method_18_code) 0 [(0, .ref 2), (1, .int (0 : Int32)), (2, .int p1), (3, .int (4 : Int32))] [] (h ++ (cT ++ (V ++ []))) P := by
  refine me1 (pc' := 1) dm_X11_letter_0 rfl rfl rfl rfl ?_
  refine me_1f (pc' := 4) dm_X11_letter_1 rfl (by decide) rfl ?_
  refine me1 (pc' := 5) dm_X11_letter_4 rfl rfl rfl rfl ?_
  refine me0 (pc' := 7) (S' := .int (8 : Int32) :: _) dm_X11_letter_5 rfl rfl rfl rfl ?_
  refine me_2t (pc' := 12) dm_X11_letter_7 rfl rfl ?_
  refine me1 (pc' := 13) dm_X11_letter_12 rfl rfl rfl rfl ?_
  refine me3 (pc' := 16) dm_X11_letter_13 (g_get (v := .ref 4) (lu (n := 2) (j := 0) hn rfl) rfl rfl (Nat.le_of_ble_eq_true rfl)) rfl rfl rfl ?_
  refine me1 (pc' := 17) dm_X11_letter_16 rfl rfl rfl rfl ?_
  refine me1 (pc' := 18) dm_X11_letter_17 rfl rfl rfl rfl ?_
  refine me4 (pc' := 21) (L0 := [(0, .ref 4), (1, .int (0 : Int32)), (2, .int p1)]) dm_X11_letter_18 rfl (g_inv (As := [.int (0 : Int32), .int p1]) (lu (n := 2) (j := 2) hn rfl) rfl rfl rfl (Nat.le_of_ble_eq_true rfl)) pm_X2_keyAt rfl (Nat.le_of_ble_eq_true rfl) rfl rfl rfl ?_
  refine me1 (pc' := 1) dm_X2_keyAt_0 rfl rfl rfl rfl ?_
  refine me_1t (pc' := 13) dm_X2_keyAt_1 rfl (cn_t_lt (c := 0) rfl (by omega)) ?_
  refine me0 (pc' := 14) (S' := .long (0 : Int64) :: _) dm_X2_keyAt_13 rfl rfl rfl rfl ?_
  refine me5 dm_X2_keyAt_14 rfl rfl rfl ?_
  refine me1 (pc' := 22) dm_X11_letter_21 rfl rfl rfl rfl ?_
  refine me0 (pc' := 23) (S' := .int (5 : Int32) :: _) dm_X11_letter_22 rfl rfl rfl rfl ?_
  refine me0 (pc' := 24) (S' := .int (20 : Int32) :: _) dm_X11_letter_23 rfl rfl rfl rfl ?_
  refine me0 (pc' := 25) (S' := .long (0 : Int64) :: _) dm_X11_letter_24 rfl rfl rfl rfl ?_
  refine me0 (pc' := 26) (S' := .int (0 : Int32) :: _) dm_X11_letter_25 rfl rfl rfl rfl ?_
  refine me0 (pc' := 28) (S' := .int (31 : Int32) :: _) dm_X11_letter_26 rfl rfl rfl rfl ?_
  refine me0 (pc' := 29) (S' := .int (0 : Int32) :: _) dm_X11_letter_28 rfl rfl rfl rfl ?_
  refine me1 (pc' := 31) (L' := [(4, .int (0 : Int32)), (0, .ref 2), (1, .int (0 : Int32)), (2, .int p1), (3, .int (4 : Int32))]) dm_X11_letter_29 rfl rfl rfl rfl ?_
  refine me1 (pc' := 33) dm_X11_letter_31 rfl rfl rfl rfl ?_
  refine me_1f (pc' := 36) dm_X11_letter_33 rfl (by decide) rfl ?_
  refine me0 (pc' := 37) (S' := .int (-1 : Int32) :: _) dm_X11_letter_36 rfl rfl rfl rfl ?_
  refine me2 (pc' := 45) dm_X11_letter_37 rfl rfl rfl ?_
  refine me5 dm_X11_letter_45 rfl rfl rfl ?_
  exact k _ _ rfl (Nat.le_of_ble_eq_true rfl) (Nat.le_of_ble_eq_true rfl) (Nat.le_of_ble_eq_true rfl)
set_option maxRecDepth 100000 in
set_option maxHeartbeats 40000000 in
theorem c_letter_v0_lt_v5 {xt : mj_X} {d : Nat} {h V : mj_H} (hn : h.length = 2) (hv : V.length = 25) {P : Option Value → mj_H → Prop} {p1 : Int32} (hh1 : p1.toInt ≤ -1) (k : ∀ U D, U.length = 100 → mj_sl U ≤ 20000 → D.length ≤ 10 → mj_sl D ≤ 2000 → P (some (.int (-1 : Int32))) (h ++ (U ++ (V ++ D)))) : pgE xt (d + 20) 11 5 false (Option.some FieldType.int) (mj_dec prog_1_method_18_code) 0 [(0, .ref 2), (1, .int (0 : Int32)), (2, .int p1), (3, .int (5 : Int32))] [] (h ++ (cT ++ (V ++ []))) P := by
  refine me1 (pc' := 1) dm_X11_letter_0 rfl rfl rfl rfl ?_
  refine me_1f (pc' := 4) dm_X11_letter_1 rfl (by decide) rfl ?_
  refine me1 (pc' := 5) dm_X11_letter_4 rfl rfl rfl rfl ?_
  refine me0 (pc' := 7) (S' := .int (8 : Int32) :: _) dm_X11_letter_5 rfl rfl rfl rfl ?_
  refine me_2t (pc' := 12) dm_X11_letter_7 rfl rfl ?_
  refine me1 (pc' := 13) dm_X11_letter_12 rfl rfl rfl rfl ?_
  refine me3 (pc' := 16) dm_X11_letter_13 (g_get (v := .ref 4) (lu (n := 2) (j := 0) hn rfl) rfl rfl (Nat.le_of_ble_eq_true rfl)) rfl rfl rfl ?_
  refine me1 (pc' := 17) dm_X11_letter_16 rfl rfl rfl rfl ?_
  refine me1 (pc' := 18) dm_X11_letter_17 rfl rfl rfl rfl ?_
  refine me4 (pc' := 21) (L0 := [(0, .ref 4), (1, .int (0 : Int32)), (2, .int p1)]) dm_X11_letter_18 rfl (g_inv (As := [.int (0 : Int32), .int p1]) (lu (n := 2) (j := 2) hn rfl) rfl rfl rfl (Nat.le_of_ble_eq_true rfl)) pm_X2_keyAt rfl (Nat.le_of_ble_eq_true rfl) rfl rfl rfl ?_
  refine me1 (pc' := 1) dm_X2_keyAt_0 rfl rfl rfl rfl ?_
  refine me_1t (pc' := 13) dm_X2_keyAt_1 rfl (cn_t_lt (c := 0) rfl (by omega)) ?_
  refine me0 (pc' := 14) (S' := .long (0 : Int64) :: _) dm_X2_keyAt_13 rfl rfl rfl rfl ?_
  refine me5 dm_X2_keyAt_14 rfl rfl rfl ?_
  refine me1 (pc' := 22) dm_X11_letter_21 rfl rfl rfl rfl ?_
  refine me0 (pc' := 23) (S' := .int (5 : Int32) :: _) dm_X11_letter_22 rfl rfl rfl rfl ?_
  refine me0 (pc' := 24) (S' := .int (25 : Int32) :: _) dm_X11_letter_23 rfl rfl rfl rfl ?_
  refine me0 (pc' := 25) (S' := .long (0 : Int64) :: _) dm_X11_letter_24 rfl rfl rfl rfl ?_
  refine me0 (pc' := 26) (S' := .int (0 : Int32) :: _) dm_X11_letter_25 rfl rfl rfl rfl ?_
  refine me0 (pc' := 28) (S' := .int (31 : Int32) :: _) dm_X11_letter_26 rfl rfl rfl rfl ?_
  refine me0 (pc' := 29) (S' := .int (0 : Int32) :: _) dm_X11_letter_28 rfl rfl rfl rfl ?_
  refine me1 (pc' := 31) (L' := [(4, .int (0 : Int32)), (0, .ref 2), (1, .int (0 : Int32)), (2, .int p1), (3, .int (5 : Int32))]) dm_X11_letter_29 rfl rfl rfl rfl ?_
  refine me1 (pc' := 33) dm_X11_letter_31 rfl rfl rfl rfl ?_
  refine me_1f (pc' := 36) dm_X11_letter_33 rfl (by decide) rfl ?_
  refine me0 (pc' := 37) (S' := .int (-1 : Int32) :: _) dm_X11_letter_36 rfl rfl rfl rfl ?_
  refine me2 (pc' := 45) dm_X11_letter_37 rfl rfl rfl ?_
  refine me5 dm_X11_letter_45 rfl rfl rfl ?_
  exact k _ _ rfl (Nat.le_of_ble_eq_true rfl) (Nat.le_of_ble_eq_true rfl) (Nat.le_of_ble_eq_true rfl)
set_option maxRecDepth 100000 in
set_option maxHeartbeats 40000000 in
theorem c_letter_v0_lt_v6 {xt : mj_X} {d : Nat} {h V : mj_H} (hn : h.length = 2) (hv : V.length = 25) {P : Option Value → mj_H → Prop} {p1 : Int32} (hh1 : p1.toInt ≤ -1) (k : ∀ U D, U.length = 100 → mj_sl U ≤ 20000 → D.length ≤ 10 → mj_sl D ≤ 2000 → P (some (.int (-1 : Int32))) (h ++ (U ++ (V ++ D)))) : pgE xt (d + 20) 11 5 false (Option.some FieldType.int) (mj_dec prog_1_method_18_code) 0 [(0, .ref 2), (1, .int (0 : Int32)), (2, .int p1), (3, .int (6 : Int32))] [] (h ++ (cT ++ (V ++ []))) P := by
  refine me1 (pc' := 1) dm_X11_letter_0 rfl rfl rfl rfl ?_
  refine me_1f (pc' := 4) dm_X11_letter_1 rfl (by decide) rfl ?_
  refine me1 (pc' := 5) dm_X11_letter_4 rfl rfl rfl rfl ?_
  refine me0 (pc' := 7) (S' := .int (8 : Int32) :: _) dm_X11_letter_5 rfl rfl rfl rfl ?_
  refine me_2t (pc' := 12) dm_X11_letter_7 rfl rfl ?_
  refine me1 (pc' := 13) dm_X11_letter_12 rfl rfl rfl rfl ?_
  refine me3 (pc' := 16) dm_X11_letter_13 (g_get (v := .ref 4) (lu (n := 2) (j := 0) hn rfl) rfl rfl (Nat.le_of_ble_eq_true rfl)) rfl rfl rfl ?_
  refine me1 (pc' := 17) dm_X11_letter_16 rfl rfl rfl rfl ?_
  refine me1 (pc' := 18) dm_X11_letter_17 rfl rfl rfl rfl ?_
  refine me4 (pc' := 21) (L0 := [(0, .ref 4), (1, .int (0 : Int32)), (2, .int p1)]) dm_X11_letter_18 rfl (g_inv (As := [.int (0 : Int32), .int p1]) (lu (n := 2) (j := 2) hn rfl) rfl rfl rfl (Nat.le_of_ble_eq_true rfl)) pm_X2_keyAt rfl (Nat.le_of_ble_eq_true rfl) rfl rfl rfl ?_
  refine me1 (pc' := 1) dm_X2_keyAt_0 rfl rfl rfl rfl ?_
  refine me_1t (pc' := 13) dm_X2_keyAt_1 rfl (cn_t_lt (c := 0) rfl (by omega)) ?_
  refine me0 (pc' := 14) (S' := .long (0 : Int64) :: _) dm_X2_keyAt_13 rfl rfl rfl rfl ?_
  refine me5 dm_X2_keyAt_14 rfl rfl rfl ?_
  refine me1 (pc' := 22) dm_X11_letter_21 rfl rfl rfl rfl ?_
  refine me0 (pc' := 23) (S' := .int (5 : Int32) :: _) dm_X11_letter_22 rfl rfl rfl rfl ?_
  refine me0 (pc' := 24) (S' := .int (30 : Int32) :: _) dm_X11_letter_23 rfl rfl rfl rfl ?_
  refine me0 (pc' := 25) (S' := .long (0 : Int64) :: _) dm_X11_letter_24 rfl rfl rfl rfl ?_
  refine me0 (pc' := 26) (S' := .int (0 : Int32) :: _) dm_X11_letter_25 rfl rfl rfl rfl ?_
  refine me0 (pc' := 28) (S' := .int (31 : Int32) :: _) dm_X11_letter_26 rfl rfl rfl rfl ?_
  refine me0 (pc' := 29) (S' := .int (0 : Int32) :: _) dm_X11_letter_28 rfl rfl rfl rfl ?_
  refine me1 (pc' := 31) (L' := [(4, .int (0 : Int32)), (0, .ref 2), (1, .int (0 : Int32)), (2, .int p1), (3, .int (6 : Int32))]) dm_X11_letter_29 rfl rfl rfl rfl ?_
  refine me1 (pc' := 33) dm_X11_letter_31 rfl rfl rfl rfl ?_
  refine me_1f (pc' := 36) dm_X11_letter_33 rfl (by decide) rfl ?_
  refine me0 (pc' := 37) (S' := .int (-1 : Int32) :: _) dm_X11_letter_36 rfl rfl rfl rfl ?_
  refine me2 (pc' := 45) dm_X11_letter_37 rfl rfl rfl ?_
  refine me5 dm_X11_letter_45 rfl rfl rfl ?_
  exact k _ _ rfl (Nat.le_of_ble_eq_true rfl) (Nat.le_of_ble_eq_true rfl) (Nat.le_of_ble_eq_true rfl)
set_option maxRecDepth 100000 in
set_option maxHeartbeats 40000000 in
theorem c_letter_v0_lt_v7 {xt : mj_X} {d : Nat} {h V : mj_H} (hn : h.length = 2) (hv : V.length = 25) {P : Option Value → mj_H → Prop} {p1 : Int32} (hh1 : p1.toInt ≤ -1) (k : ∀ U D, U.length = 100 → mj_sl U ≤ 20000 → D.length ≤ 10 → mj_sl D ≤ 2000 → P (some (.int (-1 : Int32))) (h ++ (U ++ (V ++ D)))) : pgE xt (d + 20) 11 5 false (Option.some FieldType.int) (mj_dec prog_1_method_18_code) 0 [(0, .ref 2), (1, .int (0 : Int32)), (2, .int p1), (3, .int (7 : Int32))] [] (h ++ (cT ++ (V ++ []))) P := by
  refine me1 (pc' := 1) dm_X11_letter_0 rfl rfl rfl rfl ?_
  refine me_1f (pc' := 4) dm_X11_letter_1 rfl (by decide) rfl ?_
  refine me1 (pc' := 5) dm_X11_letter_4 rfl rfl rfl rfl ?_
  refine me0 (pc' := 7) (S' := .int (8 : Int32) :: _) dm_X11_letter_5 rfl rfl rfl rfl ?_
  refine me_2t (pc' := 12) dm_X11_letter_7 rfl rfl ?_
  refine me1 (pc' := 13) dm_X11_letter_12 rfl rfl rfl rfl ?_
  refine me3 (pc' := 16) dm_X11_letter_13 (g_get (v := .ref 4) (lu (n := 2) (j := 0) hn rfl) rfl rfl (Nat.le_of_ble_eq_true rfl)) rfl rfl rfl ?_
  refine me1 (pc' := 17) dm_X11_letter_16 rfl rfl rfl rfl ?_
  refine me1 (pc' := 18) dm_X11_letter_17 rfl rfl rfl rfl ?_
  refine me4 (pc' := 21) (L0 := [(0, .ref 4), (1, .int (0 : Int32)), (2, .int p1)]) dm_X11_letter_18 rfl (g_inv (As := [.int (0 : Int32), .int p1]) (lu (n := 2) (j := 2) hn rfl) rfl rfl rfl (Nat.le_of_ble_eq_true rfl)) pm_X2_keyAt rfl (Nat.le_of_ble_eq_true rfl) rfl rfl rfl ?_
  refine me1 (pc' := 1) dm_X2_keyAt_0 rfl rfl rfl rfl ?_
  refine me_1t (pc' := 13) dm_X2_keyAt_1 rfl (cn_t_lt (c := 0) rfl (by omega)) ?_
  refine me0 (pc' := 14) (S' := .long (0 : Int64) :: _) dm_X2_keyAt_13 rfl rfl rfl rfl ?_
  refine me5 dm_X2_keyAt_14 rfl rfl rfl ?_
  refine me1 (pc' := 22) dm_X11_letter_21 rfl rfl rfl rfl ?_
  refine me0 (pc' := 23) (S' := .int (5 : Int32) :: _) dm_X11_letter_22 rfl rfl rfl rfl ?_
  refine me0 (pc' := 24) (S' := .int (35 : Int32) :: _) dm_X11_letter_23 rfl rfl rfl rfl ?_
  refine me0 (pc' := 25) (S' := .long (0 : Int64) :: _) dm_X11_letter_24 rfl rfl rfl rfl ?_
  refine me0 (pc' := 26) (S' := .int (0 : Int32) :: _) dm_X11_letter_25 rfl rfl rfl rfl ?_
  refine me0 (pc' := 28) (S' := .int (31 : Int32) :: _) dm_X11_letter_26 rfl rfl rfl rfl ?_
  refine me0 (pc' := 29) (S' := .int (0 : Int32) :: _) dm_X11_letter_28 rfl rfl rfl rfl ?_
  refine me1 (pc' := 31) (L' := [(4, .int (0 : Int32)), (0, .ref 2), (1, .int (0 : Int32)), (2, .int p1), (3, .int (7 : Int32))]) dm_X11_letter_29 rfl rfl rfl rfl ?_
  refine me1 (pc' := 33) dm_X11_letter_31 rfl rfl rfl rfl ?_
  refine me_1f (pc' := 36) dm_X11_letter_33 rfl (by decide) rfl ?_
  refine me0 (pc' := 37) (S' := .int (-1 : Int32) :: _) dm_X11_letter_36 rfl rfl rfl rfl ?_
  refine me2 (pc' := 45) dm_X11_letter_37 rfl rfl rfl ?_
  refine me5 dm_X11_letter_45 rfl rfl rfl ?_
  exact k _ _ rfl (Nat.le_of_ble_eq_true rfl) (Nat.le_of_ble_eq_true rfl) (Nat.le_of_ble_eq_true rfl)
set_option maxRecDepth 100000 in
set_option maxHeartbeats 40000000 in
theorem c_letter_v0_lt_ge {xt : mj_X} {d : Nat} {h V : mj_H} (hn : h.length = 2) (hv : V.length = 25) {P : Option Value → mj_H → Prop} {p1 : Int32} {p2 : Int32} (hh1 : p1.toInt ≤ -1) (hl2 : 8 ≤ p2.toInt) (k : ∀ U D, U.length = 100 → mj_sl U ≤ 20000 → D.length ≤ 10 → mj_sl D ≤ 2000 → P (some (.int (-1 : Int32))) (h ++ (U ++ (V ++ D)))) : pgE xt (d + 20) 11 5 false (Option.some FieldType.int) (mj_dec prog_1_method_18_code) 0 [(0, .ref 2), (1, .int (0 : Int32)), (2, .int p1), (3, .int p2)] [] (h ++ (cT ++ (V ++ []))) P := by
  refine me1 (pc' := 1) dm_X11_letter_0 rfl rfl rfl rfl ?_
  refine me_1f (pc' := 4) dm_X11_letter_1 rfl (cn_f_lt (c := 0) rfl (by omega)) rfl ?_
  refine me1 (pc' := 5) dm_X11_letter_4 rfl rfl rfl rfl ?_
  refine me0 (pc' := 7) (S' := .int (8 : Int32) :: _) dm_X11_letter_5 rfl rfl rfl rfl ?_
  refine me_2f (pc' := 10) dm_X11_letter_7 rfl (cn_f_lt (c := 8) rfl (by omega)) rfl ?_
  refine me0 (pc' := 11) (S' := .int (-1 : Int32) :: _) dm_X11_letter_10 rfl rfl rfl rfl ?_
  refine me5 dm_X11_letter_11 rfl rfl rfl ?_
  exact k _ _ rfl (Nat.le_of_ble_eq_true rfl) (Nat.le_of_ble_eq_true rfl) (Nat.le_of_ble_eq_true rfl)
set_option maxRecDepth 100000 in
set_option maxHeartbeats 40000000 in
theorem c_letter_v0_ge_lt {xt : mj_X} {d : Nat} {h V : mj_H} (hn : h.length = 2) (hv : V.length = 25) {P : Option Value → mj_H → Prop} {p1 : Int32} {p2 : Int32} (hl1 : 0 ≤ p1.toInt) (hh2 : p2.toInt ≤ -1) (k : ∀ U D, U.length = 100 → mj_sl U ≤ 20000 → D.length ≤ 10 → mj_sl D ≤ 2000 → P (some (.int (-1 : Int32))) (h ++ (U ++ (V ++ D)))) : pgE xt (d + 20) 11 5 false (Option.some FieldType.int) (mj_dec prog_1_method_18_code) 0 [(0, .ref 2), (1, .int (0 : Int32)), (2, .int p1), (3, .int p2)] [] (h ++ (cT ++ (V ++ []))) P := by
  refine me1 (pc' := 1) dm_X11_letter_0 rfl rfl rfl rfl ?_
  refine me_1t (pc' := 10) dm_X11_letter_1 rfl (cn_t_lt (c := 0) rfl (by omega)) ?_
  refine me0 (pc' := 11) (S' := .int (-1 : Int32) :: _) dm_X11_letter_10 rfl rfl rfl rfl ?_
  refine me5 dm_X11_letter_11 rfl rfl rfl ?_
  exact k _ _ rfl (Nat.le_of_ble_eq_true rfl) (Nat.le_of_ble_eq_true rfl) (Nat.le_of_ble_eq_true rfl)
set_option maxRecDepth 100000 in
set_option maxHeartbeats 40000000 in
theorem c_letter_v0_ge_v0 {xt : mj_X} {d : Nat} {h V : mj_H} (hn : h.length = 2) (hv : V.length = 25) {P : Option Value → mj_H → Prop} {p1 : Int32} (hl1 : 0 ≤ p1.toInt) (k : ∀ U D, U.length = 100 → mj_sl U ≤ 20000 → D.length ≤ 10 → mj_sl D ≤ 2000 → P (some (.int (-1 : Int32))) (h ++ (U ++ (V ++ D)))) : pgE xt (d + 20) 11 5 false (Option.some FieldType.int) (mj_dec prog_1_method_18_code) 0 [(0, .ref 2), (1, .int (0 : Int32)), (2, .int p1), (3, .int (0 : Int32))] [] (h ++ (cT ++ (V ++ []))) P := by
  refine me1 (pc' := 1) dm_X11_letter_0 rfl rfl rfl rfl ?_
  refine me_1f (pc' := 4) dm_X11_letter_1 rfl (by decide) rfl ?_
  refine me1 (pc' := 5) dm_X11_letter_4 rfl rfl rfl rfl ?_
  refine me0 (pc' := 7) (S' := .int (8 : Int32) :: _) dm_X11_letter_5 rfl rfl rfl rfl ?_
  refine me_2t (pc' := 12) dm_X11_letter_7 rfl rfl ?_
  refine me1 (pc' := 13) dm_X11_letter_12 rfl rfl rfl rfl ?_
  refine me3 (pc' := 16) dm_X11_letter_13 (g_get (v := .ref 4) (lu (n := 2) (j := 0) hn rfl) rfl rfl (Nat.le_of_ble_eq_true rfl)) rfl rfl rfl ?_
  refine me1 (pc' := 17) dm_X11_letter_16 rfl rfl rfl rfl ?_
  refine me1 (pc' := 18) dm_X11_letter_17 rfl rfl rfl rfl ?_
  refine me4 (pc' := 21) (L0 := [(0, .ref 4), (1, .int (0 : Int32)), (2, .int p1)]) dm_X11_letter_18 rfl (g_inv (As := [.int (0 : Int32), .int p1]) (lu (n := 2) (j := 2) hn rfl) rfl rfl rfl (Nat.le_of_ble_eq_true rfl)) pm_X2_keyAt rfl (Nat.le_of_ble_eq_true rfl) rfl rfl rfl ?_
  refine me1 (pc' := 1) dm_X2_keyAt_0 rfl rfl rfl rfl ?_
  refine me_1f (pc' := 4) dm_X2_keyAt_1 rfl (cn_f_lt (c := 0) rfl (by omega)) rfl ?_
  refine me1 (pc' := 5) dm_X2_keyAt_4 rfl rfl rfl rfl ?_
  refine me1 (pc' := 6) dm_X2_keyAt_5 rfl rfl rfl rfl ?_
  refine me1 (pc' := 7) dm_X2_keyAt_6 rfl rfl rfl rfl ?_
  refine me4 (pc' := 10) (L0 := [(0, .ref 4), (1, .int (0 : Int32))]) dm_X2_keyAt_7 rfl (g_inv (As := [.int (0 : Int32)]) (lu (n := 2) (j := 2) hn rfl) rfl rfl rfl (Nat.le_of_ble_eq_true rfl)) pm_X2_howMany rfl (Nat.le_of_ble_eq_true rfl) rfl rfl rfl ?_
  refine me1 (pc' := 1) dm_X2_howMany_0 rfl rfl rfl rfl ?_
  refine me_1f (pc' := 4) dm_X2_howMany_1 rfl (by decide) rfl ?_
  refine me1 (pc' := 5) dm_X2_howMany_4 rfl rfl rfl rfl ?_
  refine me3 (pc' := 8) dm_X2_howMany_5 (g_get (v := .int (0 : Int32)) (lu (n := 2) (j := 2) hn rfl) rfl rfl (Nat.le_of_ble_eq_true rfl)) rfl rfl rfl ?_
  refine me5 dm_X2_howMany_8 rfl rfl rfl ?_
  refine me_2f (pc' := 13) dm_X2_keyAt_10 rfl (cn_f_lt (c := 0) rfl (by omega)) rfl ?_
  refine me0 (pc' := 14) (S' := .long (0 : Int64) :: _) dm_X2_keyAt_13 rfl rfl rfl rfl ?_
  refine me5 dm_X2_keyAt_14 rfl rfl rfl ?_
  refine me1 (pc' := 22) dm_X11_letter_21 rfl rfl rfl rfl ?_
  refine me0 (pc' := 23) (S' := .int (5 : Int32) :: _) dm_X11_letter_22 rfl rfl rfl rfl ?_
  refine me0 (pc' := 24) (S' := .int (0 : Int32) :: _) dm_X11_letter_23 rfl rfl rfl rfl ?_
  refine me0 (pc' := 25) (S' := .long (0 : Int64) :: _) dm_X11_letter_24 rfl rfl rfl rfl ?_
  refine me0 (pc' := 26) (S' := .int (0 : Int32) :: _) dm_X11_letter_25 rfl rfl rfl rfl ?_
  refine me0 (pc' := 28) (S' := .int (31 : Int32) :: _) dm_X11_letter_26 rfl rfl rfl rfl ?_
  refine me0 (pc' := 29) (S' := .int (0 : Int32) :: _) dm_X11_letter_28 rfl rfl rfl rfl ?_
  refine me1 (pc' := 31) (L' := [(4, .int (0 : Int32)), (0, .ref 2), (1, .int (0 : Int32)), (2, .int p1), (3, .int (0 : Int32))]) dm_X11_letter_29 rfl rfl rfl rfl ?_
  refine me1 (pc' := 33) dm_X11_letter_31 rfl rfl rfl rfl ?_
  refine me_1f (pc' := 36) dm_X11_letter_33 rfl (by decide) rfl ?_
  refine me0 (pc' := 37) (S' := .int (-1 : Int32) :: _) dm_X11_letter_36 rfl rfl rfl rfl ?_
  refine me2 (pc' := 45) dm_X11_letter_37 rfl rfl rfl ?_
  refine me5 dm_X11_letter_45 rfl rfl rfl ?_
  exact k _ _ rfl (Nat.le_of_ble_eq_true rfl) (Nat.le_of_ble_eq_true rfl) (Nat.le_of_ble_eq_true rfl)
set_option maxRecDepth 100000 in
set_option maxHeartbeats 40000000 in
theorem c_letter_v0_ge_v1 {xt : mj_X} {d : Nat} {h V : mj_H} (hn : h.length = 2) (hv : V.length = 25) {P : Option Value → mj_H → Prop} {p1 : Int32} (hl1 : 0 ≤ p1.toInt) (k : ∀ U D, U.length = 100 → mj_sl U ≤ 20000 → D.length ≤ 10 → mj_sl D ≤ 2000 → P (some (.int (-1 : Int32))) (h ++ (U ++ (V ++ D)))) : pgE xt (d + 20) 11 5 false (Option.some FieldType.int) (mj_dec prog_1_method_18_code) 0 [(0, .ref 2), (1, .int (0 : Int32)), (2, .int p1), (3, .int (1 : Int32))] [] (h ++ (cT ++ (V ++ []))) P := by
  refine me1 (pc' := 1) dm_X11_letter_0 rfl rfl rfl rfl ?_
  refine me_1f (pc' := 4) dm_X11_letter_1 rfl (by decide) rfl ?_
  refine me1 (pc' := 5) dm_X11_letter_4 rfl rfl rfl rfl ?_
  refine me0 (pc' := 7) (S' := .int (8 : Int32) :: _) dm_X11_letter_5 rfl rfl rfl rfl ?_
  refine me_2t (pc' := 12) dm_X11_letter_7 rfl rfl ?_
  refine me1 (pc' := 13) dm_X11_letter_12 rfl rfl rfl rfl ?_
  refine me3 (pc' := 16) dm_X11_letter_13 (g_get (v := .ref 4) (lu (n := 2) (j := 0) hn rfl) rfl rfl (Nat.le_of_ble_eq_true rfl)) rfl rfl rfl ?_
  refine me1 (pc' := 17) dm_X11_letter_16 rfl rfl rfl rfl ?_
  refine me1 (pc' := 18) dm_X11_letter_17 rfl rfl rfl rfl ?_
  refine me4 (pc' := 21) (L0 := [(0, .ref 4), (1, .int (0 : Int32)), (2, .int p1)]) dm_X11_letter_18 rfl (g_inv (As := [.int (0 : Int32), .int p1]) (lu (n := 2) (j := 2) hn rfl) rfl rfl rfl (Nat.le_of_ble_eq_true rfl)) pm_X2_keyAt rfl (Nat.le_of_ble_eq_true rfl) rfl rfl rfl ?_
  refine me1 (pc' := 1) dm_X2_keyAt_0 rfl rfl rfl rfl ?_
  refine me_1f (pc' := 4) dm_X2_keyAt_1 rfl (cn_f_lt (c := 0) rfl (by omega)) rfl ?_
  refine me1 (pc' := 5) dm_X2_keyAt_4 rfl rfl rfl rfl ?_
  refine me1 (pc' := 6) dm_X2_keyAt_5 rfl rfl rfl rfl ?_
  refine me1 (pc' := 7) dm_X2_keyAt_6 rfl rfl rfl rfl ?_
  refine me4 (pc' := 10) (L0 := [(0, .ref 4), (1, .int (0 : Int32))]) dm_X2_keyAt_7 rfl (g_inv (As := [.int (0 : Int32)]) (lu (n := 2) (j := 2) hn rfl) rfl rfl rfl (Nat.le_of_ble_eq_true rfl)) pm_X2_howMany rfl (Nat.le_of_ble_eq_true rfl) rfl rfl rfl ?_
  refine me1 (pc' := 1) dm_X2_howMany_0 rfl rfl rfl rfl ?_
  refine me_1f (pc' := 4) dm_X2_howMany_1 rfl (by decide) rfl ?_
  refine me1 (pc' := 5) dm_X2_howMany_4 rfl rfl rfl rfl ?_
  refine me3 (pc' := 8) dm_X2_howMany_5 (g_get (v := .int (0 : Int32)) (lu (n := 2) (j := 2) hn rfl) rfl rfl (Nat.le_of_ble_eq_true rfl)) rfl rfl rfl ?_
  refine me5 dm_X2_howMany_8 rfl rfl rfl ?_
  refine me_2f (pc' := 13) dm_X2_keyAt_10 rfl (cn_f_lt (c := 0) rfl (by omega)) rfl ?_
  refine me0 (pc' := 14) (S' := .long (0 : Int64) :: _) dm_X2_keyAt_13 rfl rfl rfl rfl ?_
  refine me5 dm_X2_keyAt_14 rfl rfl rfl ?_
  refine me1 (pc' := 22) dm_X11_letter_21 rfl rfl rfl rfl ?_
  refine me0 (pc' := 23) (S' := .int (5 : Int32) :: _) dm_X11_letter_22 rfl rfl rfl rfl ?_
  refine me0 (pc' := 24) (S' := .int (5 : Int32) :: _) dm_X11_letter_23 rfl rfl rfl rfl ?_
  refine me0 (pc' := 25) (S' := .long (0 : Int64) :: _) dm_X11_letter_24 rfl rfl rfl rfl ?_
  refine me0 (pc' := 26) (S' := .int (0 : Int32) :: _) dm_X11_letter_25 rfl rfl rfl rfl ?_
  refine me0 (pc' := 28) (S' := .int (31 : Int32) :: _) dm_X11_letter_26 rfl rfl rfl rfl ?_
  refine me0 (pc' := 29) (S' := .int (0 : Int32) :: _) dm_X11_letter_28 rfl rfl rfl rfl ?_
  refine me1 (pc' := 31) (L' := [(4, .int (0 : Int32)), (0, .ref 2), (1, .int (0 : Int32)), (2, .int p1), (3, .int (1 : Int32))]) dm_X11_letter_29 rfl rfl rfl rfl ?_
  refine me1 (pc' := 33) dm_X11_letter_31 rfl rfl rfl rfl ?_
  refine me_1f (pc' := 36) dm_X11_letter_33 rfl (by decide) rfl ?_
  refine me0 (pc' := 37) (S' := .int (-1 : Int32) :: _) dm_X11_letter_36 rfl rfl rfl rfl ?_
  refine me2 (pc' := 45) dm_X11_letter_37 rfl rfl rfl ?_
  refine me5 dm_X11_letter_45 rfl rfl rfl ?_
  exact k _ _ rfl (Nat.le_of_ble_eq_true rfl) (Nat.le_of_ble_eq_true rfl) (Nat.le_of_ble_eq_true rfl)
set_option maxRecDepth 100000 in
set_option maxHeartbeats 40000000 in
theorem c_letter_v0_ge_v2 {xt : mj_X} {d : Nat} {h V : mj_H} (hn : h.length = 2) (hv : V.length = 25) {P : Option Value → mj_H → Prop} {p1 : Int32} (hl1 : 0 ≤ p1.toInt) (k : ∀ U D, U.length = 100 → mj_sl U ≤ 20000 → D.length ≤ 10 → mj_sl D ≤ 2000 → P (some (.int (-1 : Int32))) (h ++ (U ++ (V ++ D)))) : pgE xt (d + 20) 11 5 false (Option.some FieldType.int) (mj_dec prog_1_method_18_code) 0 [(0, .ref 2), (1, .int (0 : Int32)), (2, .int p1), (3, .int (2 : Int32))] [] (h ++ (cT ++ (V ++ []))) P := by
  refine me1 (pc' := 1) dm_X11_letter_0 rfl rfl rfl rfl ?_
  refine me_1f (pc' := 4) dm_X11_letter_1 rfl (by decide) rfl ?_
  refine me1 (pc' := 5) dm_X11_letter_4 rfl rfl rfl rfl ?_
  refine me0 (pc' := 7) (S' := .int (8 : Int32) :: _) dm_X11_letter_5 rfl rfl rfl rfl ?_
  refine me_2t (pc' := 12) dm_X11_letter_7 rfl rfl ?_
  refine me1 (pc' := 13) dm_X11_letter_12 rfl rfl rfl rfl ?_
  refine me3 (pc' := 16) dm_X11_letter_13 (g_get (v := .ref 4) (lu (n := 2) (j := 0) hn rfl) rfl rfl (Nat.le_of_ble_eq_true rfl)) rfl rfl rfl ?_
  refine me1 (pc' := 17) dm_X11_letter_16 rfl rfl rfl rfl ?_
  refine me1 (pc' := 18) dm_X11_letter_17 rfl rfl rfl rfl ?_
  refine me4 (pc' := 21) (L0 := [(0, .ref 4), (1, .int (0 : Int32)), (2, .int p1)]) dm_X11_letter_18 rfl (g_inv (As := [.int (0 : Int32), .int p1]) (lu (n := 2) (j := 2) hn rfl) rfl rfl rfl (Nat.le_of_ble_eq_true rfl)) pm_X2_keyAt rfl (Nat.le_of_ble_eq_true rfl) rfl rfl rfl ?_
  refine me1 (pc' := 1) dm_X2_keyAt_0 rfl rfl rfl rfl ?_
  refine me_1f (pc' := 4) dm_X2_keyAt_1 rfl (cn_f_lt (c := 0) rfl (by omega)) rfl ?_
  refine me1 (pc' := 5) dm_X2_keyAt_4 rfl rfl rfl rfl ?_
  refine me1 (pc' := 6) dm_X2_keyAt_5 rfl rfl rfl rfl ?_
  refine me1 (pc' := 7) dm_X2_keyAt_6 rfl rfl rfl rfl ?_
  refine me4 (pc' := 10) (L0 := [(0, .ref 4), (1, .int (0 : Int32))]) dm_X2_keyAt_7 rfl (g_inv (As := [.int (0 : Int32)]) (lu (n := 2) (j := 2) hn rfl) rfl rfl rfl (Nat.le_of_ble_eq_true rfl)) pm_X2_howMany rfl (Nat.le_of_ble_eq_true rfl) rfl rfl rfl ?_
  refine me1 (pc' := 1) dm_X2_howMany_0 rfl rfl rfl rfl ?_
  refine me_1f (pc' := 4) dm_X2_howMany_1 rfl (by decide) rfl ?_
  refine me1 (pc' := 5) dm_X2_howMany_4 rfl rfl rfl rfl ?_
  refine me3 (pc' := 8) dm_X2_howMany_5 (g_get (v := .int (0 : Int32)) (lu (n := 2) (j := 2) hn rfl) rfl rfl (Nat.le_of_ble_eq_true rfl)) rfl rfl rfl ?_
  refine me5 dm_X2_howMany_8 rfl rfl rfl ?_
  refine me_2f (pc' := 13) dm_X2_keyAt_10 rfl (cn_f_lt (c := 0) rfl (by omega)) rfl ?_
  refine me0 (pc' := 14) (S' := .long (0 : Int64) :: _) dm_X2_keyAt_13 rfl rfl rfl rfl ?_
  refine me5 dm_X2_keyAt_14 rfl rfl rfl ?_
  refine me1 (pc' := 22) dm_X11_letter_21 rfl rfl rfl rfl ?_
  refine me0 (pc' := 23) (S' := .int (5 : Int32) :: _) dm_X11_letter_22 rfl rfl rfl rfl ?_
  refine me0 (pc' := 24) (S' := .int (10 : Int32) :: _) dm_X11_letter_23 rfl rfl rfl rfl ?_
  refine me0 (pc' := 25) (S' := .long (0 : Int64) :: _) dm_X11_letter_24 rfl rfl rfl rfl ?_
  refine me0 (pc' := 26) (S' := .int (0 : Int32) :: _) dm_X11_letter_25 rfl rfl rfl rfl ?_
  refine me0 (pc' := 28) (S' := .int (31 : Int32) :: _) dm_X11_letter_26 rfl rfl rfl rfl ?_
  refine me0 (pc' := 29) (S' := .int (0 : Int32) :: _) dm_X11_letter_28 rfl rfl rfl rfl ?_
  refine me1 (pc' := 31) (L' := [(4, .int (0 : Int32)), (0, .ref 2), (1, .int (0 : Int32)), (2, .int p1), (3, .int (2 : Int32))]) dm_X11_letter_29 rfl rfl rfl rfl ?_
  refine me1 (pc' := 33) dm_X11_letter_31 rfl rfl rfl rfl ?_
  refine me_1f (pc' := 36) dm_X11_letter_33 rfl (by decide) rfl ?_
  refine me0 (pc' := 37) (S' := .int (-1 : Int32) :: _) dm_X11_letter_36 rfl rfl rfl rfl ?_
  refine me2 (pc' := 45) dm_X11_letter_37 rfl rfl rfl ?_
  refine me5 dm_X11_letter_45 rfl rfl rfl ?_
  exact k _ _ rfl (Nat.le_of_ble_eq_true rfl) (Nat.le_of_ble_eq_true rfl) (Nat.le_of_ble_eq_true rfl)
set_option maxRecDepth 100000 in
set_option maxHeartbeats 40000000 in
theorem c_letter_v0_ge_v3 {xt : mj_X} {d : Nat} {h V : mj_H} (hn : h.length = 2) (hv : V.length = 25) {P : Option Value → mj_H → Prop} {p1 : Int32} (hl1 : 0 ≤ p1.toInt) (k : ∀ U D, U.length = 100 → mj_sl U ≤ 20000 → D.length ≤ 10 → mj_sl D ≤ 2000 → P (some (.int (-1 : Int32))) (h ++ (U ++ (V ++ D)))) : pgE xt (d + 20) 11 5 false (Option.some FieldType.int) (mj_dec prog_1_method_18_code) 0 [(0, .ref 2), (1, .int (0 : Int32)), (2, .int p1), (3, .int (3 : Int32))] [] (h ++ (cT ++ (V ++ []))) P := by
  refine me1 (pc' := 1) dm_X11_letter_0 rfl rfl rfl rfl ?_
  refine me_1f (pc' := 4) dm_X11_letter_1 rfl (by decide) rfl ?_
  refine me1 (pc' := 5) dm_X11_letter_4 rfl rfl rfl rfl ?_
  refine me0 (pc' := 7) (S' := .int (8 : Int32) :: _) dm_X11_letter_5 rfl rfl rfl rfl ?_
  refine me_2t (pc' := 12) dm_X11_letter_7 rfl rfl ?_
  refine me1 (pc' := 13) dm_X11_letter_12 rfl rfl rfl rfl ?_
  refine me3 (pc' := 16) dm_X11_letter_13 (g_get (v := .ref 4) (lu (n := 2) (j := 0) hn rfl) rfl rfl (Nat.le_of_ble_eq_true rfl)) rfl rfl rfl ?_
  refine me1 (pc' := 17) dm_X11_letter_16 rfl rfl rfl rfl ?_
  refine me1 (pc' := 18) dm_X11_letter_17 rfl rfl rfl rfl ?_
  refine me4 (pc' := 21) (L0 := [(0, .ref 4), (1, .int (0 : Int32)), (2, .int p1)]) dm_X11_letter_18 rfl (g_inv (As := [.int (0 : Int32), .int p1]) (lu (n := 2) (j := 2) hn rfl) rfl rfl rfl (Nat.le_of_ble_eq_true rfl)) pm_X2_keyAt rfl (Nat.le_of_ble_eq_true rfl) rfl rfl rfl ?_
  refine me1 (pc' := 1) dm_X2_keyAt_0 rfl rfl rfl rfl ?_
  refine me_1f (pc' := 4) dm_X2_keyAt_1 rfl (cn_f_lt (c := 0) rfl (by omega)) rfl ?_
  refine me1 (pc' := 5) dm_X2_keyAt_4 rfl rfl rfl rfl ?_
  refine me1 (pc' := 6) dm_X2_keyAt_5 rfl rfl rfl rfl ?_
  refine me1 (pc' := 7) dm_X2_keyAt_6 rfl rfl rfl rfl ?_
  refine me4 (pc' := 10) (L0 := [(0, .ref 4), (1, .int (0 : Int32))]) dm_X2_keyAt_7 rfl (g_inv (As := [.int (0 : Int32)]) (lu (n := 2) (j := 2) hn rfl) rfl rfl rfl (Nat.le_of_ble_eq_true rfl)) pm_X2_howMany rfl (Nat.le_of_ble_eq_true rfl) rfl rfl rfl ?_
  refine me1 (pc' := 1) dm_X2_howMany_0 rfl rfl rfl rfl ?_
  refine me_1f (pc' := 4) dm_X2_howMany_1 rfl (by decide) rfl ?_
  refine me1 (pc' := 5) dm_X2_howMany_4 rfl rfl rfl rfl ?_
  refine me3 (pc' := 8) dm_X2_howMany_5 (g_get (v := .int (0 : Int32)) (lu (n := 2) (j := 2) hn rfl) rfl rfl (Nat.le_of_ble_eq_true rfl)) rfl rfl rfl ?_
  refine me5 dm_X2_howMany_8 rfl rfl rfl ?_
  refine me_2f (pc' := 13) dm_X2_keyAt_10 rfl (cn_f_lt (c := 0) rfl (by omega)) rfl ?_
  refine me0 (pc' := 14) (S' := .long (0 : Int64) :: _) dm_X2_keyAt_13 rfl rfl rfl rfl ?_
  refine me5 dm_X2_keyAt_14 rfl rfl rfl ?_
  refine me1 (pc' := 22) dm_X11_letter_21 rfl rfl rfl rfl ?_
  refine me0 (pc' := 23) (S' := .int (5 : Int32) :: _) dm_X11_letter_22 rfl rfl rfl rfl ?_
  refine me0 (pc' := 24) (S' := .int (15 : Int32) :: _) dm_X11_letter_23 rfl rfl rfl rfl ?_
  refine me0 (pc' := 25) (S' := .long (0 : Int64) :: _) dm_X11_letter_24 rfl rfl rfl rfl ?_
  refine me0 (pc' := 26) (S' := .int (0 : Int32) :: _) dm_X11_letter_25 rfl rfl rfl rfl ?_
  refine me0 (pc' := 28) (S' := .int (31 : Int32) :: _) dm_X11_letter_26 rfl rfl rfl rfl ?_
  refine me0 (pc' := 29) (S' := .int (0 : Int32) :: _) dm_X11_letter_28 rfl rfl rfl rfl ?_
  refine me1 (pc' := 31) (L' := [(4, .int (0 : Int32)), (0, .ref 2), (1, .int (0 : Int32)), (2, .int p1), (3, .int (3 : Int32))]) dm_X11_letter_29 rfl rfl rfl rfl ?_
  refine me1 (pc' := 33) dm_X11_letter_31 rfl rfl rfl rfl ?_
  refine me_1f (pc' := 36) dm_X11_letter_33 rfl (by decide) rfl ?_
  refine me0 (pc' := 37) (S' := .int (-1 : Int32) :: _) dm_X11_letter_36 rfl rfl rfl rfl ?_
  refine me2 (pc' := 45) dm_X11_letter_37 rfl rfl rfl ?_
  refine me5 dm_X11_letter_45 rfl rfl rfl ?_
  exact k _ _ rfl (Nat.le_of_ble_eq_true rfl) (Nat.le_of_ble_eq_true rfl) (Nat.le_of_ble_eq_true rfl)
set_option maxRecDepth 100000 in
set_option maxHeartbeats 40000000 in
theorem c_letter_v0_ge_v4 {xt : mj_X} {d : Nat} {h V : mj_H} (hn : h.length = 2) (hv : V.length = 25) {P : Option Value → mj_H → Prop} {p1 : Int32} (hl1 : 0 ≤ p1.toInt) (k : ∀ U D, U.length = 100 → mj_sl U ≤ 20000 → D.length ≤ 10 → mj_sl D ≤ 2000 → P (some (.int (-1 : Int32))) (h ++ (U ++ (V ++ D)))) : pgE xt (d + 20) 11 5 false (Option.some FieldType.int) (mj_dec prog_1_method_18_code) 0 [(0, .ref 2), (1, .int (0 : Int32)), (2, .int p1), (3, .int (4 : Int32))] [] (h ++ (cT ++ (V ++ []))) P := by
  refine me1 (pc' := 1) dm_X11_letter_0 rfl rfl rfl rfl ?_
  refine me_1f (pc' := 4) dm_X11_letter_1 rfl (by decide) rfl ?_
  refine me1 (pc' := 5) dm_X11_letter_4 rfl rfl rfl rfl ?_
  refine me0 (pc' := 7) (S' := .int (8 : Int32) :: _) dm_X11_letter_5 rfl rfl rfl rfl ?_
  refine me_2t (pc' := 12) dm_X11_letter_7 rfl rfl ?_
  refine me1 (pc' := 13) dm_X11_letter_12 rfl rfl rfl rfl ?_
  refine me3 (pc' := 16) dm_X11_letter_13 (g_get (v := .ref 4) (lu (n := 2) (j := 0) hn rfl) rfl rfl (Nat.le_of_ble_eq_true rfl)) rfl rfl rfl ?_
  refine me1 (pc' := 17) dm_X11_letter_16 rfl rfl rfl rfl ?_
  refine me1 (pc' := 18) dm_X11_letter_17 rfl rfl rfl rfl ?_
  refine me4 (pc' := 21) (L0 := [(0, .ref 4), (1, .int (0 : Int32)), (2, .int p1)]) dm_X11_letter_18 rfl (g_inv (As := [.int (0 : Int32), .int p1]) (lu (n := 2) (j := 2) hn rfl) rfl rfl rfl (Nat.le_of_ble_eq_true rfl)) pm_X2_keyAt rfl (Nat.le_of_ble_eq_true rfl) rfl rfl rfl ?_
  refine me1 (pc' := 1) dm_X2_keyAt_0 rfl rfl rfl rfl ?_
  refine me_1f (pc' := 4) dm_X2_keyAt_1 rfl (cn_f_lt (c := 0) rfl (by omega)) rfl ?_
  refine me1 (pc' := 5) dm_X2_keyAt_4 rfl rfl rfl rfl ?_
  refine me1 (pc' := 6) dm_X2_keyAt_5 rfl rfl rfl rfl ?_
  refine me1 (pc' := 7) dm_X2_keyAt_6 rfl rfl rfl rfl ?_
  refine me4 (pc' := 10) (L0 := [(0, .ref 4), (1, .int (0 : Int32))]) dm_X2_keyAt_7 rfl (g_inv (As := [.int (0 : Int32)]) (lu (n := 2) (j := 2) hn rfl) rfl rfl rfl (Nat.le_of_ble_eq_true rfl)) pm_X2_howMany rfl (Nat.le_of_ble_eq_true rfl) rfl rfl rfl ?_
  refine me1 (pc' := 1) dm_X2_howMany_0 rfl rfl rfl rfl ?_
  refine me_1f (pc' := 4) dm_X2_howMany_1 rfl (by decide) rfl ?_
  refine me1 (pc' := 5) dm_X2_howMany_4 rfl rfl rfl rfl ?_
  refine me3 (pc' := 8) dm_X2_howMany_5 (g_get (v := .int (0 : Int32)) (lu (n := 2) (j := 2) hn rfl) rfl rfl (Nat.le_of_ble_eq_true rfl)) rfl rfl rfl ?_
  refine me5 dm_X2_howMany_8 rfl rfl rfl ?_
  refine me_2f (pc' := 13) dm_X2_keyAt_10 rfl (cn_f_lt (c := 0) rfl (by omega)) rfl ?_
  refine me0 (pc' := 14) (S' := .long (0 : Int64) :: _) dm_X2_keyAt_13 rfl rfl rfl rfl ?_
  refine me5 dm_X2_keyAt_14 rfl rfl rfl ?_
  refine me1 (pc' := 22) dm_X11_letter_21 rfl rfl rfl rfl ?_
  refine me0 (pc' := 23) (S' := .int (5 : Int32) :: _) dm_X11_letter_22 rfl rfl rfl rfl ?_
  refine me0 (pc' := 24) (S' := .int (20 : Int32) :: _) dm_X11_letter_23 rfl rfl rfl rfl ?_
  refine me0 (pc' := 25) (S' := .long (0 : Int64) :: _) dm_X11_letter_24 rfl rfl rfl rfl ?_
  refine me0 (pc' := 26) (S' := .int (0 : Int32) :: _) dm_X11_letter_25 rfl rfl rfl rfl ?_
  refine me0 (pc' := 28) (S' := .int (31 : Int32) :: _) dm_X11_letter_26 rfl rfl rfl rfl ?_
  refine me0 (pc' := 29) (S' := .int (0 : Int32) :: _) dm_X11_letter_28 rfl rfl rfl rfl ?_
  refine me1 (pc' := 31) (L' := [(4, .int (0 : Int32)), (0, .ref 2), (1, .int (0 : Int32)), (2, .int p1), (3, .int (4 : Int32))]) dm_X11_letter_29 rfl rfl rfl rfl ?_
  refine me1 (pc' := 33) dm_X11_letter_31 rfl rfl rfl rfl ?_
  refine me_1f (pc' := 36) dm_X11_letter_33 rfl (by decide) rfl ?_
  refine me0 (pc' := 37) (S' := .int (-1 : Int32) :: _) dm_X11_letter_36 rfl rfl rfl rfl ?_
  refine me2 (pc' := 45) dm_X11_letter_37 rfl rfl rfl ?_
  refine me5 dm_X11_letter_45 rfl rfl rfl ?_
  exact k _ _ rfl (Nat.le_of_ble_eq_true rfl) (Nat.le_of_ble_eq_true rfl) (Nat.le_of_ble_eq_true rfl)
set_option maxRecDepth 100000 in
set_option maxHeartbeats 40000000 in
theorem c_letter_v0_ge_v5 {xt : mj_X} {d : Nat} {h V : mj_H} (hn : h.length = 2) (hv : V.length = 25) {P : Option Value → mj_H → Prop} {p1 : Int32} (hl1 : 0 ≤ p1.toInt) (k : ∀ U D, U.length = 100 → mj_sl U ≤ 20000 → D.length ≤ 10 → mj_sl D ≤ 2000 → P (some (.int (-1 : Int32))) (h ++ (U ++ (V ++ D)))) : pgE xt (d + 20) 11 5 false (Option.some FieldType.int) (mj_dec prog_1_method_18_code) 0 [(0, .ref 2), (1, .int (0 : Int32)), (2, .int p1), (3, .int (5 : Int32))] [] (h ++ (cT ++ (V ++ []))) P := by
  refine me1 (pc' := 1) dm_X11_letter_0 rfl rfl rfl rfl ?_
  refine me_1f (pc' := 4) dm_X11_letter_1 rfl (by decide) rfl ?_
  refine me1 (pc' := 5) dm_X11_letter_4 rfl rfl rfl rfl ?_
  refine me0 (pc' := 7) (S' := .int (8 : Int32) :: _) dm_X11_letter_5 rfl rfl rfl rfl ?_
  refine me_2t (pc' := 12) dm_X11_letter_7 rfl rfl ?_
  refine me1 (pc' := 13) dm_X11_letter_12 rfl rfl rfl rfl ?_
  refine me3 (pc' := 16) dm_X11_letter_13 (g_get (v := .ref 4) (lu (n := 2) (j := 0) hn rfl) rfl rfl (Nat.le_of_ble_eq_true rfl)) rfl rfl rfl ?_
  refine me1 (pc' := 17) dm_X11_letter_16 rfl rfl rfl rfl ?_
  refine me1 (pc' := 18) dm_X11_letter_17 rfl rfl rfl rfl ?_
  refine me4 (pc' := 21) (L0 := [(0, .ref 4), (1, .int (0 : Int32)), (2, .int p1)]) dm_X11_letter_18 rfl (g_inv (As := [.int (0 : Int32), .int p1]) (lu (n := 2) (j := 2) hn rfl) rfl rfl rfl (Nat.le_of_ble_eq_true rfl)) pm_X2_keyAt rfl (Nat.le_of_ble_eq_true rfl) rfl rfl rfl ?_
  refine me1 (pc' := 1) dm_X2_keyAt_0 rfl rfl rfl rfl ?_
  refine me_1f (pc' := 4) dm_X2_keyAt_1 rfl (cn_f_lt (c := 0) rfl (by omega)) rfl ?_
  refine me1 (pc' := 5) dm_X2_keyAt_4 rfl rfl rfl rfl ?_
  refine me1 (pc' := 6) dm_X2_keyAt_5 rfl rfl rfl rfl ?_
  refine me1 (pc' := 7) dm_X2_keyAt_6 rfl rfl rfl rfl ?_
  refine me4 (pc' := 10) (L0 := [(0, .ref 4), (1, .int (0 : Int32))]) dm_X2_keyAt_7 rfl (g_inv (As := [.int (0 : Int32)]) (lu (n := 2) (j := 2) hn rfl) rfl rfl rfl (Nat.le_of_ble_eq_true rfl)) pm_X2_howMany rfl (Nat.le_of_ble_eq_true rfl) rfl rfl rfl ?_
  refine me1 (pc' := 1) dm_X2_howMany_0 rfl rfl rfl rfl ?_
  refine me_1f (pc' := 4) dm_X2_howMany_1 rfl (by decide) rfl ?_
  refine me1 (pc' := 5) dm_X2_howMany_4 rfl rfl rfl rfl ?_
  refine me3 (pc' := 8) dm_X2_howMany_5 (g_get (v := .int (0 : Int32)) (lu (n := 2) (j := 2) hn rfl) rfl rfl (Nat.le_of_ble_eq_true rfl)) rfl rfl rfl ?_
  refine me5 dm_X2_howMany_8 rfl rfl rfl ?_
  refine me_2f (pc' := 13) dm_X2_keyAt_10 rfl (cn_f_lt (c := 0) rfl (by omega)) rfl ?_
  refine me0 (pc' := 14) (S' := .long (0 : Int64) :: _) dm_X2_keyAt_13 rfl rfl rfl rfl ?_
  refine me5 dm_X2_keyAt_14 rfl rfl rfl ?_
  refine me1 (pc' := 22) dm_X11_letter_21 rfl rfl rfl rfl ?_
  refine me0 (pc' := 23) (S' := .int (5 : Int32) :: _) dm_X11_letter_22 rfl rfl rfl rfl ?_
  refine me0 (pc' := 24) (S' := .int (25 : Int32) :: _) dm_X11_letter_23 rfl rfl rfl rfl ?_
  refine me0 (pc' := 25) (S' := .long (0 : Int64) :: _) dm_X11_letter_24 rfl rfl rfl rfl ?_
  refine me0 (pc' := 26) (S' := .int (0 : Int32) :: _) dm_X11_letter_25 rfl rfl rfl rfl ?_
  refine me0 (pc' := 28) (S' := .int (31 : Int32) :: _) dm_X11_letter_26 rfl rfl rfl rfl ?_
  refine me0 (pc' := 29) (S' := .int (0 : Int32) :: _) dm_X11_letter_28 rfl rfl rfl rfl ?_
  refine me1 (pc' := 31) (L' := [(4, .int (0 : Int32)), (0, .ref 2), (1, .int (0 : Int32)), (2, .int p1), (3, .int (5 : Int32))]) dm_X11_letter_29 rfl rfl rfl rfl ?_
  refine me1 (pc' := 33) dm_X11_letter_31 rfl rfl rfl rfl ?_
  refine me_1f (pc' := 36) dm_X11_letter_33 rfl (by decide) rfl ?_
  refine me0 (pc' := 37) (S' := .int (-1 : Int32) :: _) dm_X11_letter_36 rfl rfl rfl rfl ?_
  refine me2 (pc' := 45) dm_X11_letter_37 rfl rfl rfl ?_
  refine me5 dm_X11_letter_45 rfl rfl rfl ?_
  exact k _ _ rfl (Nat.le_of_ble_eq_true rfl) (Nat.le_of_ble_eq_true rfl) (Nat.le_of_ble_eq_true rfl)
set_option maxRecDepth 100000 in
set_option maxHeartbeats 40000000 in
theorem c_letter_v0_ge_v6 {xt : mj_X} {d : Nat} {h V : mj_H} (hn : h.length = 2) (hv : V.length = 25) {P : Option Value → mj_H → Prop} {p1 : Int32} (hl1 : 0 ≤ p1.toInt) (k : ∀ U D, U.length = 100 → mj_sl U ≤ 20000 → D.length ≤ 10 → mj_sl D ≤ 2000 → P (some (.int (-1 : Int32))) (h ++ (U ++ (V ++ D)))) : pgE xt (d + 20) 11 5 false (Option.some FieldType.int) (mj_dec prog_1_method_18_code) 0 [(0, .ref 2), (1, .int (0 : Int32)), (2, .int p1), (3, .int (6 : Int32))] [] (h ++ (cT ++ (V ++ []))) P := by
  refine me1 (pc' := 1) dm_X11_letter_0 rfl rfl rfl rfl ?_
  refine me_1f (pc' := 4) dm_X11_letter_1 rfl (by decide) rfl ?_
  refine me1 (pc' := 5) dm_X11_letter_4 rfl rfl rfl rfl ?_
  refine me0 (pc' := 7) (S' := .int (8 : Int32) :: _) dm_X11_letter_5 rfl rfl rfl rfl ?_
  refine me_2t (pc' := 12) dm_X11_letter_7 rfl rfl ?_
  refine me1 (pc' := 13) dm_X11_letter_12 rfl rfl rfl rfl ?_
  refine me3 (pc' := 16) dm_X11_letter_13 (g_get (v := .ref 4) (lu (n := 2) (j := 0) hn rfl) rfl rfl (Nat.le_of_ble_eq_true rfl)) rfl rfl rfl ?_
  refine me1 (pc' := 17) dm_X11_letter_16 rfl rfl rfl rfl ?_
  refine me1 (pc' := 18) dm_X11_letter_17 rfl rfl rfl rfl ?_
  refine me4 (pc' := 21) (L0 := [(0, .ref 4), (1, .int (0 : Int32)), (2, .int p1)]) dm_X11_letter_18 rfl (g_inv (As := [.int (0 : Int32), .int p1]) (lu (n := 2) (j := 2) hn rfl) rfl rfl rfl (Nat.le_of_ble_eq_true rfl)) pm_X2_keyAt rfl (Nat.le_of_ble_eq_true rfl) rfl rfl rfl ?_
  refine me1 (pc' := 1) dm_X2_keyAt_0 rfl rfl rfl rfl ?_
  refine me_1f (pc' := 4) dm_X2_keyAt_1 rfl (cn_f_lt (c := 0) rfl (by omega)) rfl ?_
  refine me1 (pc' := 5) dm_X2_keyAt_4 rfl rfl rfl rfl ?_
  refine me1 (pc' := 6) dm_X2_keyAt_5 rfl rfl rfl rfl ?_
  refine me1 (pc' := 7) dm_X2_keyAt_6 rfl rfl rfl rfl ?_
  refine me4 (pc' := 10) (L0 := [(0, .ref 4), (1, .int (0 : Int32))]) dm_X2_keyAt_7 rfl (g_inv (As := [.int (0 : Int32)]) (lu (n := 2) (j := 2) hn rfl) rfl rfl rfl (Nat.le_of_ble_eq_true rfl)) pm_X2_howMany rfl (Nat.le_of_ble_eq_true rfl) rfl rfl rfl ?_
  refine me1 (pc' := 1) dm_X2_howMany_0 rfl rfl rfl rfl ?_
  refine me_1f (pc' := 4) dm_X2_howMany_1 rfl (by decide) rfl ?_
  refine me1 (pc' := 5) dm_X2_howMany_4 rfl rfl rfl rfl ?_
  refine me3 (pc' := 8) dm_X2_howMany_5 (g_get (v := .int (0 : Int32)) (lu (n := 2) (j := 2) hn rfl) rfl rfl (Nat.le_of_ble_eq_true rfl)) rfl rfl rfl ?_
  refine me5 dm_X2_howMany_8 rfl rfl rfl ?_
  refine me_2f (pc' := 13) dm_X2_keyAt_10 rfl (cn_f_lt (c := 0) rfl (by omega)) rfl ?_
  refine me0 (pc' := 14) (S' := .long (0 : Int64) :: _) dm_X2_keyAt_13 rfl rfl rfl rfl ?_
  refine me5 dm_X2_keyAt_14 rfl rfl rfl ?_
  refine me1 (pc' := 22) dm_X11_letter_21 rfl rfl rfl rfl ?_
  refine me0 (pc' := 23) (S' := .int (5 : Int32) :: _) dm_X11_letter_22 rfl rfl rfl rfl ?_
  refine me0 (pc' := 24) (S' := .int (30 : Int32) :: _) dm_X11_letter_23 rfl rfl rfl rfl ?_
  refine me0 (pc' := 25) (S' := .long (0 : Int64) :: _) dm_X11_letter_24 rfl rfl rfl rfl ?_
  refine me0 (pc' := 26) (S' := .int (0 : Int32) :: _) dm_X11_letter_25 rfl rfl rfl rfl ?_
  refine me0 (pc' := 28) (S' := .int (31 : Int32) :: _) dm_X11_letter_26 rfl rfl rfl rfl ?_
  refine me0 (pc' := 29) (S' := .int (0 : Int32) :: _) dm_X11_letter_28 rfl rfl rfl rfl ?_
  refine me1 (pc' := 31) (L' := [(4, .int (0 : Int32)), (0, .ref 2), (1, .int (0 : Int32)), (2, .int p1), (3, .int (6 : Int32))]) dm_X11_letter_29 rfl rfl rfl rfl ?_
  refine me1 (pc' := 33) dm_X11_letter_31 rfl rfl rfl rfl ?_
  refine me_1f (pc' := 36) dm_X11_letter_33 rfl (by decide) rfl ?_
  refine me0 (pc' := 37) (S' := .int (-1 : Int32) :: _) dm_X11_letter_36 rfl rfl rfl rfl ?_
  refine me2 (pc' := 45) dm_X11_letter_37 rfl rfl rfl ?_
  refine me5 dm_X11_letter_45 rfl rfl rfl ?_
  exact k _ _ rfl (Nat.le_of_ble_eq_true rfl) (Nat.le_of_ble_eq_true rfl) (Nat.le_of_ble_eq_true rfl)
set_option maxRecDepth 100000 in
set_option maxHeartbeats 40000000 in
theorem c_letter_v0_ge_v7 {xt : mj_X} {d : Nat} {h V : mj_H} (hn : h.length = 2) (hv : V.length = 25) {P : Option Value → mj_H → Prop} {p1 : Int32} (hl1 : 0 ≤ p1.toInt) (k : ∀ U D, U.length = 100 → mj_sl U ≤ 20000 → D.length ≤ 10 → mj_sl D ≤ 2000 → P (some (.int (-1 : Int32))) (h ++ (U ++ (V ++ D)))) : pgE xt (d + 20) 11 5 false (Option.some FieldType.int) (mj_dec prog_1_method_18_code) 0 [(0, .ref 2), (1, .int (0 : Int32)), (2, .int p1), (3, .int (7 : Int32))] [] (h ++ (cT ++ (V ++ []))) P := by
  refine me1 (pc' := 1) dm_X11_letter_0 rfl rfl rfl rfl ?_
  refine me_1f (pc' := 4) dm_X11_letter_1 rfl (by decide) rfl ?_
  refine me1 (pc' := 5) dm_X11_letter_4 rfl rfl rfl rfl ?_
  refine me0 (pc' := 7) (S' := .int (8 : Int32) :: _) dm_X11_letter_5 rfl rfl rfl rfl ?_
  refine me_2t (pc' := 12) dm_X11_letter_7 rfl rfl ?_
  refine me1 (pc' := 13) dm_X11_letter_12 rfl rfl rfl rfl ?_
  refine me3 (pc' := 16) dm_X11_letter_13 (g_get (v := .ref 4) (lu (n := 2) (j := 0) hn rfl) rfl rfl (Nat.le_of_ble_eq_true rfl)) rfl rfl rfl ?_
  refine me1 (pc' := 17) dm_X11_letter_16 rfl rfl rfl rfl ?_
  refine me1 (pc' := 18) dm_X11_letter_17 rfl rfl rfl rfl ?_
  refine me4 (pc' := 21) (L0 := [(0, .ref 4), (1, .int (0 : Int32)), (2, .int p1)]) dm_X11_letter_18 rfl (g_inv (As := [.int (0 : Int32), .int p1]) (lu (n := 2) (j := 2) hn rfl) rfl rfl rfl (Nat.le_of_ble_eq_true rfl)) pm_X2_keyAt rfl (Nat.le_of_ble_eq_true rfl) rfl rfl rfl ?_
  refine me1 (pc' := 1) dm_X2_keyAt_0 rfl rfl rfl rfl ?_
  refine me_1f (pc' := 4) dm_X2_keyAt_1 rfl (cn_f_lt (c := 0) rfl (by omega)) rfl ?_
  refine me1 (pc' := 5) dm_X2_keyAt_4 rfl rfl rfl rfl ?_
  refine me1 (pc' := 6) dm_X2_keyAt_5 rfl rfl rfl rfl ?_
  refine me1 (pc' := 7) dm_X2_keyAt_6 rfl rfl rfl rfl ?_
  refine me4 (pc' := 10) (L0 := [(0, .ref 4), (1, .int (0 : Int32))]) dm_X2_keyAt_7 rfl (g_inv (As := [.int (0 : Int32)]) (lu (n := 2) (j := 2) hn rfl) rfl rfl rfl (Nat.le_of_ble_eq_true rfl)) pm_X2_howMany rfl (Nat.le_of_ble_eq_true rfl) rfl rfl rfl ?_
  refine me1 (pc' := 1) dm_X2_howMany_0 rfl rfl rfl rfl ?_
  refine me_1f (pc' := 4) dm_X2_howMany_1 rfl (by decide) rfl ?_
  refine me1 (pc' := 5) dm_X2_howMany_4 rfl rfl rfl rfl ?_
  refine me3 (pc' := 8) dm_X2_howMany_5 (g_get (v := .int (0 : Int32)) (lu (n := 2) (j := 2) hn rfl) rfl rfl (Nat.le_of_ble_eq_true rfl)) rfl rfl rfl ?_
  refine me5 dm_X2_howMany_8 rfl rfl rfl ?_
  refine me_2f (pc' := 13) dm_X2_keyAt_10 rfl (cn_f_lt (c := 0) rfl (by omega)) rfl ?_
  refine me0 (pc' := 14) (S' := .long (0 : Int64) :: _) dm_X2_keyAt_13 rfl rfl rfl rfl ?_
  refine me5 dm_X2_keyAt_14 rfl rfl rfl ?_
  refine me1 (pc' := 22) dm_X11_letter_21 rfl rfl rfl rfl ?_
  refine me0 (pc' := 23) (S' := .int (5 : Int32) :: _) dm_X11_letter_22 rfl rfl rfl rfl ?_
  refine me0 (pc' := 24) (S' := .int (35 : Int32) :: _) dm_X11_letter_23 rfl rfl rfl rfl ?_
  refine me0 (pc' := 25) (S' := .long (0 : Int64) :: _) dm_X11_letter_24 rfl rfl rfl rfl ?_
  refine me0 (pc' := 26) (S' := .int (0 : Int32) :: _) dm_X11_letter_25 rfl rfl rfl rfl ?_
  refine me0 (pc' := 28) (S' := .int (31 : Int32) :: _) dm_X11_letter_26 rfl rfl rfl rfl ?_
  refine me0 (pc' := 29) (S' := .int (0 : Int32) :: _) dm_X11_letter_28 rfl rfl rfl rfl ?_
  refine me1 (pc' := 31) (L' := [(4, .int (0 : Int32)), (0, .ref 2), (1, .int (0 : Int32)), (2, .int p1), (3, .int (7 : Int32))]) dm_X11_letter_29 rfl rfl rfl rfl ?_
  refine me1 (pc' := 33) dm_X11_letter_31 rfl rfl rfl rfl ?_
  refine me_1f (pc' := 36) dm_X11_letter_33 rfl (by decide) rfl ?_
  refine me0 (pc' := 37) (S' := .int (-1 : Int32) :: _) dm_X11_letter_36 rfl rfl rfl rfl ?_
  refine me2 (pc' := 45) dm_X11_letter_37 rfl rfl rfl ?_
  refine me5 dm_X11_letter_45 rfl rfl rfl ?_
  exact k _ _ rfl (Nat.le_of_ble_eq_true rfl) (Nat.le_of_ble_eq_true rfl) (Nat.le_of_ble_eq_true rfl)
set_option maxRecDepth 100000 in
set_option maxHeartbeats 40000000 in
theorem c_letter_v0_ge_ge {xt : mj_X} {d : Nat} {h V : mj_H} (hn : h.length = 2) (hv : V.length = 25) {P : Option Value → mj_H → Prop} {p1 : Int32} {p2 : Int32} (hl1 : 0 ≤ p1.toInt) (hl2 : 8 ≤ p2.toInt) (k : ∀ U D, U.length = 100 → mj_sl U ≤ 20000 → D.length ≤ 10 → mj_sl D ≤ 2000 → P (some (.int (-1 : Int32))) (h ++ (U ++ (V ++ D)))) : pgE xt (d + 20) 11 5 false (Option.some FieldType.int) (mj_dec prog_1_method_18_code) 0 [(0, .ref 2), (1, .int (0 : Int32)), (2, .int p1), (3, .int p2)] [] (h ++ (cT ++ (V ++ []))) P := by
  refine me1 (pc' := 1) dm_X11_letter_0 rfl rfl rfl rfl ?_
  refine me_1f (pc' := 4) dm_X11_letter_1 rfl (cn_f_lt (c := 0) rfl (by omega)) rfl ?_
  refine me1 (pc' := 5) dm_X11_letter_4 rfl rfl rfl rfl ?_
  refine me0 (pc' := 7) (S' := .int (8 : Int32) :: _) dm_X11_letter_5 rfl rfl rfl rfl ?_
  refine me_2f (pc' := 10) dm_X11_letter_7 rfl (cn_f_lt (c := 8) rfl (by omega)) rfl ?_
  refine me0 (pc' := 11) (S' := .int (-1 : Int32) :: _) dm_X11_letter_10 rfl rfl rfl rfl ?_
  refine me5 dm_X11_letter_11 rfl rfl rfl ?_
  exact k _ _ rfl (Nat.le_of_ble_eq_true rfl) (Nat.le_of_ble_eq_true rfl) (Nat.le_of_ble_eq_true rfl)
set_option maxRecDepth 100000 in
set_option maxHeartbeats 40000000 in
theorem c_letter_v1_lt_lt {xt : mj_X} {d : Nat} {h V : mj_H} (hn : h.length = 2) (hv : V.length = 25) {P : Option Value → mj_H → Prop} {p1 : Int32} {p2 : Int32} (hh1 : p1.toInt ≤ -1) (hh2 : p2.toInt ≤ -1) (k : ∀ U D, U.length = 100 → mj_sl U ≤ 20000 → D.length ≤ 10 → mj_sl D ≤ 2000 → P (some (.int (-1 : Int32))) (h ++ (U ++ (V ++ D)))) : pgE xt (d + 20) 11 5 false (Option.some FieldType.int) (mj_dec prog_1_method_18_code) 0 [(0, .ref 2), (1, .int (1 : Int32)), (2, .int p1), (3, .int p2)] [] (h ++ (cT ++ (V ++ []))) P := by
  refine me1 (pc' := 1) dm_X11_letter_0 rfl rfl rfl rfl ?_
  refine me_1t (pc' := 10) dm_X11_letter_1 rfl (cn_t_lt (c := 0) rfl (by omega)) ?_
  refine me0 (pc' := 11) (S' := .int (-1 : Int32) :: _) dm_X11_letter_10 rfl rfl rfl rfl ?_
  refine me5 dm_X11_letter_11 rfl rfl rfl ?_
  exact k _ _ rfl (Nat.le_of_ble_eq_true rfl) (Nat.le_of_ble_eq_true rfl) (Nat.le_of_ble_eq_true rfl)
set_option maxRecDepth 100000 in
set_option maxHeartbeats 40000000 in
theorem c_letter_v1_lt_v0 {xt : mj_X} {d : Nat} {h V : mj_H} (hn : h.length = 2) (hv : V.length = 25) {P : Option Value → mj_H → Prop} {p1 : Int32} (hh1 : p1.toInt ≤ -1) (k : ∀ U D, U.length = 100 → mj_sl U ≤ 20000 → D.length ≤ 10 → mj_sl D ≤ 2000 → P (some (.int (-1 : Int32))) (h ++ (U ++ (V ++ D)))) : pgE xt (d + 20) 11 5 false (Option.some FieldType.int) (mj_dec prog_1_method_18_code) 0 [(0, .ref 2), (1, .int (1 : Int32)), (2, .int p1), (3, .int (0 : Int32))] [] (h ++ (cT ++ (V ++ []))) P := by
  refine me1 (pc' := 1) dm_X11_letter_0 rfl rfl rfl rfl ?_
  refine me_1f (pc' := 4) dm_X11_letter_1 rfl (by decide) rfl ?_
  refine me1 (pc' := 5) dm_X11_letter_4 rfl rfl rfl rfl ?_
  refine me0 (pc' := 7) (S' := .int (8 : Int32) :: _) dm_X11_letter_5 rfl rfl rfl rfl ?_
  refine me_2t (pc' := 12) dm_X11_letter_7 rfl rfl ?_
  refine me1 (pc' := 13) dm_X11_letter_12 rfl rfl rfl rfl ?_
  refine me3 (pc' := 16) dm_X11_letter_13 (g_get (v := .ref 4) (lu (n := 2) (j := 0) hn rfl) rfl rfl (Nat.le_of_ble_eq_true rfl)) rfl rfl rfl ?_
  refine me1 (pc' := 17) dm_X11_letter_16 rfl rfl rfl rfl ?_
  refine me1 (pc' := 18) dm_X11_letter_17 rfl rfl rfl rfl ?_
  refine me4 (pc' := 21) (L0 := [(0, .ref 4), (1, .int (1 : Int32)), (2, .int p1)]) dm_X11_letter_18 rfl (g_inv (As := [.int (1 : Int32), .int p1]) (lu (n := 2) (j := 2) hn rfl) rfl rfl rfl (Nat.le_of_ble_eq_true rfl)) pm_X2_keyAt rfl (Nat.le_of_ble_eq_true rfl) rfl rfl rfl ?_
  refine me1 (pc' := 1) dm_X2_keyAt_0 rfl rfl rfl rfl ?_
  refine me_1t (pc' := 13) dm_X2_keyAt_1 rfl (cn_t_lt (c := 0) rfl (by omega)) ?_
  refine me0 (pc' := 14) (S' := .long (0 : Int64) :: _) dm_X2_keyAt_13 rfl rfl rfl rfl ?_
  refine me5 dm_X2_keyAt_14 rfl rfl rfl ?_
  refine me1 (pc' := 22) dm_X11_letter_21 rfl rfl rfl rfl ?_
  refine me0 (pc' := 23) (S' := .int (5 : Int32) :: _) dm_X11_letter_22 rfl rfl rfl rfl ?_
  refine me0 (pc' := 24) (S' := .int (0 : Int32) :: _) dm_X11_letter_23 rfl rfl rfl rfl ?_
  refine me0 (pc' := 25) (S' := .long (0 : Int64) :: _) dm_X11_letter_24 rfl rfl rfl rfl ?_
  refine me0 (pc' := 26) (S' := .int (0 : Int32) :: _) dm_X11_letter_25 rfl rfl rfl rfl ?_
  refine me0 (pc' := 28) (S' := .int (31 : Int32) :: _) dm_X11_letter_26 rfl rfl rfl rfl ?_
  refine me0 (pc' := 29) (S' := .int (0 : Int32) :: _) dm_X11_letter_28 rfl rfl rfl rfl ?_
  refine me1 (pc' := 31) (L' := [(4, .int (0 : Int32)), (0, .ref 2), (1, .int (1 : Int32)), (2, .int p1), (3, .int (0 : Int32))]) dm_X11_letter_29 rfl rfl rfl rfl ?_
  refine me1 (pc' := 33) dm_X11_letter_31 rfl rfl rfl rfl ?_
  refine me_1f (pc' := 36) dm_X11_letter_33 rfl (by decide) rfl ?_
  refine me0 (pc' := 37) (S' := .int (-1 : Int32) :: _) dm_X11_letter_36 rfl rfl rfl rfl ?_
  refine me2 (pc' := 45) dm_X11_letter_37 rfl rfl rfl ?_
  refine me5 dm_X11_letter_45 rfl rfl rfl ?_
  exact k _ _ rfl (Nat.le_of_ble_eq_true rfl) (Nat.le_of_ble_eq_true rfl) (Nat.le_of_ble_eq_true rfl)
set_option maxRecDepth 100000 in
set_option maxHeartbeats 40000000 in
theorem c_letter_v1_lt_v1 {xt : mj_X} {d : Nat} {h V : mj_H} (hn : h.length = 2) (hv : V.length = 25) {P : Option Value → mj_H → Prop} {p1 : Int32} (hh1 : p1.toInt ≤ -1) (k : ∀ U D, U.length = 100 → mj_sl U ≤ 20000 → D.length ≤ 10 → mj_sl D ≤ 2000 → P (some (.int (-1 : Int32))) (h ++ (U ++ (V ++ D)))) : pgE xt (d + 20) 11 5 false (Option.some FieldType.int) (mj_dec prog_1_method_18_code) 0 [(0, .ref 2), (1, .int (1 : Int32)), (2, .int p1), (3, .int (1 : Int32))] [] (h ++ (cT ++ (V ++ []))) P := by
  refine me1 (pc' := 1) dm_X11_letter_0 rfl rfl rfl rfl ?_
  refine me_1f (pc' := 4) dm_X11_letter_1 rfl (by decide) rfl ?_
  refine me1 (pc' := 5) dm_X11_letter_4 rfl rfl rfl rfl ?_
  refine me0 (pc' := 7) (S' := .int (8 : Int32) :: _) dm_X11_letter_5 rfl rfl rfl rfl ?_
  refine me_2t (pc' := 12) dm_X11_letter_7 rfl rfl ?_
  refine me1 (pc' := 13) dm_X11_letter_12 rfl rfl rfl rfl ?_
  refine me3 (pc' := 16) dm_X11_letter_13 (g_get (v := .ref 4) (lu (n := 2) (j := 0) hn rfl) rfl rfl (Nat.le_of_ble_eq_true rfl)) rfl rfl rfl ?_
  refine me1 (pc' := 17) dm_X11_letter_16 rfl rfl rfl rfl ?_
  refine me1 (pc' := 18) dm_X11_letter_17 rfl rfl rfl rfl ?_
  refine me4 (pc' := 21) (L0 := [(0, .ref 4), (1, .int (1 : Int32)), (2, .int p1)]) dm_X11_letter_18 rfl (g_inv (As := [.int (1 : Int32), .int p1]) (lu (n := 2) (j := 2) hn rfl) rfl rfl rfl (Nat.le_of_ble_eq_true rfl)) pm_X2_keyAt rfl (Nat.le_of_ble_eq_true rfl) rfl rfl rfl ?_
  refine me1 (pc' := 1) dm_X2_keyAt_0 rfl rfl rfl rfl ?_
  refine me_1t (pc' := 13) dm_X2_keyAt_1 rfl (cn_t_lt (c := 0) rfl (by omega)) ?_
  refine me0 (pc' := 14) (S' := .long (0 : Int64) :: _) dm_X2_keyAt_13 rfl rfl rfl rfl ?_
  refine me5 dm_X2_keyAt_14 rfl rfl rfl ?_
  refine me1 (pc' := 22) dm_X11_letter_21 rfl rfl rfl rfl ?_
  refine me0 (pc' := 23) (S' := .int (5 : Int32) :: _) dm_X11_letter_22 rfl rfl rfl rfl ?_
  refine me0 (pc' := 24) (S' := .int (5 : Int32) :: _) dm_X11_letter_23 rfl rfl rfl rfl ?_
  refine me0 (pc' := 25) (S' := .long (0 : Int64) :: _) dm_X11_letter_24 rfl rfl rfl rfl ?_
  refine me0 (pc' := 26) (S' := .int (0 : Int32) :: _) dm_X11_letter_25 rfl rfl rfl rfl ?_
  refine me0 (pc' := 28) (S' := .int (31 : Int32) :: _) dm_X11_letter_26 rfl rfl rfl rfl ?_
  refine me0 (pc' := 29) (S' := .int (0 : Int32) :: _) dm_X11_letter_28 rfl rfl rfl rfl ?_
  refine me1 (pc' := 31) (L' := [(4, .int (0 : Int32)), (0, .ref 2), (1, .int (1 : Int32)), (2, .int p1), (3, .int (1 : Int32))]) dm_X11_letter_29 rfl rfl rfl rfl ?_
  refine me1 (pc' := 33) dm_X11_letter_31 rfl rfl rfl rfl ?_
  refine me_1f (pc' := 36) dm_X11_letter_33 rfl (by decide) rfl ?_
  refine me0 (pc' := 37) (S' := .int (-1 : Int32) :: _) dm_X11_letter_36 rfl rfl rfl rfl ?_
  refine me2 (pc' := 45) dm_X11_letter_37 rfl rfl rfl ?_
  refine me5 dm_X11_letter_45 rfl rfl rfl ?_
  exact k _ _ rfl (Nat.le_of_ble_eq_true rfl) (Nat.le_of_ble_eq_true rfl) (Nat.le_of_ble_eq_true rfl)
set_option maxRecDepth 100000 in
set_option maxHeartbeats 40000000 in
theorem c_letter_v1_lt_v2 {xt : mj_X} {d : Nat} {h V : mj_H} (hn : h.length = 2) (hv : V.length = 25) {P : Option Value → mj_H → Prop} {p1 : Int32} (hh1 : p1.toInt ≤ -1) (k : ∀ U D, U.length = 100 → mj_sl U ≤ 20000 → D.length ≤ 10 → mj_sl D ≤ 2000 → P (some (.int (-1 : Int32))) (h ++ (U ++ (V ++ D)))) : pgE xt (d + 20) 11 5 false (Option.some FieldType.int) (mj_dec prog_1_method_18_code) 0 [(0, .ref 2), (1, .int (1 : Int32)), (2, .int p1), (3, .int (2 : Int32))] [] (h ++ (cT ++ (V ++ []))) P := by
  refine me1 (pc' := 1) dm_X11_letter_0 rfl rfl rfl rfl ?_
  refine me_1f (pc' := 4) dm_X11_letter_1 rfl (by decide) rfl ?_
  refine me1 (pc' := 5) dm_X11_letter_4 rfl rfl rfl rfl ?_
  refine me0 (pc' := 7) (S' := .int (8 : Int32) :: _) dm_X11_letter_5 rfl rfl rfl rfl ?_
  refine me_2t (pc' := 12) dm_X11_letter_7 rfl rfl ?_
  refine me1 (pc' := 13) dm_X11_letter_12 rfl rfl rfl rfl ?_
  refine me3 (pc' := 16) dm_X11_letter_13 (g_get (v := .ref 4) (lu (n := 2) (j := 0) hn rfl) rfl rfl (Nat.le_of_ble_eq_true rfl)) rfl rfl rfl ?_
  refine me1 (pc' := 17) dm_X11_letter_16 rfl rfl rfl rfl ?_
  refine me1 (pc' := 18) dm_X11_letter_17 rfl rfl rfl rfl ?_
  refine me4 (pc' := 21) (L0 := [(0, .ref 4), (1, .int (1 : Int32)), (2, .int p1)]) dm_X11_letter_18 rfl (g_inv (As := [.int (1 : Int32), .int p1]) (lu (n := 2) (j := 2) hn rfl) rfl rfl rfl (Nat.le_of_ble_eq_true rfl)) pm_X2_keyAt rfl (Nat.le_of_ble_eq_true rfl) rfl rfl rfl ?_
  refine me1 (pc' := 1) dm_X2_keyAt_0 rfl rfl rfl rfl ?_
  refine me_1t (pc' := 13) dm_X2_keyAt_1 rfl (cn_t_lt (c := 0) rfl (by omega)) ?_
  refine me0 (pc' := 14) (S' := .long (0 : Int64) :: _) dm_X2_keyAt_13 rfl rfl rfl rfl ?_
  refine me5 dm_X2_keyAt_14 rfl rfl rfl ?_
  refine me1 (pc' := 22) dm_X11_letter_21 rfl rfl rfl rfl ?_
  refine me0 (pc' := 23) (S' := .int (5 : Int32) :: _) dm_X11_letter_22 rfl rfl rfl rfl ?_
  refine me0 (pc' := 24) (S' := .int (10 : Int32) :: _) dm_X11_letter_23 rfl rfl rfl rfl ?_
  refine me0 (pc' := 25) (S' := .long (0 : Int64) :: _) dm_X11_letter_24 rfl rfl rfl rfl ?_
  refine me0 (pc' := 26) (S' := .int (0 : Int32) :: _) dm_X11_letter_25 rfl rfl rfl rfl ?_
  refine me0 (pc' := 28) (S' := .int (31 : Int32) :: _) dm_X11_letter_26 rfl rfl rfl rfl ?_
  refine me0 (pc' := 29) (S' := .int (0 : Int32) :: _) dm_X11_letter_28 rfl rfl rfl rfl ?_
  refine me1 (pc' := 31) (L' := [(4, .int (0 : Int32)), (0, .ref 2), (1, .int (1 : Int32)), (2, .int p1), (3, .int (2 : Int32))]) dm_X11_letter_29 rfl rfl rfl rfl ?_
  refine me1 (pc' := 33) dm_X11_letter_31 rfl rfl rfl rfl ?_
  refine me_1f (pc' := 36) dm_X11_letter_33 rfl (by decide) rfl ?_
  refine me0 (pc' := 37) (S' := .int (-1 : Int32) :: _) dm_X11_letter_36 rfl rfl rfl rfl ?_
  refine me2 (pc' := 45) dm_X11_letter_37 rfl rfl rfl ?_
  refine me5 dm_X11_letter_45 rfl rfl rfl ?_
  exact k _ _ rfl (Nat.le_of_ble_eq_true rfl) (Nat.le_of_ble_eq_true rfl) (Nat.le_of_ble_eq_true rfl)
set_option maxRecDepth 100000 in
set_option maxHeartbeats 40000000 in
theorem c_letter_v1_lt_v3 {xt : mj_X} {d : Nat} {h V : mj_H} (hn : h.length = 2) (hv : V.length = 25) {P : Option Value → mj_H → Prop} {p1 : Int32} (hh1 : p1.toInt ≤ -1) (k : ∀ U D, U.length = 100 → mj_sl U ≤ 20000 → D.length ≤ 10 → mj_sl D ≤ 2000 → P (some (.int (-1 : Int32))) (h ++ (U ++ (V ++ D)))) : pgE xt (d + 20) 11 5 false (Option.some FieldType.int) (mj_dec prog_1_method_18_code) 0 [(0, .ref 2), (1, .int (1 : Int32)), (2, .int p1), (3, .int (3 : Int32))] [] (h ++ (cT ++ (V ++ []))) P := by
  refine me1 (pc' := 1) dm_X11_letter_0 rfl rfl rfl rfl ?_
  refine me_1f (pc' := 4) dm_X11_letter_1 rfl (by decide) rfl ?_
  refine me1 (pc' := 5) dm_X11_letter_4 rfl rfl rfl rfl ?_
  refine me0 (pc' := 7) (S' := .int (8 : Int32) :: _) dm_X11_letter_5 rfl rfl rfl rfl ?_
  refine me_2t (pc' := 12) dm_X11_letter_7 rfl rfl ?_
  refine me1 (pc' := 13) dm_X11_letter_12 rfl rfl rfl rfl ?_
  refine me3 (pc' := 16) dm_X11_letter_13 (g_get (v := .ref 4) (lu (n := 2) (j := 0) hn rfl) rfl rfl (Nat.le_of_ble_eq_true rfl)) rfl rfl rfl ?_
  refine me1 (pc' := 17) dm_X11_letter_16 rfl rfl rfl rfl ?_
  refine me1 (pc' := 18) dm_X11_letter_17 rfl rfl rfl rfl ?_
  refine me4 (pc' := 21) (L0 := [(0, .ref 4), (1, .int (1 : Int32)), (2, .int p1)]) dm_X11_letter_18 rfl (g_inv (As := [.int (1 : Int32), .int p1]) (lu (n := 2) (j := 2) hn rfl) rfl rfl rfl (Nat.le_of_ble_eq_true rfl)) pm_X2_keyAt rfl (Nat.le_of_ble_eq_true rfl) rfl rfl rfl ?_
  refine me1 (pc' := 1) dm_X2_keyAt_0 rfl rfl rfl rfl ?_
  refine me_1t (pc' := 13) dm_X2_keyAt_1 rfl (cn_t_lt (c := 0) rfl (by omega)) ?_
  refine me0 (pc' := 14) (S' := .long (0 : Int64) :: _) dm_X2_keyAt_13 rfl rfl rfl rfl ?_
  refine me5 dm_X2_keyAt_14 rfl rfl rfl ?_
  refine me1 (pc' := 22) dm_X11_letter_21 rfl rfl rfl rfl ?_
  refine me0 (pc' := 23) (S' := .int (5 : Int32) :: _) dm_X11_letter_22 rfl rfl rfl rfl ?_
  refine me0 (pc' := 24) (S' := .int (15 : Int32) :: _) dm_X11_letter_23 rfl rfl rfl rfl ?_
  refine me0 (pc' := 25) (S' := .long (0 : Int64) :: _) dm_X11_letter_24 rfl rfl rfl rfl ?_
  refine me0 (pc' := 26) (S' := .int (0 : Int32) :: _) dm_X11_letter_25 rfl rfl rfl rfl ?_
  refine me0 (pc' := 28) (S' := .int (31 : Int32) :: _) dm_X11_letter_26 rfl rfl rfl rfl ?_
  refine me0 (pc' := 29) (S' := .int (0 : Int32) :: _) dm_X11_letter_28 rfl rfl rfl rfl ?_
  refine me1 (pc' := 31) (L' := [(4, .int (0 : Int32)), (0, .ref 2), (1, .int (1 : Int32)), (2, .int p1), (3, .int (3 : Int32))]) dm_X11_letter_29 rfl rfl rfl rfl ?_
  refine me1 (pc' := 33) dm_X11_letter_31 rfl rfl rfl rfl ?_
  refine me_1f (pc' := 36) dm_X11_letter_33 rfl (by decide) rfl ?_
  refine me0 (pc' := 37) (S' := .int (-1 : Int32) :: _) dm_X11_letter_36 rfl rfl rfl rfl ?_
  refine me2 (pc' := 45) dm_X11_letter_37 rfl rfl rfl ?_
  refine me5 dm_X11_letter_45 rfl rfl rfl ?_
  exact k _ _ rfl (Nat.le_of_ble_eq_true rfl) (Nat.le_of_ble_eq_true rfl) (Nat.le_of_ble_eq_true rfl)
set_option maxRecDepth 100000 in
set_option maxHeartbeats 40000000 in
theorem c_letter_v1_lt_v4 {xt : mj_X} {d : Nat} {h V : mj_H} (hn : h.length = 2) (hv : V.length = 25) {P : Option Value → mj_H → Prop} {p1 : Int32} (hh1 : p1.toInt ≤ -1) (k : ∀ U D, U.length = 100 → mj_sl U ≤ 20000 → D.length ≤ 10 → mj_sl D ≤ 2000 → P (some (.int (-1 : Int32))) (h ++ (U ++ (V ++ D)))) : pgE xt (d + 20) 11 5 false (Option.some FieldType.int) (mj_dec prog_1_method_18_code) 0 [(0, .ref 2), (1, .int (1 : Int32)), (2, .int p1), (3, .int (4 : Int32))] [] (h ++ (cT ++ (V ++ []))) P := by
  refine me1 (pc' := 1) dm_X11_letter_0 rfl rfl rfl rfl ?_
  refine me_1f (pc' := 4) dm_X11_letter_1 rfl (by decide) rfl ?_
  refine me1 (pc' := 5) dm_X11_letter_4 rfl rfl rfl rfl ?_
  refine me0 (pc' := 7) (S' := .int (8 : Int32) :: _) dm_X11_letter_5 rfl rfl rfl rfl ?_
  refine me_2t (pc' := 12) dm_X11_letter_7 rfl rfl ?_
  refine me1 (pc' := 13) dm_X11_letter_12 rfl rfl rfl rfl ?_
  refine me3 (pc' := 16) dm_X11_letter_13 (g_get (v := .ref 4) (lu (n := 2) (j := 0) hn rfl) rfl rfl (Nat.le_of_ble_eq_true rfl)) rfl rfl rfl ?_
  refine me1 (pc' := 17) dm_X11_letter_16 rfl rfl rfl rfl ?_
  refine me1 (pc' := 18) dm_X11_letter_17 rfl rfl rfl rfl ?_
  refine me4 (pc' := 21) (L0 := [(0, .ref 4), (1, .int (1 : Int32)), (2, .int p1)]) dm_X11_letter_18 rfl (g_inv (As := [.int (1 : Int32), .int p1]) (lu (n := 2) (j := 2) hn rfl) rfl rfl rfl (Nat.le_of_ble_eq_true rfl)) pm_X2_keyAt rfl (Nat.le_of_ble_eq_true rfl) rfl rfl rfl ?_
  refine me1 (pc' := 1) dm_X2_keyAt_0 rfl rfl rfl rfl ?_
  refine me_1t (pc' := 13) dm_X2_keyAt_1 rfl (cn_t_lt (c := 0) rfl (by omega)) ?_
  refine me0 (pc' := 14) (S' := .long (0 : Int64) :: _) dm_X2_keyAt_13 rfl rfl rfl rfl ?_
  refine me5 dm_X2_keyAt_14 rfl rfl rfl ?_
  refine me1 (pc' := 22) dm_X11_letter_21 rfl rfl rfl rfl ?_
  refine me0 (pc' := 23) (S' := .int (5 : Int32) :: _) dm_X11_letter_22 rfl rfl rfl rfl ?_
  refine me0 (pc' := 24) (S' := .int (20 : Int32) :: _) dm_X11_letter_23 rfl rfl rfl rfl ?_
  refine me0 (pc' := 25) (S' := .long (0 : Int64) :: _) dm_X11_letter_24 rfl rfl rfl rfl ?_
  refine me0 (pc' := 26) (S' := .int (0 : Int32) :: _) dm_X11_letter_25 rfl rfl rfl rfl ?_
  refine me0 (pc' := 28) (S' := .int (31 : Int32) :: _) dm_X11_letter_26 rfl rfl rfl rfl ?_
  refine me0 (pc' := 29) (S' := .int (0 : Int32) :: _) dm_X11_letter_28 rfl rfl rfl rfl ?_
  refine me1 (pc' := 31) (L' := [(4, .int (0 : Int32)), (0, .ref 2), (1, .int (1 : Int32)), (2, .int p1), (3, .int (4 : Int32))]) dm_X11_letter_29 rfl rfl rfl rfl ?_
  refine me1 (pc' := 33) dm_X11_letter_31 rfl rfl rfl rfl ?_
  refine me_1f (pc' := 36) dm_X11_letter_33 rfl (by decide) rfl ?_
  refine me0 (pc' := 37) (S' := .int (-1 : Int32) :: _) dm_X11_letter_36 rfl rfl rfl rfl ?_
  refine me2 (pc' := 45) dm_X11_letter_37 rfl rfl rfl ?_
  refine me5 dm_X11_letter_45 rfl rfl rfl ?_
  exact k _ _ rfl (Nat.le_of_ble_eq_true rfl) (Nat.le_of_ble_eq_true rfl) (Nat.le_of_ble_eq_true rfl)
set_option maxRecDepth 100000 in
set_option maxHeartbeats 40000000 in
theorem c_letter_v1_lt_v5 {xt : mj_X} {d : Nat} {h V : mj_H} (hn : h.length = 2) (hv : V.length = 25) {P : Option Value → mj_H → Prop} {p1 : Int32} (hh1 : p1.toInt ≤ -1) (k : ∀ U D, U.length = 100 → mj_sl U ≤ 20000 → D.length ≤ 10 → mj_sl D ≤ 2000 → P (some (.int (-1 : Int32))) (h ++ (U ++ (V ++ D)))) : pgE xt (d + 20) 11 5 false (Option.some FieldType.int) (mj_dec prog_1_method_18_code) 0 [(0, .ref 2), (1, .int (1 : Int32)), (2, .int p1), (3, .int (5 : Int32))] [] (h ++ (cT ++ (V ++ []))) P := by
  refine me1 (pc' := 1) dm_X11_letter_0 rfl rfl rfl rfl ?_
  refine me_1f (pc' := 4) dm_X11_letter_1 rfl (by decide) rfl ?_
  refine me1 (pc' := 5) dm_X11_letter_4 rfl rfl rfl rfl ?_
  refine me0 (pc' := 7) (S' := .int (8 : Int32) :: _) dm_X11_letter_5 rfl rfl rfl rfl ?_
  refine me_2t (pc' := 12) dm_X11_letter_7 rfl rfl ?_
  refine me1 (pc' := 13) dm_X11_letter_12 rfl rfl rfl rfl ?_
  refine me3 (pc' := 16) dm_X11_letter_13 (g_get (v := .ref 4) (lu (n := 2) (j := 0) hn rfl) rfl rfl (Nat.le_of_ble_eq_true rfl)) rfl rfl rfl ?_
  refine me1 (pc' := 17) dm_X11_letter_16 rfl rfl rfl rfl ?_
  refine me1 (pc' := 18) dm_X11_letter_17 rfl rfl rfl rfl ?_
  refine me4 (pc' := 21) (L0 := [(0, .ref 4), (1, .int (1 : Int32)), (2, .int p1)]) dm_X11_letter_18 rfl (g_inv (As := [.int (1 : Int32), .int p1]) (lu (n := 2) (j := 2) hn rfl) rfl rfl rfl (Nat.le_of_ble_eq_true rfl)) pm_X2_keyAt rfl (Nat.le_of_ble_eq_true rfl) rfl rfl rfl ?_
  refine me1 (pc' := 1) dm_X2_keyAt_0 rfl rfl rfl rfl ?_
  refine me_1t (pc' := 13) dm_X2_keyAt_1 rfl (cn_t_lt (c := 0) rfl (by omega)) ?_
  refine me0 (pc' := 14) (S' := .long (0 : Int64) :: _) dm_X2_keyAt_13 rfl rfl rfl rfl ?_
  refine me5 dm_X2_keyAt_14 rfl rfl rfl ?_
  refine me1 (pc' := 22) dm_X11_letter_21 rfl rfl rfl rfl ?_
  refine me0 (pc' := 23) (S' := .int (5 : Int32) :: _) dm_X11_letter_22 rfl rfl rfl rfl ?_
  refine me0 (pc' := 24) (S' := .int (25 : Int32) :: _) dm_X11_letter_23 rfl rfl rfl rfl ?_
  refine me0 (pc' := 25) (S' := .long (0 : Int64) :: _) dm_X11_letter_24 rfl rfl rfl rfl ?_
  refine me0 (pc' := 26) (S' := .int (0 : Int32) :: _) dm_X11_letter_25 rfl rfl rfl rfl ?_
  refine me0 (pc' := 28) (S' := .int (31 : Int32) :: _) dm_X11_letter_26 rfl rfl rfl rfl ?_
  refine me0 (pc' := 29) (S' := .int (0 : Int32) :: _) dm_X11_letter_28 rfl rfl rfl rfl ?_
  refine me1 (pc' := 31) (L' := [(4, .int (0 : Int32)), (0, .ref 2), (1, .int (1 : Int32)), (2, .int p1), (3, .int (5 : Int32))]) dm_X11_letter_29 rfl rfl rfl rfl ?_
  refine me1 (pc' := 33) dm_X11_letter_31 rfl rfl rfl rfl ?_
  refine me_1f (pc' := 36) dm_X11_letter_33 rfl (by decide) rfl ?_
  refine me0 (pc' := 37) (S' := .int (-1 : Int32) :: _) dm_X11_letter_36 rfl rfl rfl rfl ?_
  refine me2 (pc' := 45) dm_X11_letter_37 rfl rfl rfl ?_
  refine me5 dm_X11_letter_45 rfl rfl rfl ?_
  exact k _ _ rfl (Nat.le_of_ble_eq_true rfl) (Nat.le_of_ble_eq_true rfl) (Nat.le_of_ble_eq_true rfl)
set_option maxRecDepth 100000 in
set_option maxHeartbeats 40000000 in
theorem c_letter_v1_lt_v6 {xt : mj_X} {d : Nat} {h V : mj_H} (hn : h.length = 2) (hv : V.length = 25) {P : Option Value → mj_H → Prop} {p1 : Int32} (hh1 : p1.toInt ≤ -1) (k : ∀ U D, U.length = 100 → mj_sl U ≤ 20000 → D.length ≤ 10 → mj_sl D ≤ 2000 → P (some (.int (-1 : Int32))) (h ++ (U ++ (V ++ D)))) : pgE xt (d + 20) 11 5 false (Option.some FieldType.int) (mj_dec prog_1_method_18_code) 0 [(0, .ref 2), (1, .int (1 : Int32)), (2, .int p1), (3, .int (6 : Int32))] [] (h ++ (cT ++ (V ++ []))) P := by
  refine me1 (pc' := 1) dm_X11_letter_0 rfl rfl rfl rfl ?_
  refine me_1f (pc' := 4) dm_X11_letter_1 rfl (by decide) rfl ?_
  refine me1 (pc' := 5) dm_X11_letter_4 rfl rfl rfl rfl ?_
  refine me0 (pc' := 7) (S' := .int (8 : Int32) :: _) dm_X11_letter_5 rfl rfl rfl rfl ?_
  refine me_2t (pc' := 12) dm_X11_letter_7 rfl rfl ?_
  refine me1 (pc' := 13) dm_X11_letter_12 rfl rfl rfl rfl ?_
  refine me3 (pc' := 16) dm_X11_letter_13 (g_get (v := .ref 4) (lu (n := 2) (j := 0) hn rfl) rfl rfl (Nat.le_of_ble_eq_true rfl)) rfl rfl rfl ?_
  refine me1 (pc' := 17) dm_X11_letter_16 rfl rfl rfl rfl ?_
  refine me1 (pc' := 18) dm_X11_letter_17 rfl rfl rfl rfl ?_
  refine me4 (pc' := 21) (L0 := [(0, .ref 4), (1, .int (1 : Int32)), (2, .int p1)]) dm_X11_letter_18 rfl (g_inv (As := [.int (1 : Int32), .int p1]) (lu (n := 2) (j := 2) hn rfl) rfl rfl rfl (Nat.le_of_ble_eq_true rfl)) pm_X2_keyAt rfl (Nat.le_of_ble_eq_true rfl) rfl rfl rfl ?_
  refine me1 (pc' := 1) dm_X2_keyAt_0 rfl rfl rfl rfl ?_
  refine me_1t (pc' := 13) dm_X2_keyAt_1 rfl (cn_t_lt (c := 0) rfl (by omega)) ?_
  refine me0 (pc' := 14) (S' := .long (0 : Int64) :: _) dm_X2_keyAt_13 rfl rfl rfl rfl ?_
  refine me5 dm_X2_keyAt_14 rfl rfl rfl ?_
  refine me1 (pc' := 22) dm_X11_letter_21 rfl rfl rfl rfl ?_
  refine me0 (pc' := 23) (S' := .int (5 : Int32) :: _) dm_X11_letter_22 rfl rfl rfl rfl ?_
  refine me0 (pc' := 24) (S' := .int (30 : Int32) :: _) dm_X11_letter_23 rfl rfl rfl rfl ?_
  refine me0 (pc' := 25) (S' := .long (0 : Int64) :: _) dm_X11_letter_24 rfl rfl rfl rfl ?_
  refine me0 (pc' := 26) (S' := .int (0 : Int32) :: _) dm_X11_letter_25 rfl rfl rfl rfl ?_
  refine me0 (pc' := 28) (S' := .int (31 : Int32) :: _) dm_X11_letter_26 rfl rfl rfl rfl ?_
  refine me0 (pc' := 29) (S' := .int (0 : Int32) :: _) dm_X11_letter_28 rfl rfl rfl rfl ?_
  refine me1 (pc' := 31) (L' := [(4, .int (0 : Int32)), (0, .ref 2), (1, .int (1 : Int32)), (2, .int p1), (3, .int (6 : Int32))]) dm_X11_letter_29 rfl rfl rfl rfl ?_
  refine me1 (pc' := 33) dm_X11_letter_31 rfl rfl rfl rfl ?_
  refine me_1f (pc' := 36) dm_X11_letter_33 rfl (by decide) rfl ?_
  refine me0 (pc' := 37) (S' := .int (-1 : Int32) :: _) dm_X11_letter_36 rfl rfl rfl rfl ?_
  refine me2 (pc' := 45) dm_X11_letter_37 rfl rfl rfl ?_
  refine me5 dm_X11_letter_45 rfl rfl rfl ?_
  exact k _ _ rfl (Nat.le_of_ble_eq_true rfl) (Nat.le_of_ble_eq_true rfl) (Nat.le_of_ble_eq_true rfl)
set_option maxRecDepth 100000 in
set_option maxHeartbeats 40000000 in
theorem c_letter_v1_lt_v7 {xt : mj_X} {d : Nat} {h V : mj_H} (hn : h.length = 2) (hv : V.length = 25) {P : Option Value → mj_H → Prop} {p1 : Int32} (hh1 : p1.toInt ≤ -1) (k : ∀ U D, U.length = 100 → mj_sl U ≤ 20000 → D.length ≤ 10 → mj_sl D ≤ 2000 → P (some (.int (-1 : Int32))) (h ++ (U ++ (V ++ D)))) : pgE xt (d + 20) 11 5 false (Option.some FieldType.int) (mj_dec prog_1_method_18_code) 0 [(0, .ref 2), (1, .int (1 : Int32)), (2, .int p1), (3, .int (7 : Int32))] [] (h ++ (cT ++ (V ++ []))) P := by
  refine me1 (pc' := 1) dm_X11_letter_0 rfl rfl rfl rfl ?_
  refine me_1f (pc' := 4) dm_X11_letter_1 rfl (by decide) rfl ?_
  refine me1 (pc' := 5) dm_X11_letter_4 rfl rfl rfl rfl ?_
  refine me0 (pc' := 7) (S' := .int (8 : Int32) :: _) dm_X11_letter_5 rfl rfl rfl rfl ?_
  refine me_2t (pc' := 12) dm_X11_letter_7 rfl rfl ?_
  refine me1 (pc' := 13) dm_X11_letter_12 rfl rfl rfl rfl ?_
  refine me3 (pc' := 16) dm_X11_letter_13 (g_get (v := .ref 4) (lu (n := 2) (j := 0) hn rfl) rfl rfl (Nat.le_of_ble_eq_true rfl)) rfl rfl rfl ?_
  refine me1 (pc' := 17) dm_X11_letter_16 rfl rfl rfl rfl ?_
  refine me1 (pc' := 18) dm_X11_letter_17 rfl rfl rfl rfl ?_
  refine me4 (pc' := 21) (L0 := [(0, .ref 4), (1, .int (1 : Int32)), (2, .int p1)]) dm_X11_letter_18 rfl (g_inv (As := [.int (1 : Int32), .int p1]) (lu (n := 2) (j := 2) hn rfl) rfl rfl rfl (Nat.le_of_ble_eq_true rfl)) pm_X2_keyAt rfl (Nat.le_of_ble_eq_true rfl) rfl rfl rfl ?_
  refine me1 (pc' := 1) dm_X2_keyAt_0 rfl rfl rfl rfl ?_
  refine me_1t (pc' := 13) dm_X2_keyAt_1 rfl (cn_t_lt (c := 0) rfl (by omega)) ?_
  refine me0 (pc' := 14) (S' := .long (0 : Int64) :: _) dm_X2_keyAt_13 rfl rfl rfl rfl ?_
  refine me5 dm_X2_keyAt_14 rfl rfl rfl ?_
  refine me1 (pc' := 22) dm_X11_letter_21 rfl rfl rfl rfl ?_
  refine me0 (pc' := 23) (S' := .int (5 : Int32) :: _) dm_X11_letter_22 rfl rfl rfl rfl ?_
  refine me0 (pc' := 24) (S' := .int (35 : Int32) :: _) dm_X11_letter_23 rfl rfl rfl rfl ?_
  refine me0 (pc' := 25) (S' := .long (0 : Int64) :: _) dm_X11_letter_24 rfl rfl rfl rfl ?_
  refine me0 (pc' := 26) (S' := .int (0 : Int32) :: _) dm_X11_letter_25 rfl rfl rfl rfl ?_
  refine me0 (pc' := 28) (S' := .int (31 : Int32) :: _) dm_X11_letter_26 rfl rfl rfl rfl ?_
  refine me0 (pc' := 29) (S' := .int (0 : Int32) :: _) dm_X11_letter_28 rfl rfl rfl rfl ?_
  refine me1 (pc' := 31) (L' := [(4, .int (0 : Int32)), (0, .ref 2), (1, .int (1 : Int32)), (2, .int p1), (3, .int (7 : Int32))]) dm_X11_letter_29 rfl rfl rfl rfl ?_
  refine me1 (pc' := 33) dm_X11_letter_31 rfl rfl rfl rfl ?_
  refine me_1f (pc' := 36) dm_X11_letter_33 rfl (by decide) rfl ?_
  refine me0 (pc' := 37) (S' := .int (-1 : Int32) :: _) dm_X11_letter_36 rfl rfl rfl rfl ?_
  refine me2 (pc' := 45) dm_X11_letter_37 rfl rfl rfl ?_
  refine me5 dm_X11_letter_45 rfl rfl rfl ?_
  exact k _ _ rfl (Nat.le_of_ble_eq_true rfl) (Nat.le_of_ble_eq_true rfl) (Nat.le_of_ble_eq_true rfl)
set_option maxRecDepth 100000 in
set_option maxHeartbeats 40000000 in
theorem c_letter_v1_lt_ge {xt : mj_X} {d : Nat} {h V : mj_H} (hn : h.length = 2) (hv : V.length = 25) {P : Option Value → mj_H → Prop} {p1 : Int32} {p2 : Int32} (hh1 : p1.toInt ≤ -1) (hl2 : 8 ≤ p2.toInt) (k : ∀ U D, U.length = 100 → mj_sl U ≤ 20000 → D.length ≤ 10 → mj_sl D ≤ 2000 → P (some (.int (-1 : Int32))) (h ++ (U ++ (V ++ D)))) : pgE xt (d + 20) 11 5 false (Option.some FieldType.int) (mj_dec prog_1_method_18_code) 0 [(0, .ref 2), (1, .int (1 : Int32)), (2, .int p1), (3, .int p2)] [] (h ++ (cT ++ (V ++ []))) P := by
  refine me1 (pc' := 1) dm_X11_letter_0 rfl rfl rfl rfl ?_
  refine me_1f (pc' := 4) dm_X11_letter_1 rfl (cn_f_lt (c := 0) rfl (by omega)) rfl ?_
  refine me1 (pc' := 5) dm_X11_letter_4 rfl rfl rfl rfl ?_
  refine me0 (pc' := 7) (S' := .int (8 : Int32) :: _) dm_X11_letter_5 rfl rfl rfl rfl ?_
  refine me_2f (pc' := 10) dm_X11_letter_7 rfl (cn_f_lt (c := 8) rfl (by omega)) rfl ?_
  refine me0 (pc' := 11) (S' := .int (-1 : Int32) :: _) dm_X11_letter_10 rfl rfl rfl rfl ?_
  refine me5 dm_X11_letter_11 rfl rfl rfl ?_
  exact k _ _ rfl (Nat.le_of_ble_eq_true rfl) (Nat.le_of_ble_eq_true rfl) (Nat.le_of_ble_eq_true rfl)
set_option maxRecDepth 100000 in
set_option maxHeartbeats 40000000 in
theorem c_letter_v1_ge_lt {xt : mj_X} {d : Nat} {h V : mj_H} (hn : h.length = 2) (hv : V.length = 25) {P : Option Value → mj_H → Prop} {p1 : Int32} {p2 : Int32} (hl1 : 0 ≤ p1.toInt) (hh2 : p2.toInt ≤ -1) (k : ∀ U D, U.length = 100 → mj_sl U ≤ 20000 → D.length ≤ 10 → mj_sl D ≤ 2000 → P (some (.int (-1 : Int32))) (h ++ (U ++ (V ++ D)))) : pgE xt (d + 20) 11 5 false (Option.some FieldType.int) (mj_dec prog_1_method_18_code) 0 [(0, .ref 2), (1, .int (1 : Int32)), (2, .int p1), (3, .int p2)] [] (h ++ (cT ++ (V ++ []))) P := by
  refine me1 (pc' := 1) dm_X11_letter_0 rfl rfl rfl rfl ?_
  refine me_1t (pc' := 10) dm_X11_letter_1 rfl (cn_t_lt (c := 0) rfl (by omega)) ?_
  refine me0 (pc' := 11) (S' := .int (-1 : Int32) :: _) dm_X11_letter_10 rfl rfl rfl rfl ?_
  refine me5 dm_X11_letter_11 rfl rfl rfl ?_
  exact k _ _ rfl (Nat.le_of_ble_eq_true rfl) (Nat.le_of_ble_eq_true rfl) (Nat.le_of_ble_eq_true rfl)
set_option maxRecDepth 100000 in
set_option maxHeartbeats 40000000 in
theorem c_letter_v1_ge_v0 {xt : mj_X} {d : Nat} {h V : mj_H} (hn : h.length = 2) (hv : V.length = 25) {P : Option Value → mj_H → Prop} {p1 : Int32} (hl1 : 0 ≤ p1.toInt) (k : ∀ U D, U.length = 100 → mj_sl U ≤ 20000 → D.length ≤ 10 → mj_sl D ≤ 2000 → P (some (.int (-1 : Int32))) (h ++ (U ++ (V ++ D)))) : pgE xt (d + 20) 11 5 false (Option.some FieldType.int) (mj_dec prog_1_method_18_code) 0 [(0, .ref 2), (1, .int (1 : Int32)), (2, .int p1), (3, .int (0 : Int32))] [] (h ++ (cT ++ (V ++ []))) P := by
  refine me1 (pc' := 1) dm_X11_letter_0 rfl rfl rfl rfl ?_
  refine me_1f (pc' := 4) dm_X11_letter_1 rfl (by decide) rfl ?_
  refine me1 (pc' := 5) dm_X11_letter_4 rfl rfl rfl rfl ?_
  refine me0 (pc' := 7) (S' := .int (8 : Int32) :: _) dm_X11_letter_5 rfl rfl rfl rfl ?_
  refine me_2t (pc' := 12) dm_X11_letter_7 rfl rfl ?_
  refine me1 (pc' := 13) dm_X11_letter_12 rfl rfl rfl rfl ?_
  refine me3 (pc' := 16) dm_X11_letter_13 (g_get (v := .ref 4) (lu (n := 2) (j := 0) hn rfl) rfl rfl (Nat.le_of_ble_eq_true rfl)) rfl rfl rfl ?_
  refine me1 (pc' := 17) dm_X11_letter_16 rfl rfl rfl rfl ?_
  refine me1 (pc' := 18) dm_X11_letter_17 rfl rfl rfl rfl ?_
  refine me4 (pc' := 21) (L0 := [(0, .ref 4), (1, .int (1 : Int32)), (2, .int p1)]) dm_X11_letter_18 rfl (g_inv (As := [.int (1 : Int32), .int p1]) (lu (n := 2) (j := 2) hn rfl) rfl rfl rfl (Nat.le_of_ble_eq_true rfl)) pm_X2_keyAt rfl (Nat.le_of_ble_eq_true rfl) rfl rfl rfl ?_
  refine me1 (pc' := 1) dm_X2_keyAt_0 rfl rfl rfl rfl ?_
  refine me_1f (pc' := 4) dm_X2_keyAt_1 rfl (cn_f_lt (c := 0) rfl (by omega)) rfl ?_
  refine me1 (pc' := 5) dm_X2_keyAt_4 rfl rfl rfl rfl ?_
  refine me1 (pc' := 6) dm_X2_keyAt_5 rfl rfl rfl rfl ?_
  refine me1 (pc' := 7) dm_X2_keyAt_6 rfl rfl rfl rfl ?_
  refine me4 (pc' := 10) (L0 := [(0, .ref 4), (1, .int (1 : Int32))]) dm_X2_keyAt_7 rfl (g_inv (As := [.int (1 : Int32)]) (lu (n := 2) (j := 2) hn rfl) rfl rfl rfl (Nat.le_of_ble_eq_true rfl)) pm_X2_howMany rfl (Nat.le_of_ble_eq_true rfl) rfl rfl rfl ?_
  refine me1 (pc' := 1) dm_X2_howMany_0 rfl rfl rfl rfl ?_
  refine me_1t (pc' := 9) dm_X2_howMany_1 rfl rfl ?_
  refine me1 (pc' := 10) dm_X2_howMany_9 rfl rfl rfl rfl ?_
  refine me0 (pc' := 11) (S' := .int (1 : Int32) :: _) dm_X2_howMany_10 rfl rfl rfl rfl ?_
  refine me_2f (pc' := 14) dm_X2_howMany_11 rfl (by decide) rfl ?_
  refine me1 (pc' := 15) dm_X2_howMany_14 rfl rfl rfl rfl ?_
  refine me3 (pc' := 18) dm_X2_howMany_15 (g_get (v := .int (0 : Int32)) (lu (n := 2) (j := 2) hn rfl) rfl rfl (Nat.le_of_ble_eq_true rfl)) rfl rfl rfl ?_
  refine me2 (pc' := 22) dm_X2_howMany_18 rfl rfl rfl ?_
  refine me5 dm_X2_howMany_22 rfl rfl rfl ?_
  refine me_2f (pc' := 13) dm_X2_keyAt_10 rfl (cn_f_lt (c := 0) rfl (by omega)) rfl ?_
  refine me0 (pc' := 14) (S' := .long (0 : Int64) :: _) dm_X2_keyAt_13 rfl rfl rfl rfl ?_
  refine me5 dm_X2_keyAt_14 rfl rfl rfl ?_
  refine me1 (pc' := 22) dm_X11_letter_21 rfl rfl rfl rfl ?_
  refine me0 (pc' := 23) (S' := .int (5 : Int32) :: _) dm_X11_letter_22 rfl rfl rfl rfl ?_
  refine me0 (pc' := 24) (S' := .int (0 : Int32) :: _) dm_X11_letter_23 rfl rfl rfl rfl ?_
  refine me0 (pc' := 25) (S' := .long (0 : Int64) :: _) dm_X11_letter_24 rfl rfl rfl rfl ?_
  refine me0 (pc' := 26) (S' := .int (0 : Int32) :: _) dm_X11_letter_25 rfl rfl rfl rfl ?_
  refine me0 (pc' := 28) (S' := .int (31 : Int32) :: _) dm_X11_letter_26 rfl rfl rfl rfl ?_
  refine me0 (pc' := 29) (S' := .int (0 : Int32) :: _) dm_X11_letter_28 rfl rfl rfl rfl ?_
  refine me1 (pc' := 31) (L' := [(4, .int (0 : Int32)), (0, .ref 2), (1, .int (1 : Int32)), (2, .int p1), (3, .int (0 : Int32))]) dm_X11_letter_29 rfl rfl rfl rfl ?_
  refine me1 (pc' := 33) dm_X11_letter_31 rfl rfl rfl rfl ?_
  refine me_1f (pc' := 36) dm_X11_letter_33 rfl (by decide) rfl ?_
  refine me0 (pc' := 37) (S' := .int (-1 : Int32) :: _) dm_X11_letter_36 rfl rfl rfl rfl ?_
  refine me2 (pc' := 45) dm_X11_letter_37 rfl rfl rfl ?_
  refine me5 dm_X11_letter_45 rfl rfl rfl ?_
  exact k _ _ rfl (Nat.le_of_ble_eq_true rfl) (Nat.le_of_ble_eq_true rfl) (Nat.le_of_ble_eq_true rfl)
set_option maxRecDepth 100000 in
set_option maxHeartbeats 40000000 in
theorem c_letter_v1_ge_v1 {xt : mj_X} {d : Nat} {h V : mj_H} (hn : h.length = 2) (hv : V.length = 25) {P : Option Value → mj_H → Prop} {p1 : Int32} (hl1 : 0 ≤ p1.toInt) (k : ∀ U D, U.length = 100 → mj_sl U ≤ 20000 → D.length ≤ 10 → mj_sl D ≤ 2000 → P (some (.int (-1 : Int32))) (h ++ (U ++ (V ++ D)))) : pgE xt (d + 20) 11 5 false (Option.some FieldType.int) (mj_dec prog_1_method_18_code) 0 [(0, .ref 2), (1, .int (1 : Int32)), (2, .int p1), (3, .int (1 : Int32))] [] (h ++ (cT ++ (V ++ []))) P := by
  refine me1 (pc' := 1) dm_X11_letter_0 rfl rfl rfl rfl ?_
  refine me_1f (pc' := 4) dm_X11_letter_1 rfl (by decide) rfl ?_
  refine me1 (pc' := 5) dm_X11_letter_4 rfl rfl rfl rfl ?_
  refine me0 (pc' := 7) (S' := .int (8 : Int32) :: _) dm_X11_letter_5 rfl rfl rfl rfl ?_
  refine me_2t (pc' := 12) dm_X11_letter_7 rfl rfl ?_
  refine me1 (pc' := 13) dm_X11_letter_12 rfl rfl rfl rfl ?_
  refine me3 (pc' := 16) dm_X11_letter_13 (g_get (v := .ref 4) (lu (n := 2) (j := 0) hn rfl) rfl rfl (Nat.le_of_ble_eq_true rfl)) rfl rfl rfl ?_
  refine me1 (pc' := 17) dm_X11_letter_16 rfl rfl rfl rfl ?_
  refine me1 (pc' := 18) dm_X11_letter_17 rfl rfl rfl rfl ?_
  refine me4 (pc' := 21) (L0 := [(0, .ref 4), (1, .int (1 : Int32)), (2, .int p1)]) dm_X11_letter_18 rfl (g_inv (As := [.int (1 : Int32), .int p1]) (lu (n := 2) (j := 2) hn rfl) rfl rfl rfl (Nat.le_of_ble_eq_true rfl)) pm_X2_keyAt rfl (Nat.le_of_ble_eq_true rfl) rfl rfl rfl ?_
  refine me1 (pc' := 1) dm_X2_keyAt_0 rfl rfl rfl rfl ?_
  refine me_1f (pc' := 4) dm_X2_keyAt_1 rfl (cn_f_lt (c := 0) rfl (by omega)) rfl ?_
  refine me1 (pc' := 5) dm_X2_keyAt_4 rfl rfl rfl rfl ?_
  refine me1 (pc' := 6) dm_X2_keyAt_5 rfl rfl rfl rfl ?_
  refine me1 (pc' := 7) dm_X2_keyAt_6 rfl rfl rfl rfl ?_
  refine me4 (pc' := 10) (L0 := [(0, .ref 4), (1, .int (1 : Int32))]) dm_X2_keyAt_7 rfl (g_inv (As := [.int (1 : Int32)]) (lu (n := 2) (j := 2) hn rfl) rfl rfl rfl (Nat.le_of_ble_eq_true rfl)) pm_X2_howMany rfl (Nat.le_of_ble_eq_true rfl) rfl rfl rfl ?_
  refine me1 (pc' := 1) dm_X2_howMany_0 rfl rfl rfl rfl ?_
  refine me_1t (pc' := 9) dm_X2_howMany_1 rfl rfl ?_
  refine me1 (pc' := 10) dm_X2_howMany_9 rfl rfl rfl rfl ?_
  refine me0 (pc' := 11) (S' := .int (1 : Int32) :: _) dm_X2_howMany_10 rfl rfl rfl rfl ?_
  refine me_2f (pc' := 14) dm_X2_howMany_11 rfl (by decide) rfl ?_
  refine me1 (pc' := 15) dm_X2_howMany_14 rfl rfl rfl rfl ?_
  refine me3 (pc' := 18) dm_X2_howMany_15 (g_get (v := .int (0 : Int32)) (lu (n := 2) (j := 2) hn rfl) rfl rfl (Nat.le_of_ble_eq_true rfl)) rfl rfl rfl ?_
  refine me2 (pc' := 22) dm_X2_howMany_18 rfl rfl rfl ?_
  refine me5 dm_X2_howMany_22 rfl rfl rfl ?_
  refine me_2f (pc' := 13) dm_X2_keyAt_10 rfl (cn_f_lt (c := 0) rfl (by omega)) rfl ?_
  refine me0 (pc' := 14) (S' := .long (0 : Int64) :: _) dm_X2_keyAt_13 rfl rfl rfl rfl ?_
  refine me5 dm_X2_keyAt_14 rfl rfl rfl ?_
  refine me1 (pc' := 22) dm_X11_letter_21 rfl rfl rfl rfl ?_
  refine me0 (pc' := 23) (S' := .int (5 : Int32) :: _) dm_X11_letter_22 rfl rfl rfl rfl ?_
  refine me0 (pc' := 24) (S' := .int (5 : Int32) :: _) dm_X11_letter_23 rfl rfl rfl rfl ?_
  refine me0 (pc' := 25) (S' := .long (0 : Int64) :: _) dm_X11_letter_24 rfl rfl rfl rfl ?_
  refine me0 (pc' := 26) (S' := .int (0 : Int32) :: _) dm_X11_letter_25 rfl rfl rfl rfl ?_
  refine me0 (pc' := 28) (S' := .int (31 : Int32) :: _) dm_X11_letter_26 rfl rfl rfl rfl ?_
  refine me0 (pc' := 29) (S' := .int (0 : Int32) :: _) dm_X11_letter_28 rfl rfl rfl rfl ?_
  refine me1 (pc' := 31) (L' := [(4, .int (0 : Int32)), (0, .ref 2), (1, .int (1 : Int32)), (2, .int p1), (3, .int (1 : Int32))]) dm_X11_letter_29 rfl rfl rfl rfl ?_
  refine me1 (pc' := 33) dm_X11_letter_31 rfl rfl rfl rfl ?_
  refine me_1f (pc' := 36) dm_X11_letter_33 rfl (by decide) rfl ?_
  refine me0 (pc' := 37) (S' := .int (-1 : Int32) :: _) dm_X11_letter_36 rfl rfl rfl rfl ?_
  refine me2 (pc' := 45) dm_X11_letter_37 rfl rfl rfl ?_
  refine me5 dm_X11_letter_45 rfl rfl rfl ?_
  exact k _ _ rfl (Nat.le_of_ble_eq_true rfl) (Nat.le_of_ble_eq_true rfl) (Nat.le_of_ble_eq_true rfl)
set_option maxRecDepth 100000 in
set_option maxHeartbeats 40000000 in
theorem c_letter_v1_ge_v2 {xt : mj_X} {d : Nat} {h V : mj_H} (hn : h.length = 2) (hv : V.length = 25) {P : Option Value → mj_H → Prop} {p1 : Int32} (hl1 : 0 ≤ p1.toInt) (k : ∀ U D, U.length = 100 → mj_sl U ≤ 20000 → D.length ≤ 10 → mj_sl D ≤ 2000 → P (some (.int (-1 : Int32))) (h ++ (U ++ (V ++ D)))) : pgE xt (d + 20) 11 5 false (Option.some FieldType.int) (mj_dec prog_1_method_18_code) 0 [(0, .ref 2), (1, .int (1 : Int32)), (2, .int p1), (3, .int (2 : Int32))] [] (h ++ (cT ++ (V ++ []))) P := by
  refine me1 (pc' := 1) dm_X11_letter_0 rfl rfl rfl rfl ?_
  refine me_1f (pc' := 4) dm_X11_letter_1 rfl (by decide) rfl ?_
  refine me1 (pc' := 5) dm_X11_letter_4 rfl rfl rfl rfl ?_
  refine me0 (pc' := 7) (S' := .int (8 : Int32) :: _) dm_X11_letter_5 rfl rfl rfl rfl ?_
  refine me_2t (pc' := 12) dm_X11_letter_7 rfl rfl ?_
  refine me1 (pc' := 13) dm_X11_letter_12 rfl rfl rfl rfl ?_
  refine me3 (pc' := 16) dm_X11_letter_13 (g_get (v := .ref 4) (lu (n := 2) (j := 0) hn rfl) rfl rfl (Nat.le_of_ble_eq_true rfl)) rfl rfl rfl ?_
  refine me1 (pc' := 17) dm_X11_letter_16 rfl rfl rfl rfl ?_
  refine me1 (pc' := 18) dm_X11_letter_17 rfl rfl rfl rfl ?_
  refine me4 (pc' := 21) (L0 := [(0, .ref 4), (1, .int (1 : Int32)), (2, .int p1)]) dm_X11_letter_18 rfl (g_inv (As := [.int (1 : Int32), .int p1]) (lu (n := 2) (j := 2) hn rfl) rfl rfl rfl (Nat.le_of_ble_eq_true rfl)) pm_X2_keyAt rfl (Nat.le_of_ble_eq_true rfl) rfl rfl rfl ?_
  refine me1 (pc' := 1) dm_X2_keyAt_0 rfl rfl rfl rfl ?_
  refine me_1f (pc' := 4) dm_X2_keyAt_1 rfl (cn_f_lt (c := 0) rfl (by omega)) rfl ?_
  refine me1 (pc' := 5) dm_X2_keyAt_4 rfl rfl rfl rfl ?_
  refine me1 (pc' := 6) dm_X2_keyAt_5 rfl rfl rfl rfl ?_
  refine me1 (pc' := 7) dm_X2_keyAt_6 rfl rfl rfl rfl ?_
  refine me4 (pc' := 10) (L0 := [(0, .ref 4), (1, .int (1 : Int32))]) dm_X2_keyAt_7 rfl (g_inv (As := [.int (1 : Int32)]) (lu (n := 2) (j := 2) hn rfl) rfl rfl rfl (Nat.le_of_ble_eq_true rfl)) pm_X2_howMany rfl (Nat.le_of_ble_eq_true rfl) rfl rfl rfl ?_
  refine me1 (pc' := 1) dm_X2_howMany_0 rfl rfl rfl rfl ?_
  refine me_1t (pc' := 9) dm_X2_howMany_1 rfl rfl ?_
  refine me1 (pc' := 10) dm_X2_howMany_9 rfl rfl rfl rfl ?_
  refine me0 (pc' := 11) (S' := .int (1 : Int32) :: _) dm_X2_howMany_10 rfl rfl rfl rfl ?_
  refine me_2f (pc' := 14) dm_X2_howMany_11 rfl (by decide) rfl ?_
  refine me1 (pc' := 15) dm_X2_howMany_14 rfl rfl rfl rfl ?_
  refine me3 (pc' := 18) dm_X2_howMany_15 (g_get (v := .int (0 : Int32)) (lu (n := 2) (j := 2) hn rfl) rfl rfl (Nat.le_of_ble_eq_true rfl)) rfl rfl rfl ?_
  refine me2 (pc' := 22) dm_X2_howMany_18 rfl rfl rfl ?_
  refine me5 dm_X2_howMany_22 rfl rfl rfl ?_
  refine me_2f (pc' := 13) dm_X2_keyAt_10 rfl (cn_f_lt (c := 0) rfl (by omega)) rfl ?_
  refine me0 (pc' := 14) (S' := .long (0 : Int64) :: _) dm_X2_keyAt_13 rfl rfl rfl rfl ?_
  refine me5 dm_X2_keyAt_14 rfl rfl rfl ?_
  refine me1 (pc' := 22) dm_X11_letter_21 rfl rfl rfl rfl ?_
  refine me0 (pc' := 23) (S' := .int (5 : Int32) :: _) dm_X11_letter_22 rfl rfl rfl rfl ?_
  refine me0 (pc' := 24) (S' := .int (10 : Int32) :: _) dm_X11_letter_23 rfl rfl rfl rfl ?_
  refine me0 (pc' := 25) (S' := .long (0 : Int64) :: _) dm_X11_letter_24 rfl rfl rfl rfl ?_
  refine me0 (pc' := 26) (S' := .int (0 : Int32) :: _) dm_X11_letter_25 rfl rfl rfl rfl ?_
  refine me0 (pc' := 28) (S' := .int (31 : Int32) :: _) dm_X11_letter_26 rfl rfl rfl rfl ?_
  refine me0 (pc' := 29) (S' := .int (0 : Int32) :: _) dm_X11_letter_28 rfl rfl rfl rfl ?_
  refine me1 (pc' := 31) (L' := [(4, .int (0 : Int32)), (0, .ref 2), (1, .int (1 : Int32)), (2, .int p1), (3, .int (2 : Int32))]) dm_X11_letter_29 rfl rfl rfl rfl ?_
  refine me1 (pc' := 33) dm_X11_letter_31 rfl rfl rfl rfl ?_
  refine me_1f (pc' := 36) dm_X11_letter_33 rfl (by decide) rfl ?_
  refine me0 (pc' := 37) (S' := .int (-1 : Int32) :: _) dm_X11_letter_36 rfl rfl rfl rfl ?_
  refine me2 (pc' := 45) dm_X11_letter_37 rfl rfl rfl ?_
  refine me5 dm_X11_letter_45 rfl rfl rfl ?_
  exact k _ _ rfl (Nat.le_of_ble_eq_true rfl) (Nat.le_of_ble_eq_true rfl) (Nat.le_of_ble_eq_true rfl)
set_option maxRecDepth 100000 in
set_option maxHeartbeats 40000000 in
theorem c_letter_v1_ge_v3 {xt : mj_X} {d : Nat} {h V : mj_H} (hn : h.length = 2) (hv : V.length = 25) {P : Option Value → mj_H → Prop} {p1 : Int32} (hl1 : 0 ≤ p1.toInt) (k : ∀ U D, U.length = 100 → mj_sl U ≤ 20000 → D.length ≤ 10 → mj_sl D ≤ 2000 → P (some (.int (-1 : Int32))) (h ++ (U ++ (V ++ D)))) : pgE xt (d + 20) 11 5 false (Option.some FieldType.int) (mj_dec prog_1_method_18_code) 0 [(0, .ref 2), (1, .int (1 : Int32)), (2, .int p1), (3, .int (3 : Int32))] [] (h ++ (cT ++ (V ++ []))) P := by
  refine me1 (pc' := 1) dm_X11_letter_0 rfl rfl rfl rfl ?_
  refine me_1f (pc' := 4) dm_X11_letter_1 rfl (by decide) rfl ?_
  refine me1 (pc' := 5) dm_X11_letter_4 rfl rfl rfl rfl ?_
  refine me0 (pc' := 7) (S' := .int (8 : Int32) :: _) dm_X11_letter_5 rfl rfl rfl rfl ?_
  refine me_2t (pc' := 12) dm_X11_letter_7 rfl rfl ?_
  refine me1 (pc' := 13) dm_X11_letter_12 rfl rfl rfl rfl ?_
  refine me3 (pc' := 16) dm_X11_letter_13 (g_get (v := .ref 4) (lu (n := 2) (j := 0) hn rfl) rfl rfl (Nat.le_of_ble_eq_true rfl)) rfl rfl rfl ?_
  refine me1 (pc' := 17) dm_X11_letter_16 rfl rfl rfl rfl ?_
  refine me1 (pc' := 18) dm_X11_letter_17 rfl rfl rfl rfl ?_
  refine me4 (pc' := 21) (L0 := [(0, .ref 4), (1, .int (1 : Int32)), (2, .int p1)]) dm_X11_letter_18 rfl (g_inv (As := [.int (1 : Int32), .int p1]) (lu (n := 2) (j := 2) hn rfl) rfl rfl rfl (Nat.le_of_ble_eq_true rfl)) pm_X2_keyAt rfl (Nat.le_of_ble_eq_true rfl) rfl rfl rfl ?_
  refine me1 (pc' := 1) dm_X2_keyAt_0 rfl rfl rfl rfl ?_
  refine me_1f (pc' := 4) dm_X2_keyAt_1 rfl (cn_f_lt (c := 0) rfl (by omega)) rfl ?_
  refine me1 (pc' := 5) dm_X2_keyAt_4 rfl rfl rfl rfl ?_
  refine me1 (pc' := 6) dm_X2_keyAt_5 rfl rfl rfl rfl ?_
  refine me1 (pc' := 7) dm_X2_keyAt_6 rfl rfl rfl rfl ?_
  refine me4 (pc' := 10) (L0 := [(0, .ref 4), (1, .int (1 : Int32))]) dm_X2_keyAt_7 rfl (g_inv (As := [.int (1 : Int32)]) (lu (n := 2) (j := 2) hn rfl) rfl rfl rfl (Nat.le_of_ble_eq_true rfl)) pm_X2_howMany rfl (Nat.le_of_ble_eq_true rfl) rfl rfl rfl ?_
  refine me1 (pc' := 1) dm_X2_howMany_0 rfl rfl rfl rfl ?_
  refine me_1t (pc' := 9) dm_X2_howMany_1 rfl rfl ?_
  refine me1 (pc' := 10) dm_X2_howMany_9 rfl rfl rfl rfl ?_
  refine me0 (pc' := 11) (S' := .int (1 : Int32) :: _) dm_X2_howMany_10 rfl rfl rfl rfl ?_
  refine me_2f (pc' := 14) dm_X2_howMany_11 rfl (by decide) rfl ?_
  refine me1 (pc' := 15) dm_X2_howMany_14 rfl rfl rfl rfl ?_
  refine me3 (pc' := 18) dm_X2_howMany_15 (g_get (v := .int (0 : Int32)) (lu (n := 2) (j := 2) hn rfl) rfl rfl (Nat.le_of_ble_eq_true rfl)) rfl rfl rfl ?_
  refine me2 (pc' := 22) dm_X2_howMany_18 rfl rfl rfl ?_
  refine me5 dm_X2_howMany_22 rfl rfl rfl ?_
  refine me_2f (pc' := 13) dm_X2_keyAt_10 rfl (cn_f_lt (c := 0) rfl (by omega)) rfl ?_
  refine me0 (pc' := 14) (S' := .long (0 : Int64) :: _) dm_X2_keyAt_13 rfl rfl rfl rfl ?_
  refine me5 dm_X2_keyAt_14 rfl rfl rfl ?_
  refine me1 (pc' := 22) dm_X11_letter_21 rfl rfl rfl rfl ?_
  refine me0 (pc' := 23) (S' := .int (5 : Int32) :: _) dm_X11_letter_22 rfl rfl rfl rfl ?_
  refine me0 (pc' := 24) (S' := .int (15 : Int32) :: _) dm_X11_letter_23 rfl rfl rfl rfl ?_
  refine me0 (pc' := 25) (S' := .long (0 : Int64) :: _) dm_X11_letter_24 rfl rfl rfl rfl ?_
  refine me0 (pc' := 26) (S' := .int (0 : Int32) :: _) dm_X11_letter_25 rfl rfl rfl rfl ?_
  refine me0 (pc' := 28) (S' := .int (31 : Int32) :: _) dm_X11_letter_26 rfl rfl rfl rfl ?_
  refine me0 (pc' := 29) (S' := .int (0 : Int32) :: _) dm_X11_letter_28 rfl rfl rfl rfl ?_
  refine me1 (pc' := 31) (L' := [(4, .int (0 : Int32)), (0, .ref 2), (1, .int (1 : Int32)), (2, .int p1), (3, .int (3 : Int32))]) dm_X11_letter_29 rfl rfl rfl rfl ?_
  refine me1 (pc' := 33) dm_X11_letter_31 rfl rfl rfl rfl ?_
  refine me_1f (pc' := 36) dm_X11_letter_33 rfl (by decide) rfl ?_
  refine me0 (pc' := 37) (S' := .int (-1 : Int32) :: _) dm_X11_letter_36 rfl rfl rfl rfl ?_
  refine me2 (pc' := 45) dm_X11_letter_37 rfl rfl rfl ?_
  refine me5 dm_X11_letter_45 rfl rfl rfl ?_
  exact k _ _ rfl (Nat.le_of_ble_eq_true rfl) (Nat.le_of_ble_eq_true rfl) (Nat.le_of_ble_eq_true rfl)
set_option maxRecDepth 100000 in
set_option maxHeartbeats 40000000 in
theorem c_letter_v1_ge_v4 {xt : mj_X} {d : Nat} {h V : mj_H} (hn : h.length = 2) (hv : V.length = 25) {P : Option Value → mj_H → Prop} {p1 : Int32} (hl1 : 0 ≤ p1.toInt) (k : ∀ U D, U.length = 100 → mj_sl U ≤ 20000 → D.length ≤ 10 → mj_sl D ≤ 2000 → P (some (.int (-1 : Int32))) (h ++ (U ++ (V ++ D)))) : pgE xt (d + 20) 11 5 false (Option.some FieldType.int) (mj_dec prog_1_method_18_code) 0 [(0, .ref 2), (1, .int (1 : Int32)), (2, .int p1), (3, .int (4 : Int32))] [] (h ++ (cT ++ (V ++ []))) P := by
  refine me1 (pc' := 1) dm_X11_letter_0 rfl rfl rfl rfl ?_
  refine me_1f (pc' := 4) dm_X11_letter_1 rfl (by decide) rfl ?_
  refine me1 (pc' := 5) dm_X11_letter_4 rfl rfl rfl rfl ?_
  refine me0 (pc' := 7) (S' := .int (8 : Int32) :: _) dm_X11_letter_5 rfl rfl rfl rfl ?_
  refine me_2t (pc' := 12) dm_X11_letter_7 rfl rfl ?_
  refine me1 (pc' := 13) dm_X11_letter_12 rfl rfl rfl rfl ?_
  refine me3 (pc' := 16) dm_X11_letter_13 (g_get (v := .ref 4) (lu (n := 2) (j := 0) hn rfl) rfl rfl (Nat.le_of_ble_eq_true rfl)) rfl rfl rfl ?_
  refine me1 (pc' := 17) dm_X11_letter_16 rfl rfl rfl rfl ?_
  refine me1 (pc' := 18) dm_X11_letter_17 rfl rfl rfl rfl ?_
  refine me4 (pc' := 21) (L0 := [(0, .ref 4), (1, .int (1 : Int32)), (2, .int p1)]) dm_X11_letter_18 rfl (g_inv (As := [.int (1 : Int32), .int p1]) (lu (n := 2) (j := 2) hn rfl) rfl rfl rfl (Nat.le_of_ble_eq_true rfl)) pm_X2_keyAt rfl (Nat.le_of_ble_eq_true rfl) rfl rfl rfl ?_
  refine me1 (pc' := 1) dm_X2_keyAt_0 rfl rfl rfl rfl ?_
  refine me_1f (pc' := 4) dm_X2_keyAt_1 rfl (cn_f_lt (c := 0) rfl (by omega)) rfl ?_
  refine me1 (pc' := 5) dm_X2_keyAt_4 rfl rfl rfl rfl ?_
  refine me1 (pc' := 6) dm_X2_keyAt_5 rfl rfl rfl rfl ?_
  refine me1 (pc' := 7) dm_X2_keyAt_6 rfl rfl rfl rfl ?_
  refine me4 (pc' := 10) (L0 := [(0, .ref 4), (1, .int (1 : Int32))]) dm_X2_keyAt_7 rfl (g_inv (As := [.int (1 : Int32)]) (lu (n := 2) (j := 2) hn rfl) rfl rfl rfl (Nat.le_of_ble_eq_true rfl)) pm_X2_howMany rfl (Nat.le_of_ble_eq_true rfl) rfl rfl rfl ?_
  refine me1 (pc' := 1) dm_X2_howMany_0 rfl rfl rfl rfl ?_
  refine me_1t (pc' := 9) dm_X2_howMany_1 rfl rfl ?_
  refine me1 (pc' := 10) dm_X2_howMany_9 rfl rfl rfl rfl ?_
  refine me0 (pc' := 11) (S' := .int (1 : Int32) :: _) dm_X2_howMany_10 rfl rfl rfl rfl ?_
  refine me_2f (pc' := 14) dm_X2_howMany_11 rfl (by decide) rfl ?_
  refine me1 (pc' := 15) dm_X2_howMany_14 rfl rfl rfl rfl ?_
  refine me3 (pc' := 18) dm_X2_howMany_15 (g_get (v := .int (0 : Int32)) (lu (n := 2) (j := 2) hn rfl) rfl rfl (Nat.le_of_ble_eq_true rfl)) rfl rfl rfl ?_
  refine me2 (pc' := 22) dm_X2_howMany_18 rfl rfl rfl ?_
  refine me5 dm_X2_howMany_22 rfl rfl rfl ?_
  refine me_2f (pc' := 13) dm_X2_keyAt_10 rfl (cn_f_lt (c := 0) rfl (by omega)) rfl ?_
  refine me0 (pc' := 14) (S' := .long (0 : Int64) :: _) dm_X2_keyAt_13 rfl rfl rfl rfl ?_
  refine me5 dm_X2_keyAt_14 rfl rfl rfl ?_
  refine me1 (pc' := 22) dm_X11_letter_21 rfl rfl rfl rfl ?_
  refine me0 (pc' := 23) (S' := .int (5 : Int32) :: _) dm_X11_letter_22 rfl rfl rfl rfl ?_
  refine me0 (pc' := 24) (S' := .int (20 : Int32) :: _) dm_X11_letter_23 rfl rfl rfl rfl ?_
  refine me0 (pc' := 25) (S' := .long (0 : Int64) :: _) dm_X11_letter_24 rfl rfl rfl rfl ?_
  refine me0 (pc' := 26) (S' := .int (0 : Int32) :: _) dm_X11_letter_25 rfl rfl rfl rfl ?_
  refine me0 (pc' := 28) (S' := .int (31 : Int32) :: _) dm_X11_letter_26 rfl rfl rfl rfl ?_
  refine me0 (pc' := 29) (S' := .int (0 : Int32) :: _) dm_X11_letter_28 rfl rfl rfl rfl ?_
  refine me1 (pc' := 31) (L' := [(4, .int (0 : Int32)), (0, .ref 2), (1, .int (1 : Int32)), (2, .int p1), (3, .int (4 : Int32))]) dm_X11_letter_29 rfl rfl rfl rfl ?_
  refine me1 (pc' := 33) dm_X11_letter_31 rfl rfl rfl rfl ?_
  refine me_1f (pc' := 36) dm_X11_letter_33 rfl (by decide) rfl ?_
  refine me0 (pc' := 37) (S' := .int (-1 : Int32) :: _) dm_X11_letter_36 rfl rfl rfl rfl ?_
  refine me2 (pc' := 45) dm_X11_letter_37 rfl rfl rfl ?_
  refine me5 dm_X11_letter_45 rfl rfl rfl ?_
  exact k _ _ rfl (Nat.le_of_ble_eq_true rfl) (Nat.le_of_ble_eq_true rfl) (Nat.le_of_ble_eq_true rfl)
set_option maxRecDepth 100000 in
set_option maxHeartbeats 40000000 in
theorem c_letter_v1_ge_v5 {xt : mj_X} {d : Nat} {h V : mj_H} (hn : h.length = 2) (hv : V.length = 25) {P : Option Value → mj_H → Prop} {p1 : Int32} (hl1 : 0 ≤ p1.toInt) (k : ∀ U D, U.length = 100 → mj_sl U ≤ 20000 → D.length ≤ 10 → mj_sl D ≤ 2000 → P (some (.int (-1 : Int32))) (h ++ (U ++ (V ++ D)))) : pgE xt (d + 20) 11 5 false (Option.some FieldType.int) (mj_dec prog_1_method_18_code) 0 [(0, .ref 2), (1, .int (1 : Int32)), (2, .int p1), (3, .int (5 : Int32))] [] (h ++ (cT ++ (V ++ []))) P := by
  refine me1 (pc' := 1) dm_X11_letter_0 rfl rfl rfl rfl ?_
  refine me_1f (pc' := 4) dm_X11_letter_1 rfl (by decide) rfl ?_
  refine me1 (pc' := 5) dm_X11_letter_4 rfl rfl rfl rfl ?_
  refine me0 (pc' := 7) (S' := .int (8 : Int32) :: _) dm_X11_letter_5 rfl rfl rfl rfl ?_
  refine me_2t (pc' := 12) dm_X11_letter_7 rfl rfl ?_
  refine me1 (pc' := 13) dm_X11_letter_12 rfl rfl rfl rfl ?_
  refine me3 (pc' := 16) dm_X11_letter_13 (g_get (v := .ref 4) (lu (n := 2) (j := 0) hn rfl) rfl rfl (Nat.le_of_ble_eq_true rfl)) rfl rfl rfl ?_
  refine me1 (pc' := 17) dm_X11_letter_16 rfl rfl rfl rfl ?_
  refine me1 (pc' := 18) dm_X11_letter_17 rfl rfl rfl rfl ?_
  refine me4 (pc' := 21) (L0 := [(0, .ref 4), (1, .int (1 : Int32)), (2, .int p1)]) dm_X11_letter_18 rfl (g_inv (As := [.int (1 : Int32), .int p1]) (lu (n := 2) (j := 2) hn rfl) rfl rfl rfl (Nat.le_of_ble_eq_true rfl)) pm_X2_keyAt rfl (Nat.le_of_ble_eq_true rfl) rfl rfl rfl ?_
  refine me1 (pc' := 1) dm_X2_keyAt_0 rfl rfl rfl rfl ?_
  refine me_1f (pc' := 4) dm_X2_keyAt_1 rfl (cn_f_lt (c := 0) rfl (by omega)) rfl ?_
  refine me1 (pc' := 5) dm_X2_keyAt_4 rfl rfl rfl rfl ?_
  refine me1 (pc' := 6) dm_X2_keyAt_5 rfl rfl rfl rfl ?_
  refine me1 (pc' := 7) dm_X2_keyAt_6 rfl rfl rfl rfl ?_
  refine me4 (pc' := 10) (L0 := [(0, .ref 4), (1, .int (1 : Int32))]) dm_X2_keyAt_7 rfl (g_inv (As := [.int (1 : Int32)]) (lu (n := 2) (j := 2) hn rfl) rfl rfl rfl (Nat.le_of_ble_eq_true rfl)) pm_X2_howMany rfl (Nat.le_of_ble_eq_true rfl) rfl rfl rfl ?_
  refine me1 (pc' := 1) dm_X2_howMany_0 rfl rfl rfl rfl ?_
  refine me_1t (pc' := 9) dm_X2_howMany_1 rfl rfl ?_
  refine me1 (pc' := 10) dm_X2_howMany_9 rfl rfl rfl rfl ?_
  refine me0 (pc' := 11) (S' := .int (1 : Int32) :: _) dm_X2_howMany_10 rfl rfl rfl rfl ?_
  refine me_2f (pc' := 14) dm_X2_howMany_11 rfl (by decide) rfl ?_
  refine me1 (pc' := 15) dm_X2_howMany_14 rfl rfl rfl rfl ?_
  refine me3 (pc' := 18) dm_X2_howMany_15 (g_get (v := .int (0 : Int32)) (lu (n := 2) (j := 2) hn rfl) rfl rfl (Nat.le_of_ble_eq_true rfl)) rfl rfl rfl ?_
  refine me2 (pc' := 22) dm_X2_howMany_18 rfl rfl rfl ?_
  refine me5 dm_X2_howMany_22 rfl rfl rfl ?_
  refine me_2f (pc' := 13) dm_X2_keyAt_10 rfl (cn_f_lt (c := 0) rfl (by omega)) rfl ?_
  refine me0 (pc' := 14) (S' := .long (0 : Int64) :: _) dm_X2_keyAt_13 rfl rfl rfl rfl ?_
  refine me5 dm_X2_keyAt_14 rfl rfl rfl ?_
  refine me1 (pc' := 22) dm_X11_letter_21 rfl rfl rfl rfl ?_
  refine me0 (pc' := 23) (S' := .int (5 : Int32) :: _) dm_X11_letter_22 rfl rfl rfl rfl ?_
  refine me0 (pc' := 24) (S' := .int (25 : Int32) :: _) dm_X11_letter_23 rfl rfl rfl rfl ?_
  refine me0 (pc' := 25) (S' := .long (0 : Int64) :: _) dm_X11_letter_24 rfl rfl rfl rfl ?_
  refine me0 (pc' := 26) (S' := .int (0 : Int32) :: _) dm_X11_letter_25 rfl rfl rfl rfl ?_
  refine me0 (pc' := 28) (S' := .int (31 : Int32) :: _) dm_X11_letter_26 rfl rfl rfl rfl ?_
  refine me0 (pc' := 29) (S' := .int (0 : Int32) :: _) dm_X11_letter_28 rfl rfl rfl rfl ?_
  refine me1 (pc' := 31) (L' := [(4, .int (0 : Int32)), (0, .ref 2), (1, .int (1 : Int32)), (2, .int p1), (3, .int (5 : Int32))]) dm_X11_letter_29 rfl rfl rfl rfl ?_
  refine me1 (pc' := 33) dm_X11_letter_31 rfl rfl rfl rfl ?_
  refine me_1f (pc' := 36) dm_X11_letter_33 rfl (by decide) rfl ?_
  refine me0 (pc' := 37) (S' := .int (-1 : Int32) :: _) dm_X11_letter_36 rfl rfl rfl rfl ?_
  refine me2 (pc' := 45) dm_X11_letter_37 rfl rfl rfl ?_
  refine me5 dm_X11_letter_45 rfl rfl rfl ?_
  exact k _ _ rfl (Nat.le_of_ble_eq_true rfl) (Nat.le_of_ble_eq_true rfl) (Nat.le_of_ble_eq_true rfl)
set_option maxRecDepth 100000 in
set_option maxHeartbeats 40000000 in
theorem c_letter_v1_ge_v6 {xt : mj_X} {d : Nat} {h V : mj_H} (hn : h.length = 2) (hv : V.length = 25) {P : Option Value → mj_H → Prop} {p1 : Int32} (hl1 : 0 ≤ p1.toInt) (k : ∀ U D, U.length = 100 → mj_sl U ≤ 20000 → D.length ≤ 10 → mj_sl D ≤ 2000 → P (some (.int (-1 : Int32))) (h ++ (U ++ (V ++ D)))) : pgE xt (d + 20) 11 5 false (Option.some FieldType.int) (mj_dec prog_1_method_18_code) 0 [(0, .ref 2), (1, .int (1 : Int32)), (2, .int p1), (3, .int (6 : Int32))] [] (h ++ (cT ++ (V ++ []))) P := by
  refine me1 (pc' := 1) dm_X11_letter_0 rfl rfl rfl rfl ?_
  refine me_1f (pc' := 4) dm_X11_letter_1 rfl (by decide) rfl ?_
  refine me1 (pc' := 5) dm_X11_letter_4 rfl rfl rfl rfl ?_
  refine me0 (pc' := 7) (S' := .int (8 : Int32) :: _) dm_X11_letter_5 rfl rfl rfl rfl ?_
  refine me_2t (pc' := 12) dm_X11_letter_7 rfl rfl ?_
  refine me1 (pc' := 13) dm_X11_letter_12 rfl rfl rfl rfl ?_
  refine me3 (pc' := 16) dm_X11_letter_13 (g_get (v := .ref 4) (lu (n := 2) (j := 0) hn rfl) rfl rfl (Nat.le_of_ble_eq_true rfl)) rfl rfl rfl ?_
  refine me1 (pc' := 17) dm_X11_letter_16 rfl rfl rfl rfl ?_
  refine me1 (pc' := 18) dm_X11_letter_17 rfl rfl rfl rfl ?_
  refine me4 (pc' := 21) (L0 := [(0, .ref 4), (1, .int (1 : Int32)), (2, .int p1)]) dm_X11_letter_18 rfl (g_inv (As := [.int (1 : Int32), .int p1]) (lu (n := 2) (j := 2) hn rfl) rfl rfl rfl (Nat.le_of_ble_eq_true rfl)) pm_X2_keyAt rfl (Nat.le_of_ble_eq_true rfl) rfl rfl rfl ?_
  refine me1 (pc' := 1) dm_X2_keyAt_0 rfl rfl rfl rfl ?_
  refine me_1f (pc' := 4) dm_X2_keyAt_1 rfl (cn_f_lt (c := 0) rfl (by omega)) rfl ?_
  refine me1 (pc' := 5) dm_X2_keyAt_4 rfl rfl rfl rfl ?_
  refine me1 (pc' := 6) dm_X2_keyAt_5 rfl rfl rfl rfl ?_
  refine me1 (pc' := 7) dm_X2_keyAt_6 rfl rfl rfl rfl ?_
  refine me4 (pc' := 10) (L0 := [(0, .ref 4), (1, .int (1 : Int32))]) dm_X2_keyAt_7 rfl (g_inv (As := [.int (1 : Int32)]) (lu (n := 2) (j := 2) hn rfl) rfl rfl rfl (Nat.le_of_ble_eq_true rfl)) pm_X2_howMany rfl (Nat.le_of_ble_eq_true rfl) rfl rfl rfl ?_
  refine me1 (pc' := 1) dm_X2_howMany_0 rfl rfl rfl rfl ?_
  refine me_1t (pc' := 9) dm_X2_howMany_1 rfl rfl ?_
  refine me1 (pc' := 10) dm_X2_howMany_9 rfl rfl rfl rfl ?_
  refine me0 (pc' := 11) (S' := .int (1 : Int32) :: _) dm_X2_howMany_10 rfl rfl rfl rfl ?_
  refine me_2f (pc' := 14) dm_X2_howMany_11 rfl (by decide) rfl ?_
  refine me1 (pc' := 15) dm_X2_howMany_14 rfl rfl rfl rfl ?_
  refine me3 (pc' := 18) dm_X2_howMany_15 (g_get (v := .int (0 : Int32)) (lu (n := 2) (j := 2) hn rfl) rfl rfl (Nat.le_of_ble_eq_true rfl)) rfl rfl rfl ?_
  refine me2 (pc' := 22) dm_X2_howMany_18 rfl rfl rfl ?_
  refine me5 dm_X2_howMany_22 rfl rfl rfl ?_
  refine me_2f (pc' := 13) dm_X2_keyAt_10 rfl (cn_f_lt (c := 0) rfl (by omega)) rfl ?_
  refine me0 (pc' := 14) (S' := .long (0 : Int64) :: _) dm_X2_keyAt_13 rfl rfl rfl rfl ?_
  refine me5 dm_X2_keyAt_14 rfl rfl rfl ?_
  refine me1 (pc' := 22) dm_X11_letter_21 rfl rfl rfl rfl ?_
  refine me0 (pc' := 23) (S' := .int (5 : Int32) :: _) dm_X11_letter_22 rfl rfl rfl rfl ?_
  refine me0 (pc' := 24) (S' := .int (30 : Int32) :: _) dm_X11_letter_23 rfl rfl rfl rfl ?_
  refine me0 (pc' := 25) (S' := .long (0 : Int64) :: _) dm_X11_letter_24 rfl rfl rfl rfl ?_
  refine me0 (pc' := 26) (S' := .int (0 : Int32) :: _) dm_X11_letter_25 rfl rfl rfl rfl ?_
  refine me0 (pc' := 28) (S' := .int (31 : Int32) :: _) dm_X11_letter_26 rfl rfl rfl rfl ?_
  refine me0 (pc' := 29) (S' := .int (0 : Int32) :: _) dm_X11_letter_28 rfl rfl rfl rfl ?_
  refine me1 (pc' := 31) (L' := [(4, .int (0 : Int32)), (0, .ref 2), (1, .int (1 : Int32)), (2, .int p1), (3, .int (6 : Int32))]) dm_X11_letter_29 rfl rfl rfl rfl ?_
  refine me1 (pc' := 33) dm_X11_letter_31 rfl rfl rfl rfl ?_
  refine me_1f (pc' := 36) dm_X11_letter_33 rfl (by decide) rfl ?_
  refine me0 (pc' := 37) (S' := .int (-1 : Int32) :: _) dm_X11_letter_36 rfl rfl rfl rfl ?_
  refine me2 (pc' := 45) dm_X11_letter_37 rfl rfl rfl ?_
  refine me5 dm_X11_letter_45 rfl rfl rfl ?_
  exact k _ _ rfl (Nat.le_of_ble_eq_true rfl) (Nat.le_of_ble_eq_true rfl) (Nat.le_of_ble_eq_true rfl)
set_option maxRecDepth 100000 in
set_option maxHeartbeats 40000000 in
theorem c_letter_v1_ge_v7 {xt : mj_X} {d : Nat} {h V : mj_H} (hn : h.length = 2) (hv : V.length = 25) {P : Option Value → mj_H → Prop} {p1 : Int32} (hl1 : 0 ≤ p1.toInt) (k : ∀ U D, U.length = 100 → mj_sl U ≤ 20000 → D.length ≤ 10 → mj_sl D ≤ 2000 → P (some (.int (-1 : Int32))) (h ++ (U ++ (V ++ D)))) : pgE xt (d + 20) 11 5 false (Option.some FieldType.int) (mj_dec prog_1_method_18_code) 0 [(0, .ref 2), (1, .int (1 : Int32)), (2, .int p1), (3, .int (7 : Int32))] [] (h ++ (cT ++ (V ++ []))) P := by
  refine me1 (pc' := 1) dm_X11_letter_0 rfl rfl rfl rfl ?_
  refine me_1f (pc' := 4) dm_X11_letter_1 rfl (by decide) rfl ?_
  refine me1 (pc' := 5) dm_X11_letter_4 rfl rfl rfl rfl ?_
  refine me0 (pc' := 7) (S' := .int (8 : Int32) :: _) dm_X11_letter_5 rfl rfl rfl rfl ?_
  refine me_2t (pc' := 12) dm_X11_letter_7 rfl rfl ?_
  refine me1 (pc' := 13) dm_X11_letter_12 rfl rfl rfl rfl ?_
  refine me3 (pc' := 16) dm_X11_letter_13 (g_get (v := .ref 4) (lu (n := 2) (j := 0) hn rfl) rfl rfl (Nat.le_of_ble_eq_true rfl)) rfl rfl rfl ?_
  refine me1 (pc' := 17) dm_X11_letter_16 rfl rfl rfl rfl ?_
  refine me1 (pc' := 18) dm_X11_letter_17 rfl rfl rfl rfl ?_
  refine me4 (pc' := 21) (L0 := [(0, .ref 4), (1, .int (1 : Int32)), (2, .int p1)]) dm_X11_letter_18 rfl (g_inv (As := [.int (1 : Int32), .int p1]) (lu (n := 2) (j := 2) hn rfl) rfl rfl rfl (Nat.le_of_ble_eq_true rfl)) pm_X2_keyAt rfl (Nat.le_of_ble_eq_true rfl) rfl rfl rfl ?_
  refine me1 (pc' := 1) dm_X2_keyAt_0 rfl rfl rfl rfl ?_
  refine me_1f (pc' := 4) dm_X2_keyAt_1 rfl (cn_f_lt (c := 0) rfl (by omega)) rfl ?_
  refine me1 (pc' := 5) dm_X2_keyAt_4 rfl rfl rfl rfl ?_
  refine me1 (pc' := 6) dm_X2_keyAt_5 rfl rfl rfl rfl ?_
  refine me1 (pc' := 7) dm_X2_keyAt_6 rfl rfl rfl rfl ?_
  refine me4 (pc' := 10) (L0 := [(0, .ref 4), (1, .int (1 : Int32))]) dm_X2_keyAt_7 rfl (g_inv (As := [.int (1 : Int32)]) (lu (n := 2) (j := 2) hn rfl) rfl rfl rfl (Nat.le_of_ble_eq_true rfl)) pm_X2_howMany rfl (Nat.le_of_ble_eq_true rfl) rfl rfl rfl ?_
  refine me1 (pc' := 1) dm_X2_howMany_0 rfl rfl rfl rfl ?_
  refine me_1t (pc' := 9) dm_X2_howMany_1 rfl rfl ?_
  refine me1 (pc' := 10) dm_X2_howMany_9 rfl rfl rfl rfl ?_
  refine me0 (pc' := 11) (S' := .int (1 : Int32) :: _) dm_X2_howMany_10 rfl rfl rfl rfl ?_
  refine me_2f (pc' := 14) dm_X2_howMany_11 rfl (by decide) rfl ?_
  refine me1 (pc' := 15) dm_X2_howMany_14 rfl rfl rfl rfl ?_
  refine me3 (pc' := 18) dm_X2_howMany_15 (g_get (v := .int (0 : Int32)) (lu (n := 2) (j := 2) hn rfl) rfl rfl (Nat.le_of_ble_eq_true rfl)) rfl rfl rfl ?_
  refine me2 (pc' := 22) dm_X2_howMany_18 rfl rfl rfl ?_
  refine me5 dm_X2_howMany_22 rfl rfl rfl ?_
  refine me_2f (pc' := 13) dm_X2_keyAt_10 rfl (cn_f_lt (c := 0) rfl (by omega)) rfl ?_
  refine me0 (pc' := 14) (S' := .long (0 : Int64) :: _) dm_X2_keyAt_13 rfl rfl rfl rfl ?_
  refine me5 dm_X2_keyAt_14 rfl rfl rfl ?_
  refine me1 (pc' := 22) dm_X11_letter_21 rfl rfl rfl rfl ?_
  refine me0 (pc' := 23) (S' := .int (5 : Int32) :: _) dm_X11_letter_22 rfl rfl rfl rfl ?_
  refine me0 (pc' := 24) (S' := .int (35 : Int32) :: _) dm_X11_letter_23 rfl rfl rfl rfl ?_
  refine me0 (pc' := 25) (S' := .long (0 : Int64) :: _) dm_X11_letter_24 rfl rfl rfl rfl ?_
  refine me0 (pc' := 26) (S' := .int (0 : Int32) :: _) dm_X11_letter_25 rfl rfl rfl rfl ?_
  refine me0 (pc' := 28) (S' := .int (31 : Int32) :: _) dm_X11_letter_26 rfl rfl rfl rfl ?_
  refine me0 (pc' := 29) (S' := .int (0 : Int32) :: _) dm_X11_letter_28 rfl rfl rfl rfl ?_
  refine me1 (pc' := 31) (L' := [(4, .int (0 : Int32)), (0, .ref 2), (1, .int (1 : Int32)), (2, .int p1), (3, .int (7 : Int32))]) dm_X11_letter_29 rfl rfl rfl rfl ?_
  refine me1 (pc' := 33) dm_X11_letter_31 rfl rfl rfl rfl ?_
  refine me_1f (pc' := 36) dm_X11_letter_33 rfl (by decide) rfl ?_
  refine me0 (pc' := 37) (S' := .int (-1 : Int32) :: _) dm_X11_letter_36 rfl rfl rfl rfl ?_
  refine me2 (pc' := 45) dm_X11_letter_37 rfl rfl rfl ?_
  refine me5 dm_X11_letter_45 rfl rfl rfl ?_
  exact k _ _ rfl (Nat.le_of_ble_eq_true rfl) (Nat.le_of_ble_eq_true rfl) (Nat.le_of_ble_eq_true rfl)
set_option maxRecDepth 100000 in
set_option maxHeartbeats 40000000 in
theorem c_letter_v1_ge_ge {xt : mj_X} {d : Nat} {h V : mj_H} (hn : h.length = 2) (hv : V.length = 25) {P : Option Value → mj_H → Prop} {p1 : Int32} {p2 : Int32} (hl1 : 0 ≤ p1.toInt) (hl2 : 8 ≤ p2.toInt) (k : ∀ U D, U.length = 100 → mj_sl U ≤ 20000 → D.length ≤ 10 → mj_sl D ≤ 2000 → P (some (.int (-1 : Int32))) (h ++ (U ++ (V ++ D)))) : pgE xt (d + 20) 11 5 false (Option.some FieldType.int) (mj_dec prog_1_method_18_code) 0 [(0, .ref 2), (1, .int (1 : Int32)), (2, .int p1), (3, .int p2)] [] (h ++ (cT ++ (V ++ []))) P := by
  refine me1 (pc' := 1) dm_X11_letter_0 rfl rfl rfl rfl ?_
  refine me_1f (pc' := 4) dm_X11_letter_1 rfl (cn_f_lt (c := 0) rfl (by omega)) rfl ?_
  refine me1 (pc' := 5) dm_X11_letter_4 rfl rfl rfl rfl ?_
  refine me0 (pc' := 7) (S' := .int (8 : Int32) :: _) dm_X11_letter_5 rfl rfl rfl rfl ?_
  refine me_2f (pc' := 10) dm_X11_letter_7 rfl (cn_f_lt (c := 8) rfl (by omega)) rfl ?_
  refine me0 (pc' := 11) (S' := .int (-1 : Int32) :: _) dm_X11_letter_10 rfl rfl rfl rfl ?_
  refine me5 dm_X11_letter_11 rfl rfl rfl ?_
  exact k _ _ rfl (Nat.le_of_ble_eq_true rfl) (Nat.le_of_ble_eq_true rfl) (Nat.le_of_ble_eq_true rfl)
set_option maxRecDepth 100000 in
set_option maxHeartbeats 40000000 in
theorem c_letter_ge_lt_lt {xt : mj_X} {d : Nat} {h V : mj_H} (hn : h.length = 2) (hv : V.length = 25) {P : Option Value → mj_H → Prop} {p0 : Int32} {p1 : Int32} {p2 : Int32} (hl0 : 2 ≤ p0.toInt) (hh1 : p1.toInt ≤ -1) (hh2 : p2.toInt ≤ -1) (k : ∀ U D, U.length = 100 → mj_sl U ≤ 20000 → D.length ≤ 10 → mj_sl D ≤ 2000 → P (some (.int (-1 : Int32))) (h ++ (U ++ (V ++ D)))) : pgE xt (d + 20) 11 5 false (Option.some FieldType.int) (mj_dec prog_1_method_18_code) 0 [(0, .ref 2), (1, .int p0), (2, .int p1), (3, .int p2)] [] (h ++ (cT ++ (V ++ []))) P := by
  refine me1 (pc' := 1) dm_X11_letter_0 rfl rfl rfl rfl ?_
  refine me_1t (pc' := 10) dm_X11_letter_1 rfl (cn_t_lt (c := 0) rfl (by omega)) ?_
  refine me0 (pc' := 11) (S' := .int (-1 : Int32) :: _) dm_X11_letter_10 rfl rfl rfl rfl ?_
  refine me5 dm_X11_letter_11 rfl rfl rfl ?_
  exact k _ _ rfl (Nat.le_of_ble_eq_true rfl) (Nat.le_of_ble_eq_true rfl) (Nat.le_of_ble_eq_true rfl)
set_option maxRecDepth 100000 in
set_option maxHeartbeats 40000000 in
theorem c_letter_ge_lt_v0 {xt : mj_X} {d : Nat} {h V : mj_H} (hn : h.length = 2) (hv : V.length = 25) {P : Option Value → mj_H → Prop} {p0 : Int32} {p1 : Int32} (hl0 : 2 ≤ p0.toInt) (hh1 : p1.toInt ≤ -1) (k : ∀ U D, U.length = 100 → mj_sl U ≤ 20000 → D.length ≤ 10 → mj_sl D ≤ 2000 → P (some (.int (-1 : Int32))) (h ++ (U ++ (V ++ D)))) : pgE xt (d + 20) 11 5 false (Option.some FieldType.int) (mj_dec prog_1_method_18_code) 0 [(0, .ref 2), (1, .int p0), (2, .int p1), (3, .int (0 : Int32))] [] (h ++ (cT ++ (V ++ []))) P := by
  refine me1 (pc' := 1) dm_X11_letter_0 rfl rfl rfl rfl ?_
  refine me_1f (pc' := 4) dm_X11_letter_1 rfl (by decide) rfl ?_
  refine me1 (pc' := 5) dm_X11_letter_4 rfl rfl rfl rfl ?_
  refine me0 (pc' := 7) (S' := .int (8 : Int32) :: _) dm_X11_letter_5 rfl rfl rfl rfl ?_
  refine me_2t (pc' := 12) dm_X11_letter_7 rfl rfl ?_
  refine me1 (pc' := 13) dm_X11_letter_12 rfl rfl rfl rfl ?_
  refine me3 (pc' := 16) dm_X11_letter_13 (g_get (v := .ref 4) (lu (n := 2) (j := 0) hn rfl) rfl rfl (Nat.le_of_ble_eq_true rfl)) rfl rfl rfl ?_
  refine me1 (pc' := 17) dm_X11_letter_16 rfl rfl rfl rfl ?_
  refine me1 (pc' := 18) dm_X11_letter_17 rfl rfl rfl rfl ?_
  refine me4 (pc' := 21) (L0 := [(0, .ref 4), (1, .int p0), (2, .int p1)]) dm_X11_letter_18 rfl (g_inv (As := [.int p0, .int p1]) (lu (n := 2) (j := 2) hn rfl) rfl rfl rfl (Nat.le_of_ble_eq_true rfl)) pm_X2_keyAt rfl (Nat.le_of_ble_eq_true rfl) rfl rfl rfl ?_
  refine me1 (pc' := 1) dm_X2_keyAt_0 rfl rfl rfl rfl ?_
  refine me_1t (pc' := 13) dm_X2_keyAt_1 rfl (cn_t_lt (c := 0) rfl (by omega)) ?_
  refine me0 (pc' := 14) (S' := .long (0 : Int64) :: _) dm_X2_keyAt_13 rfl rfl rfl rfl ?_
  refine me5 dm_X2_keyAt_14 rfl rfl rfl ?_
  refine me1 (pc' := 22) dm_X11_letter_21 rfl rfl rfl rfl ?_
  refine me0 (pc' := 23) (S' := .int (5 : Int32) :: _) dm_X11_letter_22 rfl rfl rfl rfl ?_
  refine me0 (pc' := 24) (S' := .int (0 : Int32) :: _) dm_X11_letter_23 rfl rfl rfl rfl ?_
  refine me0 (pc' := 25) (S' := .long (0 : Int64) :: _) dm_X11_letter_24 rfl rfl rfl rfl ?_
  refine me0 (pc' := 26) (S' := .int (0 : Int32) :: _) dm_X11_letter_25 rfl rfl rfl rfl ?_
  refine me0 (pc' := 28) (S' := .int (31 : Int32) :: _) dm_X11_letter_26 rfl rfl rfl rfl ?_
  refine me0 (pc' := 29) (S' := .int (0 : Int32) :: _) dm_X11_letter_28 rfl rfl rfl rfl ?_
  refine me1 (pc' := 31) (L' := [(4, .int (0 : Int32)), (0, .ref 2), (1, .int p0), (2, .int p1), (3, .int (0 : Int32))]) dm_X11_letter_29 rfl rfl rfl rfl ?_
  refine me1 (pc' := 33) dm_X11_letter_31 rfl rfl rfl rfl ?_
  refine me_1f (pc' := 36) dm_X11_letter_33 rfl (by decide) rfl ?_
  refine me0 (pc' := 37) (S' := .int (-1 : Int32) :: _) dm_X11_letter_36 rfl rfl rfl rfl ?_
  refine me2 (pc' := 45) dm_X11_letter_37 rfl rfl rfl ?_
  refine me5 dm_X11_letter_45 rfl rfl rfl ?_
  exact k _ _ rfl (Nat.le_of_ble_eq_true rfl) (Nat.le_of_ble_eq_true rfl) (Nat.le_of_ble_eq_true rfl)
set_option maxRecDepth 100000 in
set_option maxHeartbeats 40000000 in
theorem c_letter_ge_lt_v1 {xt : mj_X} {d : Nat} {h V : mj_H} (hn : h.length = 2) (hv : V.length = 25) {P : Option Value → mj_H → Prop} {p0 : Int32} {p1 : Int32} (hl0 : 2 ≤ p0.toInt) (hh1 : p1.toInt ≤ -1) (k : ∀ U D, U.length = 100 → mj_sl U ≤ 20000 → D.length ≤ 10 → mj_sl D ≤ 2000 → P (some (.int (-1 : Int32))) (h ++ (U ++ (V ++ D)))) : pgE xt (d + 20) 11 5 false (Option.some FieldType.int) (mj_dec prog_1_method_18_code) 0 [(0, .ref 2), (1, .int p0), (2, .int p1), (3, .int (1 : Int32))] [] (h ++ (cT ++ (V ++ []))) P := by
  refine me1 (pc' := 1) dm_X11_letter_0 rfl rfl rfl rfl ?_
  refine me_1f (pc' := 4) dm_X11_letter_1 rfl (by decide) rfl ?_
  refine me1 (pc' := 5) dm_X11_letter_4 rfl rfl rfl rfl ?_
  refine me0 (pc' := 7) (S' := .int (8 : Int32) :: _) dm_X11_letter_5 rfl rfl rfl rfl ?_
  refine me_2t (pc' := 12) dm_X11_letter_7 rfl rfl ?_
  refine me1 (pc' := 13) dm_X11_letter_12 rfl rfl rfl rfl ?_
  refine me3 (pc' := 16) dm_X11_letter_13 (g_get (v := .ref 4) (lu (n := 2) (j := 0) hn rfl) rfl rfl (Nat.le_of_ble_eq_true rfl)) rfl rfl rfl ?_
  refine me1 (pc' := 17) dm_X11_letter_16 rfl rfl rfl rfl ?_
  refine me1 (pc' := 18) dm_X11_letter_17 rfl rfl rfl rfl ?_
  refine me4 (pc' := 21) (L0 := [(0, .ref 4), (1, .int p0), (2, .int p1)]) dm_X11_letter_18 rfl (g_inv (As := [.int p0, .int p1]) (lu (n := 2) (j := 2) hn rfl) rfl rfl rfl (Nat.le_of_ble_eq_true rfl)) pm_X2_keyAt rfl (Nat.le_of_ble_eq_true rfl) rfl rfl rfl ?_
  refine me1 (pc' := 1) dm_X2_keyAt_0 rfl rfl rfl rfl ?_
  refine me_1t (pc' := 13) dm_X2_keyAt_1 rfl (cn_t_lt (c := 0) rfl (by omega)) ?_
  refine me0 (pc' := 14) (S' := .long (0 : Int64) :: _) dm_X2_keyAt_13 rfl rfl rfl rfl ?_
  refine me5 dm_X2_keyAt_14 rfl rfl rfl ?_
  refine me1 (pc' := 22) dm_X11_letter_21 rfl rfl rfl rfl ?_
  refine me0 (pc' := 23) (S' := .int (5 : Int32) :: _) dm_X11_letter_22 rfl rfl rfl rfl ?_
  refine me0 (pc' := 24) (S' := .int (5 : Int32) :: _) dm_X11_letter_23 rfl rfl rfl rfl ?_
  refine me0 (pc' := 25) (S' := .long (0 : Int64) :: _) dm_X11_letter_24 rfl rfl rfl rfl ?_
  refine me0 (pc' := 26) (S' := .int (0 : Int32) :: _) dm_X11_letter_25 rfl rfl rfl rfl ?_
  refine me0 (pc' := 28) (S' := .int (31 : Int32) :: _) dm_X11_letter_26 rfl rfl rfl rfl ?_
  refine me0 (pc' := 29) (S' := .int (0 : Int32) :: _) dm_X11_letter_28 rfl rfl rfl rfl ?_
  refine me1 (pc' := 31) (L' := [(4, .int (0 : Int32)), (0, .ref 2), (1, .int p0), (2, .int p1), (3, .int (1 : Int32))]) dm_X11_letter_29 rfl rfl rfl rfl ?_
  refine me1 (pc' := 33) dm_X11_letter_31 rfl rfl rfl rfl ?_
  refine me_1f (pc' := 36) dm_X11_letter_33 rfl (by decide) rfl ?_
  refine me0 (pc' := 37) (S' := .int (-1 : Int32) :: _) dm_X11_letter_36 rfl rfl rfl rfl ?_
  refine me2 (pc' := 45) dm_X11_letter_37 rfl rfl rfl ?_
  refine me5 dm_X11_letter_45 rfl rfl rfl ?_
  exact k _ _ rfl (Nat.le_of_ble_eq_true rfl) (Nat.le_of_ble_eq_true rfl) (Nat.le_of_ble_eq_true rfl)
set_option maxRecDepth 100000 in
set_option maxHeartbeats 40000000 in
theorem c_letter_ge_lt_v2 {xt : mj_X} {d : Nat} {h V : mj_H} (hn : h.length = 2) (hv : V.length = 25) {P : Option Value → mj_H → Prop} {p0 : Int32} {p1 : Int32} (hl0 : 2 ≤ p0.toInt) (hh1 : p1.toInt ≤ -1) (k : ∀ U D, U.length = 100 → mj_sl U ≤ 20000 → D.length ≤ 10 → mj_sl D ≤ 2000 → P (some (.int (-1 : Int32))) (h ++ (U ++ (V ++ D)))) : pgE xt (d + 20) 11 5 false (Option.some FieldType.int) (mj_dec prog_1_method_18_code) 0 [(0, .ref 2), (1, .int p0), (2, .int p1), (3, .int (2 : Int32))] [] (h ++ (cT ++ (V ++ []))) P := by
  refine me1 (pc' := 1) dm_X11_letter_0 rfl rfl rfl rfl ?_
  refine me_1f (pc' := 4) dm_X11_letter_1 rfl (by decide) rfl ?_
  refine me1 (pc' := 5) dm_X11_letter_4 rfl rfl rfl rfl ?_
  refine me0 (pc' := 7) (S' := .int (8 : Int32) :: _) dm_X11_letter_5 rfl rfl rfl rfl ?_
  refine me_2t (pc' := 12) dm_X11_letter_7 rfl rfl ?_
  refine me1 (pc' := 13) dm_X11_letter_12 rfl rfl rfl rfl ?_
  refine me3 (pc' := 16) dm_X11_letter_13 (g_get (v := .ref 4) (lu (n := 2) (j := 0) hn rfl) rfl rfl (Nat.le_of_ble_eq_true rfl)) rfl rfl rfl ?_
  refine me1 (pc' := 17) dm_X11_letter_16 rfl rfl rfl rfl ?_
  refine me1 (pc' := 18) dm_X11_letter_17 rfl rfl rfl rfl ?_
  refine me4 (pc' := 21) (L0 := [(0, .ref 4), (1, .int p0), (2, .int p1)]) dm_X11_letter_18 rfl (g_inv (As := [.int p0, .int p1]) (lu (n := 2) (j := 2) hn rfl) rfl rfl rfl (Nat.le_of_ble_eq_true rfl)) pm_X2_keyAt rfl (Nat.le_of_ble_eq_true rfl) rfl rfl rfl ?_
  refine me1 (pc' := 1) dm_X2_keyAt_0 rfl rfl rfl rfl ?_
  refine me_1t (pc' := 13) dm_X2_keyAt_1 rfl (cn_t_lt (c := 0) rfl (by omega)) ?_
  refine me0 (pc' := 14) (S' := .long (0 : Int64) :: _) dm_X2_keyAt_13 rfl rfl rfl rfl ?_
  refine me5 dm_X2_keyAt_14 rfl rfl rfl ?_
  refine me1 (pc' := 22) dm_X11_letter_21 rfl rfl rfl rfl ?_
  refine me0 (pc' := 23) (S' := .int (5 : Int32) :: _) dm_X11_letter_22 rfl rfl rfl rfl ?_
  refine me0 (pc' := 24) (S' := .int (10 : Int32) :: _) dm_X11_letter_23 rfl rfl rfl rfl ?_
  refine me0 (pc' := 25) (S' := .long (0 : Int64) :: _) dm_X11_letter_24 rfl rfl rfl rfl ?_
  refine me0 (pc' := 26) (S' := .int (0 : Int32) :: _) dm_X11_letter_25 rfl rfl rfl rfl ?_
  refine me0 (pc' := 28) (S' := .int (31 : Int32) :: _) dm_X11_letter_26 rfl rfl rfl rfl ?_
  refine me0 (pc' := 29) (S' := .int (0 : Int32) :: _) dm_X11_letter_28 rfl rfl rfl rfl ?_
  refine me1 (pc' := 31) (L' := [(4, .int (0 : Int32)), (0, .ref 2), (1, .int p0), (2, .int p1), (3, .int (2 : Int32))]) dm_X11_letter_29 rfl rfl rfl rfl ?_
  refine me1 (pc' := 33) dm_X11_letter_31 rfl rfl rfl rfl ?_
  refine me_1f (pc' := 36) dm_X11_letter_33 rfl (by decide) rfl ?_
  refine me0 (pc' := 37) (S' := .int (-1 : Int32) :: _) dm_X11_letter_36 rfl rfl rfl rfl ?_
  refine me2 (pc' := 45) dm_X11_letter_37 rfl rfl rfl ?_
  refine me5 dm_X11_letter_45 rfl rfl rfl ?_
  exact k _ _ rfl (Nat.le_of_ble_eq_true rfl) (Nat.le_of_ble_eq_true rfl) (Nat.le_of_ble_eq_true rfl)
set_option maxRecDepth 100000 in
set_option maxHeartbeats 40000000 in
theorem c_letter_ge_lt_v3 {xt : mj_X} {d : Nat} {h V : mj_H} (hn : h.length = 2) (hv : V.length = 25) {P : Option Value → mj_H → Prop} {p0 : Int32} {p1 : Int32} (hl0 : 2 ≤ p0.toInt) (hh1 : p1.toInt ≤ -1) (k : ∀ U D, U.length = 100 → mj_sl U ≤ 20000 → D.length ≤ 10 → mj_sl D ≤ 2000 → P (some (.int (-1 : Int32))) (h ++ (U ++ (V ++ D)))) : pgE xt (d + 20) 11 5 false (Option.some FieldType.int) (mj_dec prog_1_method_18_code) 0 [(0, .ref 2), (1, .int p0), (2, .int p1), (3, .int (3 : Int32))] [] (h ++ (cT ++ (V ++ []))) P := by
  refine me1 (pc' := 1) dm_X11_letter_0 rfl rfl rfl rfl ?_
  refine me_1f (pc' := 4) dm_X11_letter_1 rfl (by decide) rfl ?_
  refine me1 (pc' := 5) dm_X11_letter_4 rfl rfl rfl rfl ?_
  refine me0 (pc' := 7) (S' := .int (8 : Int32) :: _) dm_X11_letter_5 rfl rfl rfl rfl ?_
  refine me_2t (pc' := 12) dm_X11_letter_7 rfl rfl ?_
  refine me1 (pc' := 13) dm_X11_letter_12 rfl rfl rfl rfl ?_
  refine me3 (pc' := 16) dm_X11_letter_13 (g_get (v := .ref 4) (lu (n := 2) (j := 0) hn rfl) rfl rfl (Nat.le_of_ble_eq_true rfl)) rfl rfl rfl ?_
  refine me1 (pc' := 17) dm_X11_letter_16 rfl rfl rfl rfl ?_
  refine me1 (pc' := 18) dm_X11_letter_17 rfl rfl rfl rfl ?_
  refine me4 (pc' := 21) (L0 := [(0, .ref 4), (1, .int p0), (2, .int p1)]) dm_X11_letter_18 rfl (g_inv (As := [.int p0, .int p1]) (lu (n := 2) (j := 2) hn rfl) rfl rfl rfl (Nat.le_of_ble_eq_true rfl)) pm_X2_keyAt rfl (Nat.le_of_ble_eq_true rfl) rfl rfl rfl ?_
  refine me1 (pc' := 1) dm_X2_keyAt_0 rfl rfl rfl rfl ?_
  refine me_1t (pc' := 13) dm_X2_keyAt_1 rfl (cn_t_lt (c := 0) rfl (by omega)) ?_
  refine me0 (pc' := 14) (S' := .long (0 : Int64) :: _) dm_X2_keyAt_13 rfl rfl rfl rfl ?_
  refine me5 dm_X2_keyAt_14 rfl rfl rfl ?_
  refine me1 (pc' := 22) dm_X11_letter_21 rfl rfl rfl rfl ?_
  refine me0 (pc' := 23) (S' := .int (5 : Int32) :: _) dm_X11_letter_22 rfl rfl rfl rfl ?_
  refine me0 (pc' := 24) (S' := .int (15 : Int32) :: _) dm_X11_letter_23 rfl rfl rfl rfl ?_
  refine me0 (pc' := 25) (S' := .long (0 : Int64) :: _) dm_X11_letter_24 rfl rfl rfl rfl ?_
  refine me0 (pc' := 26) (S' := .int (0 : Int32) :: _) dm_X11_letter_25 rfl rfl rfl rfl ?_
  refine me0 (pc' := 28) (S' := .int (31 : Int32) :: _) dm_X11_letter_26 rfl rfl rfl rfl ?_
  refine me0 (pc' := 29) (S' := .int (0 : Int32) :: _) dm_X11_letter_28 rfl rfl rfl rfl ?_
  refine me1 (pc' := 31) (L' := [(4, .int (0 : Int32)), (0, .ref 2), (1, .int p0), (2, .int p1), (3, .int (3 : Int32))]) dm_X11_letter_29 rfl rfl rfl rfl ?_
  refine me1 (pc' := 33) dm_X11_letter_31 rfl rfl rfl rfl ?_
  refine me_1f (pc' := 36) dm_X11_letter_33 rfl (by decide) rfl ?_
  refine me0 (pc' := 37) (S' := .int (-1 : Int32) :: _) dm_X11_letter_36 rfl rfl rfl rfl ?_
  refine me2 (pc' := 45) dm_X11_letter_37 rfl rfl rfl ?_
  refine me5 dm_X11_letter_45 rfl rfl rfl ?_
  exact k _ _ rfl (Nat.le_of_ble_eq_true rfl) (Nat.le_of_ble_eq_true rfl) (Nat.le_of_ble_eq_true rfl)
set_option maxRecDepth 100000 in
set_option maxHeartbeats 40000000 in
theorem c_letter_ge_lt_v4 {xt : mj_X} {d : Nat} {h V : mj_H} (hn : h.length = 2) (hv : V.length = 25) {P : Option Value → mj_H → Prop} {p0 : Int32} {p1 : Int32} (hl0 : 2 ≤ p0.toInt) (hh1 : p1.toInt ≤ -1) (k : ∀ U D, U.length = 100 → mj_sl U ≤ 20000 → D.length ≤ 10 → mj_sl D ≤ 2000 → P (some (.int (-1 : Int32))) (h ++ (U ++ (V ++ D)))) : pgE xt (d + 20) 11 5 false (Option.some FieldType.int) (mj_dec prog_1_method_18_code) 0 [(0, .ref 2), (1, .int p0), (2, .int p1), (3, .int (4 : Int32))] [] (h ++ (cT ++ (V ++ []))) P := by
  refine me1 (pc' := 1) dm_X11_letter_0 rfl rfl rfl rfl ?_
  refine me_1f (pc' := 4) dm_X11_letter_1 rfl (by decide) rfl ?_
  refine me1 (pc' := 5) dm_X11_letter_4 rfl rfl rfl rfl ?_
  refine me0 (pc' := 7) (S' := .int (8 : Int32) :: _) dm_X11_letter_5 rfl rfl rfl rfl ?_
  refine me_2t (pc' := 12) dm_X11_letter_7 rfl rfl ?_
  refine me1 (pc' := 13) dm_X11_letter_12 rfl rfl rfl rfl ?_
  refine me3 (pc' := 16) dm_X11_letter_13 (g_get (v := .ref 4) (lu (n := 2) (j := 0) hn rfl) rfl rfl (Nat.le_of_ble_eq_true rfl)) rfl rfl rfl ?_
  refine me1 (pc' := 17) dm_X11_letter_16 rfl rfl rfl rfl ?_
  refine me1 (pc' := 18) dm_X11_letter_17 rfl rfl rfl rfl ?_
  refine me4 (pc' := 21) (L0 := [(0, .ref 4), (1, .int p0), (2, .int p1)]) dm_X11_letter_18 rfl (g_inv (As := [.int p0, .int p1]) (lu (n := 2) (j := 2) hn rfl) rfl rfl rfl (Nat.le_of_ble_eq_true rfl)) pm_X2_keyAt rfl (Nat.le_of_ble_eq_true rfl) rfl rfl rfl ?_
  refine me1 (pc' := 1) dm_X2_keyAt_0 rfl rfl rfl rfl ?_
  refine me_1t (pc' := 13) dm_X2_keyAt_1 rfl (cn_t_lt (c := 0) rfl (by omega)) ?_
  refine me0 (pc' := 14) (S' := .long (0 : Int64) :: _) dm_X2_keyAt_13 rfl rfl rfl rfl ?_
  refine me5 dm_X2_keyAt_14 rfl rfl rfl ?_
  refine me1 (pc' := 22) dm_X11_letter_21 rfl rfl rfl rfl ?_
  refine me0 (pc' := 23) (S' := .int (5 : Int32) :: _) dm_X11_letter_22 rfl rfl rfl rfl ?_
  refine me0 (pc' := 24) (S' := .int (20 : Int32) :: _) dm_X11_letter_23 rfl rfl rfl rfl ?_
  refine me0 (pc' := 25) (S' := .long (0 : Int64) :: _) dm_X11_letter_24 rfl rfl rfl rfl ?_
  refine me0 (pc' := 26) (S' := .int (0 : Int32) :: _) dm_X11_letter_25 rfl rfl rfl rfl ?_
  refine me0 (pc' := 28) (S' := .int (31 : Int32) :: _) dm_X11_letter_26 rfl rfl rfl rfl ?_
  refine me0 (pc' := 29) (S' := .int (0 : Int32) :: _) dm_X11_letter_28 rfl rfl rfl rfl ?_
  refine me1 (pc' := 31) (L' := [(4, .int (0 : Int32)), (0, .ref 2), (1, .int p0), (2, .int p1), (3, .int (4 : Int32))]) dm_X11_letter_29 rfl rfl rfl rfl ?_
  refine me1 (pc' := 33) dm_X11_letter_31 rfl rfl rfl rfl ?_
  refine me_1f (pc' := 36) dm_X11_letter_33 rfl (by decide) rfl ?_
  refine me0 (pc' := 37) (S' := .int (-1 : Int32) :: _) dm_X11_letter_36 rfl rfl rfl rfl ?_
  refine me2 (pc' := 45) dm_X11_letter_37 rfl rfl rfl ?_
  refine me5 dm_X11_letter_45 rfl rfl rfl ?_
  exact k _ _ rfl (Nat.le_of_ble_eq_true rfl) (Nat.le_of_ble_eq_true rfl) (Nat.le_of_ble_eq_true rfl)
set_option maxRecDepth 100000 in
set_option maxHeartbeats 40000000 in
theorem c_letter_ge_lt_v5 {xt : mj_X} {d : Nat} {h V : mj_H} (hn : h.length = 2) (hv : V.length = 25) {P : Option Value → mj_H → Prop} {p0 : Int32} {p1 : Int32} (hl0 : 2 ≤ p0.toInt) (hh1 : p1.toInt ≤ -1) (k : ∀ U D, U.length = 100 → mj_sl U ≤ 20000 → D.length ≤ 10 → mj_sl D ≤ 2000 → P (some (.int (-1 : Int32))) (h ++ (U ++ (V ++ D)))) : pgE xt (d + 20) 11 5 false (Option.some FieldType.int) (mj_dec prog_1_method_18_code) 0 [(0, .ref 2), (1, .int p0), (2, .int p1), (3, .int (5 : Int32))] [] (h ++ (cT ++ (V ++ []))) P := by
  refine me1 (pc' := 1) dm_X11_letter_0 rfl rfl rfl rfl ?_
  refine me_1f (pc' := 4) dm_X11_letter_1 rfl (by decide) rfl ?_
  refine me1 (pc' := 5) dm_X11_letter_4 rfl rfl rfl rfl ?_
  refine me0 (pc' := 7) (S' := .int (8 : Int32) :: _) dm_X11_letter_5 rfl rfl rfl rfl ?_
  refine me_2t (pc' := 12) dm_X11_letter_7 rfl rfl ?_
  refine me1 (pc' := 13) dm_X11_letter_12 rfl rfl rfl rfl ?_
  refine me3 (pc' := 16) dm_X11_letter_13 (g_get (v := .ref 4) (lu (n := 2) (j := 0) hn rfl) rfl rfl (Nat.le_of_ble_eq_true rfl)) rfl rfl rfl ?_
  refine me1 (pc' := 17) dm_X11_letter_16 rfl rfl rfl rfl ?_
  refine me1 (pc' := 18) dm_X11_letter_17 rfl rfl rfl rfl ?_
  refine me4 (pc' := 21) (L0 := [(0, .ref 4), (1, .int p0), (2, .int p1)]) dm_X11_letter_18 rfl (g_inv (As := [.int p0, .int p1]) (lu (n := 2) (j := 2) hn rfl) rfl rfl rfl (Nat.le_of_ble_eq_true rfl)) pm_X2_keyAt rfl (Nat.le_of_ble_eq_true rfl) rfl rfl rfl ?_
  refine me1 (pc' := 1) dm_X2_keyAt_0 rfl rfl rfl rfl ?_
  refine me_1t (pc' := 13) dm_X2_keyAt_1 rfl (cn_t_lt (c := 0) rfl (by omega)) ?_
  refine me0 (pc' := 14) (S' := .long (0 : Int64) :: _) dm_X2_keyAt_13 rfl rfl rfl rfl ?_
  refine me5 dm_X2_keyAt_14 rfl rfl rfl ?_
  refine me1 (pc' := 22) dm_X11_letter_21 rfl rfl rfl rfl ?_
  refine me0 (pc' := 23) (S' := .int (5 : Int32) :: _) dm_X11_letter_22 rfl rfl rfl rfl ?_
  refine me0 (pc' := 24) (S' := .int (25 : Int32) :: _) dm_X11_letter_23 rfl rfl rfl rfl ?_
  refine me0 (pc' := 25) (S' := .long (0 : Int64) :: _) dm_X11_letter_24 rfl rfl rfl rfl ?_
  refine me0 (pc' := 26) (S' := .int (0 : Int32) :: _) dm_X11_letter_25 rfl rfl rfl rfl ?_
  refine me0 (pc' := 28) (S' := .int (31 : Int32) :: _) dm_X11_letter_26 rfl rfl rfl rfl ?_
  refine me0 (pc' := 29) (S' := .int (0 : Int32) :: _) dm_X11_letter_28 rfl rfl rfl rfl ?_
  refine me1 (pc' := 31) (L' := [(4, .int (0 : Int32)), (0, .ref 2), (1, .int p0), (2, .int p1), (3, .int (5 : Int32))]) dm_X11_letter_29 rfl rfl rfl rfl ?_
  refine me1 (pc' := 33) dm_X11_letter_31 rfl rfl rfl rfl ?_
  refine me_1f (pc' := 36) dm_X11_letter_33 rfl (by decide) rfl ?_
  refine me0 (pc' := 37) (S' := .int (-1 : Int32) :: _) dm_X11_letter_36 rfl rfl rfl rfl ?_
  refine me2 (pc' := 45) dm_X11_letter_37 rfl rfl rfl ?_
  refine me5 dm_X11_letter_45 rfl rfl rfl ?_
  exact k _ _ rfl (Nat.le_of_ble_eq_true rfl) (Nat.le_of_ble_eq_true rfl) (Nat.le_of_ble_eq_true rfl)
set_option maxRecDepth 100000 in
set_option maxHeartbeats 40000000 in
theorem c_letter_ge_lt_v6 {xt : mj_X} {d : Nat} {h V : mj_H} (hn : h.length = 2) (hv : V.length = 25) {P : Option Value → mj_H → Prop} {p0 : Int32} {p1 : Int32} (hl0 : 2 ≤ p0.toInt) (hh1 : p1.toInt ≤ -1) (k : ∀ U D, U.length = 100 → mj_sl U ≤ 20000 → D.length ≤ 10 → mj_sl D ≤ 2000 → P (some (.int (-1 : Int32))) (h ++ (U ++ (V ++ D)))) : pgE xt (d + 20) 11 5 false (Option.some FieldType.int) (mj_dec prog_1_method_18_code) 0 [(0, .ref 2), (1, .int p0), (2, .int p1), (3, .int (6 : Int32))] [] (h ++ (cT ++ (V ++ []))) P := by
  refine me1 (pc' := 1) dm_X11_letter_0 rfl rfl rfl rfl ?_
  refine me_1f (pc' := 4) dm_X11_letter_1 rfl (by decide) rfl ?_
  refine me1 (pc' := 5) dm_X11_letter_4 rfl rfl rfl rfl ?_
  refine me0 (pc' := 7) (S' := .int (8 : Int32) :: _) dm_X11_letter_5 rfl rfl rfl rfl ?_
  refine me_2t (pc' := 12) dm_X11_letter_7 rfl rfl ?_
  refine me1 (pc' := 13) dm_X11_letter_12 rfl rfl rfl rfl ?_
  refine me3 (pc' := 16) dm_X11_letter_13 (g_get (v := .ref 4) (lu (n := 2) (j := 0) hn rfl) rfl rfl (Nat.le_of_ble_eq_true rfl)) rfl rfl rfl ?_
  refine me1 (pc' := 17) dm_X11_letter_16 rfl rfl rfl rfl ?_
  refine me1 (pc' := 18) dm_X11_letter_17 rfl rfl rfl rfl ?_
  refine me4 (pc' := 21) (L0 := [(0, .ref 4), (1, .int p0), (2, .int p1)]) dm_X11_letter_18 rfl (g_inv (As := [.int p0, .int p1]) (lu (n := 2) (j := 2) hn rfl) rfl rfl rfl (Nat.le_of_ble_eq_true rfl)) pm_X2_keyAt rfl (Nat.le_of_ble_eq_true rfl) rfl rfl rfl ?_
  refine me1 (pc' := 1) dm_X2_keyAt_0 rfl rfl rfl rfl ?_
  refine me_1t (pc' := 13) dm_X2_keyAt_1 rfl (cn_t_lt (c := 0) rfl (by omega)) ?_
  refine me0 (pc' := 14) (S' := .long (0 : Int64) :: _) dm_X2_keyAt_13 rfl rfl rfl rfl ?_
  refine me5 dm_X2_keyAt_14 rfl rfl rfl ?_
  refine me1 (pc' := 22) dm_X11_letter_21 rfl rfl rfl rfl ?_
  refine me0 (pc' := 23) (S' := .int (5 : Int32) :: _) dm_X11_letter_22 rfl rfl rfl rfl ?_
  refine me0 (pc' := 24) (S' := .int (30 : Int32) :: _) dm_X11_letter_23 rfl rfl rfl rfl ?_
  refine me0 (pc' := 25) (S' := .long (0 : Int64) :: _) dm_X11_letter_24 rfl rfl rfl rfl ?_
  refine me0 (pc' := 26) (S' := .int (0 : Int32) :: _) dm_X11_letter_25 rfl rfl rfl rfl ?_
  refine me0 (pc' := 28) (S' := .int (31 : Int32) :: _) dm_X11_letter_26 rfl rfl rfl rfl ?_
  refine me0 (pc' := 29) (S' := .int (0 : Int32) :: _) dm_X11_letter_28 rfl rfl rfl rfl ?_
  refine me1 (pc' := 31) (L' := [(4, .int (0 : Int32)), (0, .ref 2), (1, .int p0), (2, .int p1), (3, .int (6 : Int32))]) dm_X11_letter_29 rfl rfl rfl rfl ?_
  refine me1 (pc' := 33) dm_X11_letter_31 rfl rfl rfl rfl ?_
  refine me_1f (pc' := 36) dm_X11_letter_33 rfl (by decide) rfl ?_
  refine me0 (pc' := 37) (S' := .int (-1 : Int32) :: _) dm_X11_letter_36 rfl rfl rfl rfl ?_
  refine me2 (pc' := 45) dm_X11_letter_37 rfl rfl rfl ?_
  refine me5 dm_X11_letter_45 rfl rfl rfl ?_
  exact k _ _ rfl (Nat.le_of_ble_eq_true rfl) (Nat.le_of_ble_eq_true rfl) (Nat.le_of_ble_eq_true rfl)
set_option maxRecDepth 100000 in
set_option maxHeartbeats 40000000 in
theorem c_letter_ge_lt_v7 {xt : mj_X} {d : Nat} {h V : mj_H} (hn : h.length = 2) (hv : V.length = 25) {P : Option Value → mj_H → Prop} {p0 : Int32} {p1 : Int32} (hl0 : 2 ≤ p0.toInt) (hh1 : p1.toInt ≤ -1) (k : ∀ U D, U.length = 100 → mj_sl U ≤ 20000 → D.length ≤ 10 → mj_sl D ≤ 2000 → P (some (.int (-1 : Int32))) (h ++ (U ++ (V ++ D)))) : pgE xt (d + 20) 11 5 false (Option.some FieldType.int) (mj_dec prog_1_method_18_code) 0 [(0, .ref 2), (1, .int p0), (2, .int p1), (3, .int (7 : Int32))] [] (h ++ (cT ++ (V ++ []))) P := by
  refine me1 (pc' := 1) dm_X11_letter_0 rfl rfl rfl rfl ?_
  refine me_1f (pc' := 4) dm_X11_letter_1 rfl (by decide) rfl ?_
  refine me1 (pc' := 5) dm_X11_letter_4 rfl rfl rfl rfl ?_
  refine me0 (pc' := 7) (S' := .int (8 : Int32) :: _) dm_X11_letter_5 rfl rfl rfl rfl ?_
  refine me_2t (pc' := 12) dm_X11_letter_7 rfl rfl ?_
  refine me1 (pc' := 13) dm_X11_letter_12 rfl rfl rfl rfl ?_
  refine me3 (pc' := 16) dm_X11_letter_13 (g_get (v := .ref 4) (lu (n := 2) (j := 0) hn rfl) rfl rfl (Nat.le_of_ble_eq_true rfl)) rfl rfl rfl ?_
  refine me1 (pc' := 17) dm_X11_letter_16 rfl rfl rfl rfl ?_
  refine me1 (pc' := 18) dm_X11_letter_17 rfl rfl rfl rfl ?_
  refine me4 (pc' := 21) (L0 := [(0, .ref 4), (1, .int p0), (2, .int p1)]) dm_X11_letter_18 rfl (g_inv (As := [.int p0, .int p1]) (lu (n := 2) (j := 2) hn rfl) rfl rfl rfl (Nat.le_of_ble_eq_true rfl)) pm_X2_keyAt rfl (Nat.le_of_ble_eq_true rfl) rfl rfl rfl ?_
  refine me1 (pc' := 1) dm_X2_keyAt_0 rfl rfl rfl rfl ?_
  refine me_1t (pc' := 13) dm_X2_keyAt_1 rfl (cn_t_lt (c := 0) rfl (by omega)) ?_
  refine me0 (pc' := 14) (S' := .long (0 : Int64) :: _) dm_X2_keyAt_13 rfl rfl rfl rfl ?_
  refine me5 dm_X2_keyAt_14 rfl rfl rfl ?_
  refine me1 (pc' := 22) dm_X11_letter_21 rfl rfl rfl rfl ?_
  refine me0 (pc' := 23) (S' := .int (5 : Int32) :: _) dm_X11_letter_22 rfl rfl rfl rfl ?_
  refine me0 (pc' := 24) (S' := .int (35 : Int32) :: _) dm_X11_letter_23 rfl rfl rfl rfl ?_
  refine me0 (pc' := 25) (S' := .long (0 : Int64) :: _) dm_X11_letter_24 rfl rfl rfl rfl ?_
  refine me0 (pc' := 26) (S' := .int (0 : Int32) :: _) dm_X11_letter_25 rfl rfl rfl rfl ?_
  refine me0 (pc' := 28) (S' := .int (31 : Int32) :: _) dm_X11_letter_26 rfl rfl rfl rfl ?_
  refine me0 (pc' := 29) (S' := .int (0 : Int32) :: _) dm_X11_letter_28 rfl rfl rfl rfl ?_
  refine me1 (pc' := 31) (L' := [(4, .int (0 : Int32)), (0, .ref 2), (1, .int p0), (2, .int p1), (3, .int (7 : Int32))]) dm_X11_letter_29 rfl rfl rfl rfl ?_
  refine me1 (pc' := 33) dm_X11_letter_31 rfl rfl rfl rfl ?_
  refine me_1f (pc' := 36) dm_X11_letter_33 rfl (by decide) rfl ?_
  refine me0 (pc' := 37) (S' := .int (-1 : Int32) :: _) dm_X11_letter_36 rfl rfl rfl rfl ?_
  refine me2 (pc' := 45) dm_X11_letter_37 rfl rfl rfl ?_
  refine me5 dm_X11_letter_45 rfl rfl rfl ?_
  exact k _ _ rfl (Nat.le_of_ble_eq_true rfl) (Nat.le_of_ble_eq_true rfl) (Nat.le_of_ble_eq_true rfl)
set_option maxRecDepth 100000 in
set_option maxHeartbeats 40000000 in
theorem c_letter_ge_lt_ge {xt : mj_X} {d : Nat} {h V : mj_H} (hn : h.length = 2) (hv : V.length = 25) {P : Option Value → mj_H → Prop} {p0 : Int32} {p1 : Int32} {p2 : Int32} (hl0 : 2 ≤ p0.toInt) (hh1 : p1.toInt ≤ -1) (hl2 : 8 ≤ p2.toInt) (k : ∀ U D, U.length = 100 → mj_sl U ≤ 20000 → D.length ≤ 10 → mj_sl D ≤ 2000 → P (some (.int (-1 : Int32))) (h ++ (U ++ (V ++ D)))) : pgE xt (d + 20) 11 5 false (Option.some FieldType.int) (mj_dec prog_1_method_18_code) 0 [(0, .ref 2), (1, .int p0), (2, .int p1), (3, .int p2)] [] (h ++ (cT ++ (V ++ []))) P := by
  refine me1 (pc' := 1) dm_X11_letter_0 rfl rfl rfl rfl ?_
  refine me_1f (pc' := 4) dm_X11_letter_1 rfl (cn_f_lt (c := 0) rfl (by omega)) rfl ?_
  refine me1 (pc' := 5) dm_X11_letter_4 rfl rfl rfl rfl ?_
  refine me0 (pc' := 7) (S' := .int (8 : Int32) :: _) dm_X11_letter_5 rfl rfl rfl rfl ?_
  refine me_2f (pc' := 10) dm_X11_letter_7 rfl (cn_f_lt (c := 8) rfl (by omega)) rfl ?_
  refine me0 (pc' := 11) (S' := .int (-1 : Int32) :: _) dm_X11_letter_10 rfl rfl rfl rfl ?_
  refine me5 dm_X11_letter_11 rfl rfl rfl ?_
  exact k _ _ rfl (Nat.le_of_ble_eq_true rfl) (Nat.le_of_ble_eq_true rfl) (Nat.le_of_ble_eq_true rfl)
set_option maxRecDepth 100000 in
set_option maxHeartbeats 40000000 in
theorem c_letter_ge_ge_lt {xt : mj_X} {d : Nat} {h V : mj_H} (hn : h.length = 2) (hv : V.length = 25) {P : Option Value → mj_H → Prop} {p0 : Int32} {p1 : Int32} {p2 : Int32} (hl0 : 2 ≤ p0.toInt) (hl1 : 0 ≤ p1.toInt) (hh2 : p2.toInt ≤ -1) (k : ∀ U D, U.length = 100 → mj_sl U ≤ 20000 → D.length ≤ 10 → mj_sl D ≤ 2000 → P (some (.int (-1 : Int32))) (h ++ (U ++ (V ++ D)))) : pgE xt (d + 20) 11 5 false (Option.some FieldType.int) (mj_dec prog_1_method_18_code) 0 [(0, .ref 2), (1, .int p0), (2, .int p1), (3, .int p2)] [] (h ++ (cT ++ (V ++ []))) P := by
  refine me1 (pc' := 1) dm_X11_letter_0 rfl rfl rfl rfl ?_
  refine me_1t (pc' := 10) dm_X11_letter_1 rfl (cn_t_lt (c := 0) rfl (by omega)) ?_
  refine me0 (pc' := 11) (S' := .int (-1 : Int32) :: _) dm_X11_letter_10 rfl rfl rfl rfl ?_
  refine me5 dm_X11_letter_11 rfl rfl rfl ?_
  exact k _ _ rfl (Nat.le_of_ble_eq_true rfl) (Nat.le_of_ble_eq_true rfl) (Nat.le_of_ble_eq_true rfl)
set_option maxRecDepth 100000 in
set_option maxHeartbeats 40000000 in
theorem c_letter_ge_ge_v0 {xt : mj_X} {d : Nat} {h V : mj_H} (hn : h.length = 2) (hv : V.length = 25) {P : Option Value → mj_H → Prop} {p0 : Int32} {p1 : Int32} (hl0 : 2 ≤ p0.toInt) (hl1 : 0 ≤ p1.toInt) (k : ∀ U D, U.length = 100 → mj_sl U ≤ 20000 → D.length ≤ 10 → mj_sl D ≤ 2000 → P (some (.int (-1 : Int32))) (h ++ (U ++ (V ++ D)))) : pgE xt (d + 20) 11 5 false (Option.some FieldType.int) (mj_dec prog_1_method_18_code) 0 [(0, .ref 2), (1, .int p0), (2, .int p1), (3, .int (0 : Int32))] [] (h ++ (cT ++ (V ++ []))) P := by
  refine me1 (pc' := 1) dm_X11_letter_0 rfl rfl rfl rfl ?_
  refine me_1f (pc' := 4) dm_X11_letter_1 rfl (by decide) rfl ?_
  refine me1 (pc' := 5) dm_X11_letter_4 rfl rfl rfl rfl ?_
  refine me0 (pc' := 7) (S' := .int (8 : Int32) :: _) dm_X11_letter_5 rfl rfl rfl rfl ?_
  refine me_2t (pc' := 12) dm_X11_letter_7 rfl rfl ?_
  refine me1 (pc' := 13) dm_X11_letter_12 rfl rfl rfl rfl ?_
  refine me3 (pc' := 16) dm_X11_letter_13 (g_get (v := .ref 4) (lu (n := 2) (j := 0) hn rfl) rfl rfl (Nat.le_of_ble_eq_true rfl)) rfl rfl rfl ?_
  refine me1 (pc' := 17) dm_X11_letter_16 rfl rfl rfl rfl ?_
  refine me1 (pc' := 18) dm_X11_letter_17 rfl rfl rfl rfl ?_
  refine me4 (pc' := 21) (L0 := [(0, .ref 4), (1, .int p0), (2, .int p1)]) dm_X11_letter_18 rfl (g_inv (As := [.int p0, .int p1]) (lu (n := 2) (j := 2) hn rfl) rfl rfl rfl (Nat.le_of_ble_eq_true rfl)) pm_X2_keyAt rfl (Nat.le_of_ble_eq_true rfl) rfl rfl rfl ?_
  refine me1 (pc' := 1) dm_X2_keyAt_0 rfl rfl rfl rfl ?_
  refine me_1f (pc' := 4) dm_X2_keyAt_1 rfl (cn_f_lt (c := 0) rfl (by omega)) rfl ?_
  refine me1 (pc' := 5) dm_X2_keyAt_4 rfl rfl rfl rfl ?_
  refine me1 (pc' := 6) dm_X2_keyAt_5 rfl rfl rfl rfl ?_
  refine me1 (pc' := 7) dm_X2_keyAt_6 rfl rfl rfl rfl ?_
  refine me4 (pc' := 10) (L0 := [(0, .ref 4), (1, .int p0)]) dm_X2_keyAt_7 rfl (g_inv (As := [.int p0]) (lu (n := 2) (j := 2) hn rfl) rfl rfl rfl (Nat.le_of_ble_eq_true rfl)) pm_X2_howMany rfl (Nat.le_of_ble_eq_true rfl) rfl rfl rfl ?_
  refine me1 (pc' := 1) dm_X2_howMany_0 rfl rfl rfl rfl ?_
  refine me_1t (pc' := 9) dm_X2_howMany_1 rfl (cn_t_ne (c := 0) rfl (by omega)) ?_
  refine me1 (pc' := 10) dm_X2_howMany_9 rfl rfl rfl rfl ?_
  refine me0 (pc' := 11) (S' := .int (1 : Int32) :: _) dm_X2_howMany_10 rfl rfl rfl rfl ?_
  refine me_2t (pc' := 21) dm_X2_howMany_11 rfl (cn_t_ne (c := 1) rfl (by omega)) ?_
  refine me0 (pc' := 22) (S' := .int (-1 : Int32) :: _) dm_X2_howMany_21 rfl rfl rfl rfl ?_
  refine me5 dm_X2_howMany_22 rfl rfl rfl ?_
  refine me_2f (pc' := 13) dm_X2_keyAt_10 rfl (cn_f_lt (c := -1) rfl (by omega)) rfl ?_
  refine me0 (pc' := 14) (S' := .long (0 : Int64) :: _) dm_X2_keyAt_13 rfl rfl rfl rfl ?_
  refine me5 dm_X2_keyAt_14 rfl rfl rfl ?_
  refine me1 (pc' := 22) dm_X11_letter_21 rfl rfl rfl rfl ?_
  refine me0 (pc' := 23) (S' := .int (5 : Int32) :: _) dm_X11_letter_22 rfl rfl rfl rfl ?_
  refine me0 (pc' := 24) (S' := .int (0 : Int32) :: _) dm_X11_letter_23 rfl rfl rfl rfl ?_
  refine me0 (pc' := 25) (S' := .long (0 : Int64) :: _) dm_X11_letter_24 rfl rfl rfl rfl ?_
  refine me0 (pc' := 26) (S' := .int (0 : Int32) :: _) dm_X11_letter_25 rfl rfl rfl rfl ?_
  refine me0 (pc' := 28) (S' := .int (31 : Int32) :: _) dm_X11_letter_26 rfl rfl rfl rfl ?_
  refine me0 (pc' := 29) (S' := .int (0 : Int32) :: _) dm_X11_letter_28 rfl rfl rfl rfl ?_
  refine me1 (pc' := 31) (L' := [(4, .int (0 : Int32)), (0, .ref 2), (1, .int p0), (2, .int p1), (3, .int (0 : Int32))]) dm_X11_letter_29 rfl rfl rfl rfl ?_
  refine me1 (pc' := 33) dm_X11_letter_31 rfl rfl rfl rfl ?_
  refine me_1f (pc' := 36) dm_X11_letter_33 rfl (by decide) rfl ?_
  refine me0 (pc' := 37) (S' := .int (-1 : Int32) :: _) dm_X11_letter_36 rfl rfl rfl rfl ?_
  refine me2 (pc' := 45) dm_X11_letter_37 rfl rfl rfl ?_
  refine me5 dm_X11_letter_45 rfl rfl rfl ?_
  exact k _ _ rfl (Nat.le_of_ble_eq_true rfl) (Nat.le_of_ble_eq_true rfl) (Nat.le_of_ble_eq_true rfl)
set_option maxRecDepth 100000 in
set_option maxHeartbeats 40000000 in
theorem c_letter_ge_ge_v1 {xt : mj_X} {d : Nat} {h V : mj_H} (hn : h.length = 2) (hv : V.length = 25) {P : Option Value → mj_H → Prop} {p0 : Int32} {p1 : Int32} (hl0 : 2 ≤ p0.toInt) (hl1 : 0 ≤ p1.toInt) (k : ∀ U D, U.length = 100 → mj_sl U ≤ 20000 → D.length ≤ 10 → mj_sl D ≤ 2000 → P (some (.int (-1 : Int32))) (h ++ (U ++ (V ++ D)))) : pgE xt (d + 20) 11 5 false (Option.some FieldType.int) (mj_dec prog_1_method_18_code) 0 [(0, .ref 2), (1, .int p0), (2, .int p1), (3, .int (1 : Int32))] [] (h ++ (cT ++ (V ++ []))) P := by
  refine me1 (pc' := 1) dm_X11_letter_0 rfl rfl rfl rfl ?_
  refine me_1f (pc' := 4) dm_X11_letter_1 rfl (by decide) rfl ?_
  refine me1 (pc' := 5) dm_X11_letter_4 rfl rfl rfl rfl ?_
  refine me0 (pc' := 7) (S' := .int (8 : Int32) :: _) dm_X11_letter_5 rfl rfl rfl rfl ?_
  refine me_2t (pc' := 12) dm_X11_letter_7 rfl rfl ?_
  refine me1 (pc' := 13) dm_X11_letter_12 rfl rfl rfl rfl ?_
  refine me3 (pc' := 16) dm_X11_letter_13 (g_get (v := .ref 4) (lu (n := 2) (j := 0) hn rfl) rfl rfl (Nat.le_of_ble_eq_true rfl)) rfl rfl rfl ?_
  refine me1 (pc' := 17) dm_X11_letter_16 rfl rfl rfl rfl ?_
  refine me1 (pc' := 18) dm_X11_letter_17 rfl rfl rfl rfl ?_
  refine me4 (pc' := 21) (L0 := [(0, .ref 4), (1, .int p0), (2, .int p1)]) dm_X11_letter_18 rfl (g_inv (As := [.int p0, .int p1]) (lu (n := 2) (j := 2) hn rfl) rfl rfl rfl (Nat.le_of_ble_eq_true rfl)) pm_X2_keyAt rfl (Nat.le_of_ble_eq_true rfl) rfl rfl rfl ?_
  refine me1 (pc' := 1) dm_X2_keyAt_0 rfl rfl rfl rfl ?_
  refine me_1f (pc' := 4) dm_X2_keyAt_1 rfl (cn_f_lt (c := 0) rfl (by omega)) rfl ?_
  refine me1 (pc' := 5) dm_X2_keyAt_4 rfl rfl rfl rfl ?_
  refine me1 (pc' := 6) dm_X2_keyAt_5 rfl rfl rfl rfl ?_
  refine me1 (pc' := 7) dm_X2_keyAt_6 rfl rfl rfl rfl ?_
  refine me4 (pc' := 10) (L0 := [(0, .ref 4), (1, .int p0)]) dm_X2_keyAt_7 rfl (g_inv (As := [.int p0]) (lu (n := 2) (j := 2) hn rfl) rfl rfl rfl (Nat.le_of_ble_eq_true rfl)) pm_X2_howMany rfl (Nat.le_of_ble_eq_true rfl) rfl rfl rfl ?_
  refine me1 (pc' := 1) dm_X2_howMany_0 rfl rfl rfl rfl ?_
  refine me_1t (pc' := 9) dm_X2_howMany_1 rfl (cn_t_ne (c := 0) rfl (by omega)) ?_
  refine me1 (pc' := 10) dm_X2_howMany_9 rfl rfl rfl rfl ?_
  refine me0 (pc' := 11) (S' := .int (1 : Int32) :: _) dm_X2_howMany_10 rfl rfl rfl rfl ?_
  refine me_2t (pc' := 21) dm_X2_howMany_11 rfl (cn_t_ne (c := 1) rfl (by omega)) ?_
  refine me0 (pc' := 22) (S' := .int (-1 : Int32) :: _) dm_X2_howMany_21 rfl rfl rfl rfl ?_
  refine me5 dm_X2_howMany_22 rfl rfl rfl ?_
  refine me_2f (pc' := 13) dm_X2_keyAt_10 rfl (cn_f_lt (c := -1) rfl (by omega)) rfl ?_
  refine me0 (pc' := 14) (S' := .long (0 : Int64) :: _) dm_X2_keyAt_13 rfl rfl rfl rfl ?_
  refine me5 dm_X2_keyAt_14 rfl rfl rfl ?_
  refine me1 (pc' := 22) dm_X11_letter_21 rfl rfl rfl rfl ?_
  refine me0 (pc' := 23) (S' := .int (5 : Int32) :: _) dm_X11_letter_22 rfl rfl rfl rfl ?_
  refine me0 (pc' := 24) (S' := .int (5 : Int32) :: _) dm_X11_letter_23 rfl rfl rfl rfl ?_
  refine me0 (pc' := 25) (S' := .long (0 : Int64) :: _) dm_X11_letter_24 rfl rfl rfl rfl ?_
  refine me0 (pc' := 26) (S' := .int (0 : Int32) :: _) dm_X11_letter_25 rfl rfl rfl rfl ?_
  refine me0 (pc' := 28) (S' := .int (31 : Int32) :: _) dm_X11_letter_26 rfl rfl rfl rfl ?_
  refine me0 (pc' := 29) (S' := .int (0 : Int32) :: _) dm_X11_letter_28 rfl rfl rfl rfl ?_
  refine me1 (pc' := 31) (L' := [(4, .int (0 : Int32)), (0, .ref 2), (1, .int p0), (2, .int p1), (3, .int (1 : Int32))]) dm_X11_letter_29 rfl rfl rfl rfl ?_
  refine me1 (pc' := 33) dm_X11_letter_31 rfl rfl rfl rfl ?_
  refine me_1f (pc' := 36) dm_X11_letter_33 rfl (by decide) rfl ?_
  refine me0 (pc' := 37) (S' := .int (-1 : Int32) :: _) dm_X11_letter_36 rfl rfl rfl rfl ?_
  refine me2 (pc' := 45) dm_X11_letter_37 rfl rfl rfl ?_
  refine me5 dm_X11_letter_45 rfl rfl rfl ?_
  exact k _ _ rfl (Nat.le_of_ble_eq_true rfl) (Nat.le_of_ble_eq_true rfl) (Nat.le_of_ble_eq_true rfl)
set_option maxRecDepth 100000 in
set_option maxHeartbeats 40000000 in
theorem c_letter_ge_ge_v2 {xt : mj_X} {d : Nat} {h V : mj_H} (hn : h.length = 2) (hv : V.length = 25) {P : Option Value → mj_H → Prop} {p0 : Int32} {p1 : Int32} (hl0 : 2 ≤ p0.toInt) (hl1 : 0 ≤ p1.toInt) (k : ∀ U D, U.length = 100 → mj_sl U ≤ 20000 → D.length ≤ 10 → mj_sl D ≤ 2000 → P (some (.int (-1 : Int32))) (h ++ (U ++ (V ++ D)))) : pgE xt (d + 20) 11 5 false (Option.some FieldType.int) (mj_dec prog_1_method_18_code) 0 [(0, .ref 2), (1, .int p0), (2, .int p1), (3, .int (2 : Int32))] [] (h ++ (cT ++ (V ++ []))) P := by
  refine me1 (pc' := 1) dm_X11_letter_0 rfl rfl rfl rfl ?_
  refine me_1f (pc' := 4) dm_X11_letter_1 rfl (by decide) rfl ?_
  refine me1 (pc' := 5) dm_X11_letter_4 rfl rfl rfl rfl ?_
  refine me0 (pc' := 7) (S' := .int (8 : Int32) :: _) dm_X11_letter_5 rfl rfl rfl rfl ?_
  refine me_2t (pc' := 12) dm_X11_letter_7 rfl rfl ?_
  refine me1 (pc' := 13) dm_X11_letter_12 rfl rfl rfl rfl ?_
  refine me3 (pc' := 16) dm_X11_letter_13 (g_get (v := .ref 4) (lu (n := 2) (j := 0) hn rfl) rfl rfl (Nat.le_of_ble_eq_true rfl)) rfl rfl rfl ?_
  refine me1 (pc' := 17) dm_X11_letter_16 rfl rfl rfl rfl ?_
  refine me1 (pc' := 18) dm_X11_letter_17 rfl rfl rfl rfl ?_
  refine me4 (pc' := 21) (L0 := [(0, .ref 4), (1, .int p0), (2, .int p1)]) dm_X11_letter_18 rfl (g_inv (As := [.int p0, .int p1]) (lu (n := 2) (j := 2) hn rfl) rfl rfl rfl (Nat.le_of_ble_eq_true rfl)) pm_X2_keyAt rfl (Nat.le_of_ble_eq_true rfl) rfl rfl rfl ?_
  refine me1 (pc' := 1) dm_X2_keyAt_0 rfl rfl rfl rfl ?_
  refine me_1f (pc' := 4) dm_X2_keyAt_1 rfl (cn_f_lt (c := 0) rfl (by omega)) rfl ?_
  refine me1 (pc' := 5) dm_X2_keyAt_4 rfl rfl rfl rfl ?_
  refine me1 (pc' := 6) dm_X2_keyAt_5 rfl rfl rfl rfl ?_
  refine me1 (pc' := 7) dm_X2_keyAt_6 rfl rfl rfl rfl ?_
  refine me4 (pc' := 10) (L0 := [(0, .ref 4), (1, .int p0)]) dm_X2_keyAt_7 rfl (g_inv (As := [.int p0]) (lu (n := 2) (j := 2) hn rfl) rfl rfl rfl (Nat.le_of_ble_eq_true rfl)) pm_X2_howMany rfl (Nat.le_of_ble_eq_true rfl) rfl rfl rfl ?_
  refine me1 (pc' := 1) dm_X2_howMany_0 rfl rfl rfl rfl ?_
  refine me_1t (pc' := 9) dm_X2_howMany_1 rfl (cn_t_ne (c := 0) rfl (by omega)) ?_
  refine me1 (pc' := 10) dm_X2_howMany_9 rfl rfl rfl rfl ?_
  refine me0 (pc' := 11) (S' := .int (1 : Int32) :: _) dm_X2_howMany_10 rfl rfl rfl rfl ?_
  refine me_2t (pc' := 21) dm_X2_howMany_11 rfl (cn_t_ne (c := 1) rfl (by omega)) ?_
  refine me0 (pc' := 22) (S' := .int (-1 : Int32) :: _) dm_X2_howMany_21 rfl rfl rfl rfl ?_
  refine me5 dm_X2_howMany_22 rfl rfl rfl ?_
  refine me_2f (pc' := 13) dm_X2_keyAt_10 rfl (cn_f_lt (c := -1) rfl (by omega)) rfl ?_
  refine me0 (pc' := 14) (S' := .long (0 : Int64) :: _) dm_X2_keyAt_13 rfl rfl rfl rfl ?_
  refine me5 dm_X2_keyAt_14 rfl rfl rfl ?_
  refine me1 (pc' := 22) dm_X11_letter_21 rfl rfl rfl rfl ?_
  refine me0 (pc' := 23) (S' := .int (5 : Int32) :: _) dm_X11_letter_22 rfl rfl rfl rfl ?_
  refine me0 (pc' := 24) (S' := .int (10 : Int32) :: _) dm_X11_letter_23 rfl rfl rfl rfl ?_
  refine me0 (pc' := 25) (S' := .long (0 : Int64) :: _) dm_X11_letter_24 rfl rfl rfl rfl ?_
  refine me0 (pc' := 26) (S' := .int (0 : Int32) :: _) dm_X11_letter_25 rfl rfl rfl rfl ?_
  refine me0 (pc' := 28) (S' := .int (31 : Int32) :: _) dm_X11_letter_26 rfl rfl rfl rfl ?_
  refine me0 (pc' := 29) (S' := .int (0 : Int32) :: _) dm_X11_letter_28 rfl rfl rfl rfl ?_
  refine me1 (pc' := 31) (L' := [(4, .int (0 : Int32)), (0, .ref 2), (1, .int p0), (2, .int p1), (3, .int (2 : Int32))]) dm_X11_letter_29 rfl rfl rfl rfl ?_
  refine me1 (pc' := 33) dm_X11_letter_31 rfl rfl rfl rfl ?_
  refine me_1f (pc' := 36) dm_X11_letter_33 rfl (by decide) rfl ?_
  refine me0 (pc' := 37) (S' := .int (-1 : Int32) :: _) dm_X11_letter_36 rfl rfl rfl rfl ?_
  refine me2 (pc' := 45) dm_X11_letter_37 rfl rfl rfl ?_
  refine me5 dm_X11_letter_45 rfl rfl rfl ?_
  exact k _ _ rfl (Nat.le_of_ble_eq_true rfl) (Nat.le_of_ble_eq_true rfl) (Nat.le_of_ble_eq_true rfl)
set_option maxRecDepth 100000 in
set_option maxHeartbeats 40000000 in
theorem c_letter_ge_ge_v3 {xt : mj_X} {d : Nat} {h V : mj_H} (hn : h.length = 2) (hv : V.length = 25) {P : Option Value → mj_H → Prop} {p0 : Int32} {p1 : Int32} (hl0 : 2 ≤ p0.toInt) (hl1 : 0 ≤ p1.toInt) (k : ∀ U D, U.length = 100 → mj_sl U ≤ 20000 → D.length ≤ 10 → mj_sl D ≤ 2000 → P (some (.int (-1 : Int32))) (h ++ (U ++ (V ++ D)))) : pgE xt (d + 20) 11 5 false (Option.some FieldType.int) (mj_dec prog_1_method_18_code) 0 [(0, .ref 2), (1, .int p0), (2, .int p1), (3, .int (3 : Int32))] [] (h ++ (cT ++ (V ++ []))) P := by
  refine me1 (pc' := 1) dm_X11_letter_0 rfl rfl rfl rfl ?_
  refine me_1f (pc' := 4) dm_X11_letter_1 rfl (by decide) rfl ?_
  refine me1 (pc' := 5) dm_X11_letter_4 rfl rfl rfl rfl ?_
  refine me0 (pc' := 7) (S' := .int (8 : Int32) :: _) dm_X11_letter_5 rfl rfl rfl rfl ?_
  refine me_2t (pc' := 12) dm_X11_letter_7 rfl rfl ?_
  refine me1 (pc' := 13) dm_X11_letter_12 rfl rfl rfl rfl ?_
  refine me3 (pc' := 16) dm_X11_letter_13 (g_get (v := .ref 4) (lu (n := 2) (j := 0) hn rfl) rfl rfl (Nat.le_of_ble_eq_true rfl)) rfl rfl rfl ?_
  refine me1 (pc' := 17) dm_X11_letter_16 rfl rfl rfl rfl ?_
  refine me1 (pc' := 18) dm_X11_letter_17 rfl rfl rfl rfl ?_
  refine me4 (pc' := 21) (L0 := [(0, .ref 4), (1, .int p0), (2, .int p1)]) dm_X11_letter_18 rfl (g_inv (As := [.int p0, .int p1]) (lu (n := 2) (j := 2) hn rfl) rfl rfl rfl (Nat.le_of_ble_eq_true rfl)) pm_X2_keyAt rfl (Nat.le_of_ble_eq_true rfl) rfl rfl rfl ?_
  refine me1 (pc' := 1) dm_X2_keyAt_0 rfl rfl rfl rfl ?_
  refine me_1f (pc' := 4) dm_X2_keyAt_1 rfl (cn_f_lt (c := 0) rfl (by omega)) rfl ?_
  refine me1 (pc' := 5) dm_X2_keyAt_4 rfl rfl rfl rfl ?_
  refine me1 (pc' := 6) dm_X2_keyAt_5 rfl rfl rfl rfl ?_
  refine me1 (pc' := 7) dm_X2_keyAt_6 rfl rfl rfl rfl ?_
  refine me4 (pc' := 10) (L0 := [(0, .ref 4), (1, .int p0)]) dm_X2_keyAt_7 rfl (g_inv (As := [.int p0]) (lu (n := 2) (j := 2) hn rfl) rfl rfl rfl (Nat.le_of_ble_eq_true rfl)) pm_X2_howMany rfl (Nat.le_of_ble_eq_true rfl) rfl rfl rfl ?_
  refine me1 (pc' := 1) dm_X2_howMany_0 rfl rfl rfl rfl ?_
  refine me_1t (pc' := 9) dm_X2_howMany_1 rfl (cn_t_ne (c := 0) rfl (by omega)) ?_
  refine me1 (pc' := 10) dm_X2_howMany_9 rfl rfl rfl rfl ?_
  refine me0 (pc' := 11) (S' := .int (1 : Int32) :: _) dm_X2_howMany_10 rfl rfl rfl rfl ?_
  refine me_2t (pc' := 21) dm_X2_howMany_11 rfl (cn_t_ne (c := 1) rfl (by omega)) ?_
  refine me0 (pc' := 22) (S' := .int (-1 : Int32) :: _) dm_X2_howMany_21 rfl rfl rfl rfl ?_
  refine me5 dm_X2_howMany_22 rfl rfl rfl ?_
  refine me_2f (pc' := 13) dm_X2_keyAt_10 rfl (cn_f_lt (c := -1) rfl (by omega)) rfl ?_
  refine me0 (pc' := 14) (S' := .long (0 : Int64) :: _) dm_X2_keyAt_13 rfl rfl rfl rfl ?_
  refine me5 dm_X2_keyAt_14 rfl rfl rfl ?_
  refine me1 (pc' := 22) dm_X11_letter_21 rfl rfl rfl rfl ?_
  refine me0 (pc' := 23) (S' := .int (5 : Int32) :: _) dm_X11_letter_22 rfl rfl rfl rfl ?_
  refine me0 (pc' := 24) (S' := .int (15 : Int32) :: _) dm_X11_letter_23 rfl rfl rfl rfl ?_
  refine me0 (pc' := 25) (S' := .long (0 : Int64) :: _) dm_X11_letter_24 rfl rfl rfl rfl ?_
  refine me0 (pc' := 26) (S' := .int (0 : Int32) :: _) dm_X11_letter_25 rfl rfl rfl rfl ?_
  refine me0 (pc' := 28) (S' := .int (31 : Int32) :: _) dm_X11_letter_26 rfl rfl rfl rfl ?_
  refine me0 (pc' := 29) (S' := .int (0 : Int32) :: _) dm_X11_letter_28 rfl rfl rfl rfl ?_
  refine me1 (pc' := 31) (L' := [(4, .int (0 : Int32)), (0, .ref 2), (1, .int p0), (2, .int p1), (3, .int (3 : Int32))]) dm_X11_letter_29 rfl rfl rfl rfl ?_
  refine me1 (pc' := 33) dm_X11_letter_31 rfl rfl rfl rfl ?_
  refine me_1f (pc' := 36) dm_X11_letter_33 rfl (by decide) rfl ?_
  refine me0 (pc' := 37) (S' := .int (-1 : Int32) :: _) dm_X11_letter_36 rfl rfl rfl rfl ?_
  refine me2 (pc' := 45) dm_X11_letter_37 rfl rfl rfl ?_
  refine me5 dm_X11_letter_45 rfl rfl rfl ?_
  exact k _ _ rfl (Nat.le_of_ble_eq_true rfl) (Nat.le_of_ble_eq_true rfl) (Nat.le_of_ble_eq_true rfl)
set_option maxRecDepth 100000 in
set_option maxHeartbeats 40000000 in
theorem c_letter_ge_ge_v4 {xt : mj_X} {d : Nat} {h V : mj_H} (hn : h.length = 2) (hv : V.length = 25) {P : Option Value → mj_H → Prop} {p0 : Int32} {p1 : Int32} (hl0 : 2 ≤ p0.toInt) (hl1 : 0 ≤ p1.toInt) (k : ∀ U D, U.length = 100 → mj_sl U ≤ 20000 → D.length ≤ 10 → mj_sl D ≤ 2000 → P (some (.int (-1 : Int32))) (h ++ (U ++ (V ++ D)))) : pgE xt (d + 20) 11 5 false (Option.some FieldType.int) (mj_dec prog_1_method_18_code) 0 [(0, .ref 2), (1, .int p0), (2, .int p1), (3, .int (4 : Int32))] [] (h ++ (cT ++ (V ++ []))) P := by
  refine me1 (pc' := 1) dm_X11_letter_0 rfl rfl rfl rfl ?_
  refine me_1f (pc' := 4) dm_X11_letter_1 rfl (by decide) rfl ?_
  refine me1 (pc' := 5) dm_X11_letter_4 rfl rfl rfl rfl ?_
  refine me0 (pc' := 7) (S' := .int (8 : Int32) :: _) dm_X11_letter_5 rfl rfl rfl rfl ?_
  refine me_2t (pc' := 12) dm_X11_letter_7 rfl rfl ?_
  refine me1 (pc' := 13) dm_X11_letter_12 rfl rfl rfl rfl ?_
  refine me3 (pc' := 16) dm_X11_letter_13 (g_get (v := .ref 4) (lu (n := 2) (j := 0) hn rfl) rfl rfl (Nat.le_of_ble_eq_true rfl)) rfl rfl rfl ?_
  refine me1 (pc' := 17) dm_X11_letter_16 rfl rfl rfl rfl ?_
  refine me1 (pc' := 18) dm_X11_letter_17 rfl rfl rfl rfl ?_
  refine me4 (pc' := 21) (L0 := [(0, .ref 4), (1, .int p0), (2, .int p1)]) dm_X11_letter_18 rfl (g_inv (As := [.int p0, .int p1]) (lu (n := 2) (j := 2) hn rfl) rfl rfl rfl (Nat.le_of_ble_eq_true rfl)) pm_X2_keyAt rfl (Nat.le_of_ble_eq_true rfl) rfl rfl rfl ?_
  refine me1 (pc' := 1) dm_X2_keyAt_0 rfl rfl rfl rfl ?_
  refine me_1f (pc' := 4) dm_X2_keyAt_1 rfl (cn_f_lt (c := 0) rfl (by omega)) rfl ?_
  refine me1 (pc' := 5) dm_X2_keyAt_4 rfl rfl rfl rfl ?_
  refine me1 (pc' := 6) dm_X2_keyAt_5 rfl rfl rfl rfl ?_
  refine me1 (pc' := 7) dm_X2_keyAt_6 rfl rfl rfl rfl ?_
  refine me4 (pc' := 10) (L0 := [(0, .ref 4), (1, .int p0)]) dm_X2_keyAt_7 rfl (g_inv (As := [.int p0]) (lu (n := 2) (j := 2) hn rfl) rfl rfl rfl (Nat.le_of_ble_eq_true rfl)) pm_X2_howMany rfl (Nat.le_of_ble_eq_true rfl) rfl rfl rfl ?_
  refine me1 (pc' := 1) dm_X2_howMany_0 rfl rfl rfl rfl ?_
  refine me_1t (pc' := 9) dm_X2_howMany_1 rfl (cn_t_ne (c := 0) rfl (by omega)) ?_
  refine me1 (pc' := 10) dm_X2_howMany_9 rfl rfl rfl rfl ?_
  refine me0 (pc' := 11) (S' := .int (1 : Int32) :: _) dm_X2_howMany_10 rfl rfl rfl rfl ?_
  refine me_2t (pc' := 21) dm_X2_howMany_11 rfl (cn_t_ne (c := 1) rfl (by omega)) ?_
  refine me0 (pc' := 22) (S' := .int (-1 : Int32) :: _) dm_X2_howMany_21 rfl rfl rfl rfl ?_
  refine me5 dm_X2_howMany_22 rfl rfl rfl ?_
  refine me_2f (pc' := 13) dm_X2_keyAt_10 rfl (cn_f_lt (c := -1) rfl (by omega)) rfl ?_
  refine me0 (pc' := 14) (S' := .long (0 : Int64) :: _) dm_X2_keyAt_13 rfl rfl rfl rfl ?_
  refine me5 dm_X2_keyAt_14 rfl rfl rfl ?_
  refine me1 (pc' := 22) dm_X11_letter_21 rfl rfl rfl rfl ?_
  refine me0 (pc' := 23) (S' := .int (5 : Int32) :: _) dm_X11_letter_22 rfl rfl rfl rfl ?_
  refine me0 (pc' := 24) (S' := .int (20 : Int32) :: _) dm_X11_letter_23 rfl rfl rfl rfl ?_
  refine me0 (pc' := 25) (S' := .long (0 : Int64) :: _) dm_X11_letter_24 rfl rfl rfl rfl ?_
  refine me0 (pc' := 26) (S' := .int (0 : Int32) :: _) dm_X11_letter_25 rfl rfl rfl rfl ?_
  refine me0 (pc' := 28) (S' := .int (31 : Int32) :: _) dm_X11_letter_26 rfl rfl rfl rfl ?_
  refine me0 (pc' := 29) (S' := .int (0 : Int32) :: _) dm_X11_letter_28 rfl rfl rfl rfl ?_
  refine me1 (pc' := 31) (L' := [(4, .int (0 : Int32)), (0, .ref 2), (1, .int p0), (2, .int p1), (3, .int (4 : Int32))]) dm_X11_letter_29 rfl rfl rfl rfl ?_
  refine me1 (pc' := 33) dm_X11_letter_31 rfl rfl rfl rfl ?_
  refine me_1f (pc' := 36) dm_X11_letter_33 rfl (by decide) rfl ?_
  refine me0 (pc' := 37) (S' := .int (-1 : Int32) :: _) dm_X11_letter_36 rfl rfl rfl rfl ?_
  refine me2 (pc' := 45) dm_X11_letter_37 rfl rfl rfl ?_
  refine me5 dm_X11_letter_45 rfl rfl rfl ?_
  exact k _ _ rfl (Nat.le_of_ble_eq_true rfl) (Nat.le_of_ble_eq_true rfl) (Nat.le_of_ble_eq_true rfl)
set_option maxRecDepth 100000 in
set_option maxHeartbeats 40000000 in
theorem c_letter_ge_ge_v5 {xt : mj_X} {d : Nat} {h V : mj_H} (hn : h.length = 2) (hv : V.length = 25) {P : Option Value → mj_H → Prop} {p0 : Int32} {p1 : Int32} (hl0 : 2 ≤ p0.toInt) (hl1 : 0 ≤ p1.toInt) (k : ∀ U D, U.length = 100 → mj_sl U ≤ 20000 → D.length ≤ 10 → mj_sl D ≤ 2000 → P (some (.int (-1 : Int32))) (h ++ (U ++ (V ++ D)))) : pgE xt (d + 20) 11 5 false (Option.some FieldType.int) (mj_dec prog_1_method_18_code) 0 [(0, .ref 2), (1, .int p0), (2, .int p1), (3, .int (5 : Int32))] [] (h ++ (cT ++ (V ++ []))) P := by
  refine me1 (pc' := 1) dm_X11_letter_0 rfl rfl rfl rfl ?_
  refine me_1f (pc' := 4) dm_X11_letter_1 rfl (by decide) rfl ?_
  refine me1 (pc' := 5) dm_X11_letter_4 rfl rfl rfl rfl ?_
  refine me0 (pc' := 7) (S' := .int (8 : Int32) :: _) dm_X11_letter_5 rfl rfl rfl rfl ?_
  refine me_2t (pc' := 12) dm_X11_letter_7 rfl rfl ?_
  refine me1 (pc' := 13) dm_X11_letter_12 rfl rfl rfl rfl ?_
  refine me3 (pc' := 16) dm_X11_letter_13 (g_get (v := .ref 4) (lu (n := 2) (j := 0) hn rfl) rfl rfl (Nat.le_of_ble_eq_true rfl)) rfl rfl rfl ?_
  refine me1 (pc' := 17) dm_X11_letter_16 rfl rfl rfl rfl ?_
  refine me1 (pc' := 18) dm_X11_letter_17 rfl rfl rfl rfl ?_
  refine me4 (pc' := 21) (L0 := [(0, .ref 4), (1, .int p0), (2, .int p1)]) dm_X11_letter_18 rfl (g_inv (As := [.int p0, .int p1]) (lu (n := 2) (j := 2) hn rfl) rfl rfl rfl (Nat.le_of_ble_eq_true rfl)) pm_X2_keyAt rfl (Nat.le_of_ble_eq_true rfl) rfl rfl rfl ?_
  refine me1 (pc' := 1) dm_X2_keyAt_0 rfl rfl rfl rfl ?_
  refine me_1f (pc' := 4) dm_X2_keyAt_1 rfl (cn_f_lt (c := 0) rfl (by omega)) rfl ?_
  refine me1 (pc' := 5) dm_X2_keyAt_4 rfl rfl rfl rfl ?_
  refine me1 (pc' := 6) dm_X2_keyAt_5 rfl rfl rfl rfl ?_
  refine me1 (pc' := 7) dm_X2_keyAt_6 rfl rfl rfl rfl ?_
  refine me4 (pc' := 10) (L0 := [(0, .ref 4), (1, .int p0)]) dm_X2_keyAt_7 rfl (g_inv (As := [.int p0]) (lu (n := 2) (j := 2) hn rfl) rfl rfl rfl (Nat.le_of_ble_eq_true rfl)) pm_X2_howMany rfl (Nat.le_of_ble_eq_true rfl) rfl rfl rfl ?_
  refine me1 (pc' := 1) dm_X2_howMany_0 rfl rfl rfl rfl ?_
  refine me_1t (pc' := 9) dm_X2_howMany_1 rfl (cn_t_ne (c := 0) rfl (by omega)) ?_
  refine me1 (pc' := 10) dm_X2_howMany_9 rfl rfl rfl rfl ?_
  refine me0 (pc' := 11) (S' := .int (1 : Int32) :: _) dm_X2_howMany_10 rfl rfl rfl rfl ?_
  refine me_2t (pc' := 21) dm_X2_howMany_11 rfl (cn_t_ne (c := 1) rfl (by omega)) ?_
  refine me0 (pc' := 22) (S' := .int (-1 : Int32) :: _) dm_X2_howMany_21 rfl rfl rfl rfl ?_
  refine me5 dm_X2_howMany_22 rfl rfl rfl ?_
  refine me_2f (pc' := 13) dm_X2_keyAt_10 rfl (cn_f_lt (c := -1) rfl (by omega)) rfl ?_
  refine me0 (pc' := 14) (S' := .long (0 : Int64) :: _) dm_X2_keyAt_13 rfl rfl rfl rfl ?_
  refine me5 dm_X2_keyAt_14 rfl rfl rfl ?_
  refine me1 (pc' := 22) dm_X11_letter_21 rfl rfl rfl rfl ?_
  refine me0 (pc' := 23) (S' := .int (5 : Int32) :: _) dm_X11_letter_22 rfl rfl rfl rfl ?_
  refine me0 (pc' := 24) (S' := .int (25 : Int32) :: _) dm_X11_letter_23 rfl rfl rfl rfl ?_
  refine me0 (pc' := 25) (S' := .long (0 : Int64) :: _) dm_X11_letter_24 rfl rfl rfl rfl ?_
  refine me0 (pc' := 26) (S' := .int (0 : Int32) :: _) dm_X11_letter_25 rfl rfl rfl rfl ?_
  refine me0 (pc' := 28) (S' := .int (31 : Int32) :: _) dm_X11_letter_26 rfl rfl rfl rfl ?_
  refine me0 (pc' := 29) (S' := .int (0 : Int32) :: _) dm_X11_letter_28 rfl rfl rfl rfl ?_
  refine me1 (pc' := 31) (L' := [(4, .int (0 : Int32)), (0, .ref 2), (1, .int p0), (2, .int p1), (3, .int (5 : Int32))]) dm_X11_letter_29 rfl rfl rfl rfl ?_
  refine me1 (pc' := 33) dm_X11_letter_31 rfl rfl rfl rfl ?_
  refine me_1f (pc' := 36) dm_X11_letter_33 rfl (by decide) rfl ?_
  refine me0 (pc' := 37) (S' := .int (-1 : Int32) :: _) dm_X11_letter_36 rfl rfl rfl rfl ?_
  refine me2 (pc' := 45) dm_X11_letter_37 rfl rfl rfl ?_
  refine me5 dm_X11_letter_45 rfl rfl rfl ?_
  exact k _ _ rfl (Nat.le_of_ble_eq_true rfl) (Nat.le_of_ble_eq_true rfl) (Nat.le_of_ble_eq_true rfl)
set_option maxRecDepth 100000 in
set_option maxHeartbeats 40000000 in
theorem c_letter_ge_ge_v6 {xt : mj_X} {d : Nat} {h V : mj_H} (hn : h.length = 2) (hv : V.length = 25) {P : Option Value → mj_H → Prop} {p0 : Int32} {p1 : Int32} (hl0 : 2 ≤ p0.toInt) (hl1 : 0 ≤ p1.toInt) (k : ∀ U D, U.length = 100 → mj_sl U ≤ 20000 → D.length ≤ 10 → mj_sl D ≤ 2000 → P (some (.int (-1 : Int32))) (h ++ (U ++ (V ++ D)))) : pgE xt (d + 20) 11 5 false (Option.some FieldType.int) (mj_dec prog_1_method_18_code) 0 [(0, .ref 2), (1, .int p0), (2, .int p1), (3, .int (6 : Int32))] [] (h ++ (cT ++ (V ++ []))) P := by
  refine me1 (pc' := 1) dm_X11_letter_0 rfl rfl rfl rfl ?_
  refine me_1f (pc' := 4) dm_X11_letter_1 rfl (by decide) rfl ?_
  refine me1 (pc' := 5) dm_X11_letter_4 rfl rfl rfl rfl ?_
  refine me0 (pc' := 7) (S' := .int (8 : Int32) :: _) dm_X11_letter_5 rfl rfl rfl rfl ?_
  refine me_2t (pc' := 12) dm_X11_letter_7 rfl rfl ?_
  refine me1 (pc' := 13) dm_X11_letter_12 rfl rfl rfl rfl ?_
  refine me3 (pc' := 16) dm_X11_letter_13 (g_get (v := .ref 4) (lu (n := 2) (j := 0) hn rfl) rfl rfl (Nat.le_of_ble_eq_true rfl)) rfl rfl rfl ?_
  refine me1 (pc' := 17) dm_X11_letter_16 rfl rfl rfl rfl ?_
  refine me1 (pc' := 18) dm_X11_letter_17 rfl rfl rfl rfl ?_
  refine me4 (pc' := 21) (L0 := [(0, .ref 4), (1, .int p0), (2, .int p1)]) dm_X11_letter_18 rfl (g_inv (As := [.int p0, .int p1]) (lu (n := 2) (j := 2) hn rfl) rfl rfl rfl (Nat.le_of_ble_eq_true rfl)) pm_X2_keyAt rfl (Nat.le_of_ble_eq_true rfl) rfl rfl rfl ?_
  refine me1 (pc' := 1) dm_X2_keyAt_0 rfl rfl rfl rfl ?_
  refine me_1f (pc' := 4) dm_X2_keyAt_1 rfl (cn_f_lt (c := 0) rfl (by omega)) rfl ?_
  refine me1 (pc' := 5) dm_X2_keyAt_4 rfl rfl rfl rfl ?_
  refine me1 (pc' := 6) dm_X2_keyAt_5 rfl rfl rfl rfl ?_
  refine me1 (pc' := 7) dm_X2_keyAt_6 rfl rfl rfl rfl ?_
  refine me4 (pc' := 10) (L0 := [(0, .ref 4), (1, .int p0)]) dm_X2_keyAt_7 rfl (g_inv (As := [.int p0]) (lu (n := 2) (j := 2) hn rfl) rfl rfl rfl (Nat.le_of_ble_eq_true rfl)) pm_X2_howMany rfl (Nat.le_of_ble_eq_true rfl) rfl rfl rfl ?_
  refine me1 (pc' := 1) dm_X2_howMany_0 rfl rfl rfl rfl ?_
  refine me_1t (pc' := 9) dm_X2_howMany_1 rfl (cn_t_ne (c := 0) rfl (by omega)) ?_
  refine me1 (pc' := 10) dm_X2_howMany_9 rfl rfl rfl rfl ?_
  refine me0 (pc' := 11) (S' := .int (1 : Int32) :: _) dm_X2_howMany_10 rfl rfl rfl rfl ?_
  refine me_2t (pc' := 21) dm_X2_howMany_11 rfl (cn_t_ne (c := 1) rfl (by omega)) ?_
  refine me0 (pc' := 22) (S' := .int (-1 : Int32) :: _) dm_X2_howMany_21 rfl rfl rfl rfl ?_
  refine me5 dm_X2_howMany_22 rfl rfl rfl ?_
  refine me_2f (pc' := 13) dm_X2_keyAt_10 rfl (cn_f_lt (c := -1) rfl (by omega)) rfl ?_
  refine me0 (pc' := 14) (S' := .long (0 : Int64) :: _) dm_X2_keyAt_13 rfl rfl rfl rfl ?_
  refine me5 dm_X2_keyAt_14 rfl rfl rfl ?_
  refine me1 (pc' := 22) dm_X11_letter_21 rfl rfl rfl rfl ?_
  refine me0 (pc' := 23) (S' := .int (5 : Int32) :: _) dm_X11_letter_22 rfl rfl rfl rfl ?_
  refine me0 (pc' := 24) (S' := .int (30 : Int32) :: _) dm_X11_letter_23 rfl rfl rfl rfl ?_
  refine me0 (pc' := 25) (S' := .long (0 : Int64) :: _) dm_X11_letter_24 rfl rfl rfl rfl ?_
  refine me0 (pc' := 26) (S' := .int (0 : Int32) :: _) dm_X11_letter_25 rfl rfl rfl rfl ?_
  refine me0 (pc' := 28) (S' := .int (31 : Int32) :: _) dm_X11_letter_26 rfl rfl rfl rfl ?_
  refine me0 (pc' := 29) (S' := .int (0 : Int32) :: _) dm_X11_letter_28 rfl rfl rfl rfl ?_
  refine me1 (pc' := 31) (L' := [(4, .int (0 : Int32)), (0, .ref 2), (1, .int p0), (2, .int p1), (3, .int (6 : Int32))]) dm_X11_letter_29 rfl rfl rfl rfl ?_
  refine me1 (pc' := 33) dm_X11_letter_31 rfl rfl rfl rfl ?_
  refine me_1f (pc' := 36) dm_X11_letter_33 rfl (by decide) rfl ?_
  refine me0 (pc' := 37) (S' := .int (-1 : Int32) :: _) dm_X11_letter_36 rfl rfl rfl rfl ?_
  refine me2 (pc' := 45) dm_X11_letter_37 rfl rfl rfl ?_
  refine me5 dm_X11_letter_45 rfl rfl rfl ?_
  exact k _ _ rfl (Nat.le_of_ble_eq_true rfl) (Nat.le_of_ble_eq_true rfl) (Nat.le_of_ble_eq_true rfl)
set_option maxRecDepth 100000 in
set_option maxHeartbeats 40000000 in
theorem c_letter_ge_ge_v7 {xt : mj_X} {d : Nat} {h V : mj_H} (hn : h.length = 2) (hv : V.length = 25) {P : Option Value → mj_H → Prop} {p0 : Int32} {p1 : Int32} (hl0 : 2 ≤ p0.toInt) (hl1 : 0 ≤ p1.toInt) (k : ∀ U D, U.length = 100 → mj_sl U ≤ 20000 → D.length ≤ 10 → mj_sl D ≤ 2000 → P (some (.int (-1 : Int32))) (h ++ (U ++ (V ++ D)))) : pgE xt (d + 20) 11 5 false (Option.some FieldType.int) (mj_dec prog_1_method_18_code) 0 [(0, .ref 2), (1, .int p0), (2, .int p1), (3, .int (7 : Int32))] [] (h ++ (cT ++ (V ++ []))) P := by
  refine me1 (pc' := 1) dm_X11_letter_0 rfl rfl rfl rfl ?_
  refine me_1f (pc' := 4) dm_X11_letter_1 rfl (by decide) rfl ?_
  refine me1 (pc' := 5) dm_X11_letter_4 rfl rfl rfl rfl ?_
  refine me0 (pc' := 7) (S' := .int (8 : Int32) :: _) dm_X11_letter_5 rfl rfl rfl rfl ?_
  refine me_2t (pc' := 12) dm_X11_letter_7 rfl rfl ?_
  refine me1 (pc' := 13) dm_X11_letter_12 rfl rfl rfl rfl ?_
  refine me3 (pc' := 16) dm_X11_letter_13 (g_get (v := .ref 4) (lu (n := 2) (j := 0) hn rfl) rfl rfl (Nat.le_of_ble_eq_true rfl)) rfl rfl rfl ?_
  refine me1 (pc' := 17) dm_X11_letter_16 rfl rfl rfl rfl ?_
  refine me1 (pc' := 18) dm_X11_letter_17 rfl rfl rfl rfl ?_
  refine me4 (pc' := 21) (L0 := [(0, .ref 4), (1, .int p0), (2, .int p1)]) dm_X11_letter_18 rfl (g_inv (As := [.int p0, .int p1]) (lu (n := 2) (j := 2) hn rfl) rfl rfl rfl (Nat.le_of_ble_eq_true rfl)) pm_X2_keyAt rfl (Nat.le_of_ble_eq_true rfl) rfl rfl rfl ?_
  refine me1 (pc' := 1) dm_X2_keyAt_0 rfl rfl rfl rfl ?_
  refine me_1f (pc' := 4) dm_X2_keyAt_1 rfl (cn_f_lt (c := 0) rfl (by omega)) rfl ?_
  refine me1 (pc' := 5) dm_X2_keyAt_4 rfl rfl rfl rfl ?_
  refine me1 (pc' := 6) dm_X2_keyAt_5 rfl rfl rfl rfl ?_
  refine me1 (pc' := 7) dm_X2_keyAt_6 rfl rfl rfl rfl ?_
  refine me4 (pc' := 10) (L0 := [(0, .ref 4), (1, .int p0)]) dm_X2_keyAt_7 rfl (g_inv (As := [.int p0]) (lu (n := 2) (j := 2) hn rfl) rfl rfl rfl (Nat.le_of_ble_eq_true rfl)) pm_X2_howMany rfl (Nat.le_of_ble_eq_true rfl) rfl rfl rfl ?_
  refine me1 (pc' := 1) dm_X2_howMany_0 rfl rfl rfl rfl ?_
  refine me_1t (pc' := 9) dm_X2_howMany_1 rfl (cn_t_ne (c := 0) rfl (by omega)) ?_
  refine me1 (pc' := 10) dm_X2_howMany_9 rfl rfl rfl rfl ?_
  refine me0 (pc' := 11) (S' := .int (1 : Int32) :: _) dm_X2_howMany_10 rfl rfl rfl rfl ?_
  refine me_2t (pc' := 21) dm_X2_howMany_11 rfl (cn_t_ne (c := 1) rfl (by omega)) ?_
  refine me0 (pc' := 22) (S' := .int (-1 : Int32) :: _) dm_X2_howMany_21 rfl rfl rfl rfl ?_
  refine me5 dm_X2_howMany_22 rfl rfl rfl ?_
  refine me_2f (pc' := 13) dm_X2_keyAt_10 rfl (cn_f_lt (c := -1) rfl (by omega)) rfl ?_
  refine me0 (pc' := 14) (S' := .long (0 : Int64) :: _) dm_X2_keyAt_13 rfl rfl rfl rfl ?_
  refine me5 dm_X2_keyAt_14 rfl rfl rfl ?_
  refine me1 (pc' := 22) dm_X11_letter_21 rfl rfl rfl rfl ?_
  refine me0 (pc' := 23) (S' := .int (5 : Int32) :: _) dm_X11_letter_22 rfl rfl rfl rfl ?_
  refine me0 (pc' := 24) (S' := .int (35 : Int32) :: _) dm_X11_letter_23 rfl rfl rfl rfl ?_
  refine me0 (pc' := 25) (S' := .long (0 : Int64) :: _) dm_X11_letter_24 rfl rfl rfl rfl ?_
  refine me0 (pc' := 26) (S' := .int (0 : Int32) :: _) dm_X11_letter_25 rfl rfl rfl rfl ?_
  refine me0 (pc' := 28) (S' := .int (31 : Int32) :: _) dm_X11_letter_26 rfl rfl rfl rfl ?_
  refine me0 (pc' := 29) (S' := .int (0 : Int32) :: _) dm_X11_letter_28 rfl rfl rfl rfl ?_
  refine me1 (pc' := 31) (L' := [(4, .int (0 : Int32)), (0, .ref 2), (1, .int p0), (2, .int p1), (3, .int (7 : Int32))]) dm_X11_letter_29 rfl rfl rfl rfl ?_
  refine me1 (pc' := 33) dm_X11_letter_31 rfl rfl rfl rfl ?_
  refine me_1f (pc' := 36) dm_X11_letter_33 rfl (by decide) rfl ?_
  refine me0 (pc' := 37) (S' := .int (-1 : Int32) :: _) dm_X11_letter_36 rfl rfl rfl rfl ?_
  refine me2 (pc' := 45) dm_X11_letter_37 rfl rfl rfl ?_
  refine me5 dm_X11_letter_45 rfl rfl rfl ?_
  exact k _ _ rfl (Nat.le_of_ble_eq_true rfl) (Nat.le_of_ble_eq_true rfl) (Nat.le_of_ble_eq_true rfl)
set_option maxRecDepth 100000 in
set_option maxHeartbeats 40000000 in
theorem c_letter_ge_ge_ge {xt : mj_X} {d : Nat} {h V : mj_H} (hn : h.length = 2) (hv : V.length = 25) {P : Option Value → mj_H → Prop} {p0 : Int32} {p1 : Int32} {p2 : Int32} (hl0 : 2 ≤ p0.toInt) (hl1 : 0 ≤ p1.toInt) (hl2 : 8 ≤ p2.toInt) (k : ∀ U D, U.length = 100 → mj_sl U ≤ 20000 → D.length ≤ 10 → mj_sl D ≤ 2000 → P (some (.int (-1 : Int32))) (h ++ (U ++ (V ++ D)))) : pgE xt (d + 20) 11 5 false (Option.some FieldType.int) (mj_dec prog_1_method_18_code) 0 [(0, .ref 2), (1, .int p0), (2, .int p1), (3, .int p2)] [] (h ++ (cT ++ (V ++ []))) P := by
  refine me1 (pc' := 1) dm_X11_letter_0 rfl rfl rfl rfl ?_
  refine me_1f (pc' := 4) dm_X11_letter_1 rfl (cn_f_lt (c := 0) rfl (by omega)) rfl ?_
  refine me1 (pc' := 5) dm_X11_letter_4 rfl rfl rfl rfl ?_
  refine me0 (pc' := 7) (S' := .int (8 : Int32) :: _) dm_X11_letter_5 rfl rfl rfl rfl ?_
  refine me_2f (pc' := 10) dm_X11_letter_7 rfl (cn_f_lt (c := 8) rfl (by omega)) rfl ?_
  refine me0 (pc' := 11) (S' := .int (-1 : Int32) :: _) dm_X11_letter_10 rfl rfl rfl rfl ?_
  refine me5 dm_X11_letter_11 rfl rfl rfl ?_
  exact k _ _ rfl (Nat.le_of_ble_eq_true rfl) (Nat.le_of_ble_eq_true rfl) (Nat.le_of_ble_eq_true rfl)
