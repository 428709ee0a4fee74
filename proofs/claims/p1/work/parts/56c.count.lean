set_option maxRecDepth 100000 in
set_option maxHeartbeats 40000000 in
theorem c_count_lt {xt : mj_X} {d : Nat} {h V : mj_H} (hn : h.length = 2) (hv : V.length = 25) {P : Option Value → mj_H → Prop} {p0 : Int32} (hh0 : p0.toInt ≤ -1) (k : ∀ U D, U.length = 100 → mj_sl U ≤ 20000 → D.length ≤ 10 → mj_sl D ≤ 2000 → P (some (.int (-1 : Int32))) (h ++ (U ++ (V ++ D)))) : pgE xt (d + 20) 11 2 false (Option.some FieldType.int) (mj_dec prog_1_method_11_code) 0 [(0, .ref 2), (1, .int p0)] [] (h ++ (cT ++ (V ++ []))) P := by
  refine me1 (pc' := 1) dm_X11_count_0 rfl rfl rfl rfl ?_
  refine me_1t (pc' := 12) dm_X11_count_1 rfl (cn_t_ne (c := 0) rfl (by omega)) ?_
  refine me1 (pc' := 13) dm_X11_count_12 rfl rfl rfl rfl ?_
  refine me0 (pc' := 14) (S' := .int (1 : Int32) :: _) dm_X11_count_13 rfl rfl rfl rfl ?_
  refine me_2t (pc' := 37) dm_X11_count_14 rfl (cn_t_ne (c := 1) rfl (by omega)) ?_
  refine me1 (pc' := 38) dm_X11_count_37 rfl rfl rfl rfl ?_
  refine me0 (pc' := 39) (S' := .int (2 : Int32) :: _) dm_X11_count_38 rfl rfl rfl rfl ?_
  refine me_2t (pc' := 52) dm_X11_count_39 rfl (cn_t_ne (c := 2) rfl (by omega)) ?_
  refine me0 (pc' := 53) (S' := .int (-1 : Int32) :: _) dm_X11_count_52 rfl rfl rfl rfl ?_
  refine me5 dm_X11_count_53 rfl rfl rfl ?_
  exact k _ _ rfl (Nat.le_of_ble_eq_true rfl) (Nat.le_of_ble_eq_true rfl) (Nat.le_of_ble_eq_true rfl)
set_option maxRecDepth 100000 in
set_option maxHeartbeats 40000000 in
theorem c_count_v0 {xt : mj_X} {d : Nat} {h V : mj_H} (hn : h.length = 2) (hv : V.length = 25) {P : Option Value → mj_H → Prop}  (k : ∀ U D, U.length = 100 → mj_sl U ≤ 20000 → D.length ≤ 10 → mj_sl D ≤ 2000 → P (some (.int (1 : Int32))) (h ++ (U ++ (V ++ D)))) : pgE xt (d + 20) 11 2 false (Option.some FieldType.int) (mj_dec prog_1_method_11_code) 0 [(0, .ref 2), (1, .int (0 : Int32))] [] (h ++ (cT ++ (V ++ []))) P := by
  refine me1 (pc' := 1) dm_X11_count_0 rfl rfl rfl rfl ?_
  refine me_1f (pc' := 4) dm_X11_count_1 rfl (by decide) rfl ?_
  refine me1 (pc' := 5) dm_X11_count_4 rfl rfl rfl rfl ?_
  refine me3 (pc' := 8) dm_X11_count_5 (g_get (v := .ref 101) (lu (n := 2) (j := 0) hn rfl) rfl rfl (Nat.le_of_ble_eq_true rfl)) rfl rfl rfl ?_
  refine me3 (pc' := 11) dm_X11_count_8 (g_get (v := .int (1 : Int32)) (lu (n := 2) (j := 99) hn rfl) rfl rfl (Nat.le_of_ble_eq_true rfl)) rfl rfl rfl ?_
  refine me5 dm_X11_count_11 rfl rfl rfl ?_
  exact k _ _ rfl (Nat.le_of_ble_eq_true rfl) (Nat.le_of_ble_eq_true rfl) (Nat.le_of_ble_eq_true rfl)
set_option maxRecDepth 100000 in
set_option maxHeartbeats 40000000 in
theorem c_count_v1 {xt : mj_X} {d : Nat} {h V : mj_H} (hn : h.length = 2) (hv : V.length = 25) {P : Option Value → mj_H → Prop}  (k : ∀ U D, U.length = 100 → mj_sl U ≤ 20000 → D.length ≤ 10 → mj_sl D ≤ 2000 → P (some (.int (-1 : Int32))) (h ++ (U ++ (V ++ D)))) : pgE xt (d + 20) 11 2 false (Option.some FieldType.int) (mj_dec prog_1_method_11_code) 0 [(0, .ref 2), (1, .int (1 : Int32))] [] (h ++ (cT ++ (V ++ []))) P := by
  refine me1 (pc' := 1) dm_X11_count_0 rfl rfl rfl rfl ?_
  refine me_1t (pc' := 12) dm_X11_count_1 rfl rfl ?_
  refine me1 (pc' := 13) dm_X11_count_12 rfl rfl rfl rfl ?_
  refine me0 (pc' := 14) (S' := .int (1 : Int32) :: _) dm_X11_count_13 rfl rfl rfl rfl ?_
  refine me_2f (pc' := 17) dm_X11_count_14 rfl (by decide) rfl ?_
  refine me1 (pc' := 18) dm_X11_count_17 rfl rfl rfl rfl ?_
  refine me3 (pc' := 21) dm_X11_count_18 (g_get (v := .ref 101) (lu (n := 2) (j := 0) hn rfl) rfl rfl (Nat.le_of_ble_eq_true rfl)) rfl rfl rfl ?_
  refine me3 (pc' := 24) dm_X11_count_21 (g_get (v := .int (0 : Int32)) (lu (n := 2) (j := 99) hn rfl) rfl rfl (Nat.le_of_ble_eq_true rfl)) rfl rfl rfl ?_
  refine me0 (pc' := 26) (S' := .int (6 : Int32) :: _) dm_X11_count_24 rfl rfl rfl rfl ?_
  refine me_2t (pc' := 37) dm_X11_count_26 rfl rfl ?_
  refine me1 (pc' := 38) dm_X11_count_37 rfl rfl rfl rfl ?_
  refine me0 (pc' := 39) (S' := .int (2 : Int32) :: _) dm_X11_count_38 rfl rfl rfl rfl ?_
  refine me_2t (pc' := 52) dm_X11_count_39 rfl rfl ?_
  refine me0 (pc' := 53) (S' := .int (-1 : Int32) :: _) dm_X11_count_52 rfl rfl rfl rfl ?_
  refine me5 dm_X11_count_53 rfl rfl rfl ?_
  exact k _ _ rfl (Nat.le_of_ble_eq_true rfl) (Nat.le_of_ble_eq_true rfl) (Nat.le_of_ble_eq_true rfl)
set_option maxRecDepth 100000 in
set_option maxHeartbeats 40000000 in
theorem c_count_v2 {xt : mj_X} {d : Nat} {h V : mj_H} (hn : h.length = 2) (hv : V.length = 25) {P : Option Value → mj_H → Prop}  (k : ∀ U D, U.length = 100 → mj_sl U ≤ 20000 → D.length ≤ 10 → mj_sl D ≤ 2000 → P (some (.int (0 : Int32))) (h ++ (U ++ (V ++ D)))) : pgE xt (d + 20) 11 2 false (Option.some FieldType.int) (mj_dec prog_1_method_11_code) 0 [(0, .ref 2), (1, .int (2 : Int32))] [] (h ++ (cT ++ (V ++ []))) P := by
  refine me1 (pc' := 1) dm_X11_count_0 rfl rfl rfl rfl ?_
  refine me_1t (pc' := 12) dm_X11_count_1 rfl rfl ?_
  refine me1 (pc' := 13) dm_X11_count_12 rfl rfl rfl rfl ?_
  refine me0 (pc' := 14) (S' := .int (1 : Int32) :: _) dm_X11_count_13 rfl rfl rfl rfl ?_
  refine me_2t (pc' := 37) dm_X11_count_14 rfl rfl ?_
  refine me1 (pc' := 38) dm_X11_count_37 rfl rfl rfl rfl ?_
  refine me0 (pc' := 39) (S' := .int (2 : Int32) :: _) dm_X11_count_38 rfl rfl rfl rfl ?_
  refine me_2f (pc' := 42) dm_X11_count_39 rfl (by decide) rfl ?_
  refine me1 (pc' := 43) dm_X11_count_42 rfl rfl rfl rfl ?_
  refine me3 (pc' := 46) dm_X11_count_43 (g_get (v := .ref 101) (lu (n := 2) (j := 0) hn rfl) rfl rfl (Nat.le_of_ble_eq_true rfl)) rfl rfl rfl ?_
  refine me3 (pc' := 49) dm_X11_count_46 (g_get (v := .int (0 : Int32)) (lu (n := 2) (j := 99) hn rfl) rfl rfl (Nat.le_of_ble_eq_true rfl)) rfl rfl rfl ?_
  refine me2 (pc' := 53) dm_X11_count_49 rfl rfl rfl ?_
  refine me5 dm_X11_count_53 rfl rfl rfl ?_
  exact k _ _ rfl (Nat.le_of_ble_eq_true rfl) (Nat.le_of_ble_eq_true rfl) (Nat.le_of_ble_eq_true rfl)
set_option maxRecDepth 100000 in
set_option maxHeartbeats 40000000 in
theorem c_count_ge {xt : mj_X} {d : Nat} {h V : mj_H} (hn : h.length = 2) (hv : V.length = 25) {P : Option Value → mj_H → Prop} {p0 : Int32} (hl0 : 3 ≤ p0.toInt) (k : ∀ U D, U.length = 100 → mj_sl U ≤ 20000 → D.length ≤ 10 → mj_sl D ≤ 2000 → P (some (.int (-1 : Int32))) (h ++ (U ++ (V ++ D)))) : pgE xt (d + 20) 11 2 false (Option.some FieldType.int) (mj_dec prog_1_method_11_code) 0 [(0, .ref 2), (1, .int p0)] [] (h ++ (cT ++ (V ++ []))) P := by
  refine me1 (pc' := 1) dm_X11_count_0 rfl rfl rfl rfl ?_
  refine me_1t (pc' := 12) dm_X11_count_1 rfl (cn_t_ne (c := 0) rfl (by omega)) ?_
  refine me1 (pc' := 13) dm_X11_count_12 rfl rfl rfl rfl ?_
  refine me0 (pc' := 14) (S' := .int (1 : Int32) :: _) dm_X11_count_13 rfl rfl rfl rfl ?_
  refine me_2t (pc' := 37) dm_X11_count_14 rfl (cn_t_ne (c := 1) rfl (by omega)) ?_
  refine me1 (pc' := 38) dm_X11_count_37 rfl rfl rfl rfl ?_
  refine me0 (pc' := 39) (S' := .int (2 : Int32) :: _) dm_X11_count_38 rfl rfl rfl rfl ?_
  refine me_2t (pc' := 52) dm_X11_count_39 rfl (cn_t_ne (c := 2) rfl (by omega)) ?_
  refine me0 (pc' := 53) (S' := .int (-1 : Int32) :: _) dm_X11_count_52 rfl rfl rfl rfl ?_
  refine me5 dm_X11_count_53 rfl rfl rfl ?_
  exact k _ _ rfl (Nat.le_of_ble_eq_true rfl) (Nat.le_of_ble_eq_true rfl) (Nat.le_of_ble_eq_true rfl)
