set_option maxRecDepth 100000 in
set_option maxHeartbeats 40000000 in
theorem c_names_lt {xt : mj_X} {d : Nat} {h V : mj_H} (hn : h.length = 2) (hv : V.length = 25) {P : Option Value → mj_H → Prop} {p0 : Int32} (hh0 : p0.toInt ≤ -1) (k : ∀ U D, U.length = 100 → mj_sl U ≤ 20000 → D.length ≤ 10 → mj_sl D ≤ 2000 → P (some (.int (-1 : Int32))) (h ++ (U ++ (V ++ D)))) : pgE xt (d + 20) 11 2 false (Option.some FieldType.int) (mj_dec prog_1_method_17_code) 0 [(0, .ref 2), (1, .int p0)] [] (h ++ (cT ++ (V ++ []))) P := by
  refine me1 (pc' := 1) dm_X11_names_0 rfl rfl rfl rfl ?_
  refine me3 (pc' := 4) dm_X11_names_1 (g_get (v := .ref 4) (lu (n := 2) (j := 0) hn rfl) rfl rfl (Nat.le_of_ble_eq_true rfl)) rfl rfl rfl ?_
  refine me1 (pc' := 5) dm_X11_names_4 rfl rfl rfl rfl ?_
  refine me4 (pc' := 8) (L0 := [(0, .ref 4), (1, .int p0)]) dm_X11_names_5 rfl (g_inv (As := [.int p0]) (lu (n := 2) (j := 2) hn rfl) rfl rfl rfl (Nat.le_of_ble_eq_true rfl)) pm_X2_howMany rfl (Nat.le_of_ble_eq_true rfl) rfl rfl rfl ?_
  refine me1 (pc' := 1) dm_X2_howMany_0 rfl rfl rfl rfl ?_
  refine me_1t (pc' := 9) dm_X2_howMany_1 rfl (cn_t_ne (c := 0) rfl (by omega)) ?_
  refine me1 (pc' := 10) dm_X2_howMany_9 rfl rfl rfl rfl ?_
  refine me0 (pc' := 11) (S' := .int (1 : Int32) :: _) dm_X2_howMany_10 rfl rfl rfl rfl ?_
  refine me_2t (pc' := 21) dm_X2_howMany_11 rfl (cn_t_ne (c := 1) rfl (by omega)) ?_
  refine me0 (pc' := 22) (S' := .int (-1 : Int32) :: _) dm_X2_howMany_21 rfl rfl rfl rfl ?_
  refine me5 dm_X2_howMany_22 rfl rfl rfl ?_
  refine me5 dm_X11_names_8 rfl rfl rfl ?_
  exact k _ _ rfl (Nat.le_of_ble_eq_true rfl) (Nat.le_of_ble_eq_true rfl) (Nat.le_of_ble_eq_true rfl)
set_option maxRecDepth 100000 in
set_option maxHeartbeats 40000000 in
theorem c_names_v0 {xt : mj_X} {d : Nat} {h V : mj_H} (hn : h.length = 2) (hv : V.length = 25) {P : Option Value → mj_H → Prop}  (k : ∀ U D, U.length = 100 → mj_sl U ≤ 20000 → D.length ≤ 10 → mj_sl D ≤ 2000 → P (some (.int (0 : Int32))) (h ++ (U ++ (V ++ D)))) : pgE xt (d + 20) 11 2 false (Option.some FieldType.int) (mj_dec prog_1_method_17_code) 0 [(0, .ref 2), (1, .int (0 : Int32))] [] (h ++ (cT ++ (V ++ []))) P := by
  refine me1 (pc' := 1) dm_X11_names_0 rfl rfl rfl rfl ?_
  refine me3 (pc' := 4) dm_X11_names_1 (g_get (v := .ref 4) (lu (n := 2) (j := 0) hn rfl) rfl rfl (Nat.le_of_ble_eq_true rfl)) rfl rfl rfl ?_
  refine me1 (pc' := 5) dm_X11_names_4 rfl rfl rfl rfl ?_
  refine me4 (pc' := 8) (L0 := [(0, .ref 4), (1, .int (0 : Int32))]) dm_X11_names_5 rfl (g_inv (As := [.int (0 : Int32)]) (lu (n := 2) (j := 2) hn rfl) rfl rfl rfl (Nat.le_of_ble_eq_true rfl)) pm_X2_howMany rfl (Nat.le_of_ble_eq_true rfl) rfl rfl rfl ?_
  refine me1 (pc' := 1) dm_X2_howMany_0 rfl rfl rfl rfl ?_
  refine me_1f (pc' := 4) dm_X2_howMany_1 rfl (by decide) rfl ?_
  refine me1 (pc' := 5) dm_X2_howMany_4 rfl rfl rfl rfl ?_
  refine me3 (pc' := 8) dm_X2_howMany_5 (g_get (v := .int (0 : Int32)) (lu (n := 2) (j := 2) hn rfl) rfl rfl (Nat.le_of_ble_eq_true rfl)) rfl rfl rfl ?_
  refine me5 dm_X2_howMany_8 rfl rfl rfl ?_
  refine me5 dm_X11_names_8 rfl rfl rfl ?_
  exact k _ _ rfl (Nat.le_of_ble_eq_true rfl) (Nat.le_of_ble_eq_true rfl) (Nat.le_of_ble_eq_true rfl)
set_option maxRecDepth 100000 in
set_option maxHeartbeats 40000000 in
theorem c_names_v1 {xt : mj_X} {d : Nat} {h V : mj_H} (hn : h.length = 2) (hv : V.length = 25) {P : Option Value → mj_H → Prop}  (k : ∀ U D, U.length = 100 → mj_sl U ≤ 20000 → D.length ≤ 10 → mj_sl D ≤ 2000 → P (some (.int (0 : Int32))) (h ++ (U ++ (V ++ D)))) : pgE xt (d + 20) 11 2 false (Option.some FieldType.int) (mj_dec prog_1_method_17_code) 0 [(0, .ref 2), (1, .int (1 : Int32))] [] (h ++ (cT ++ (V ++ []))) P := by
  refine me1 (pc' := 1) dm_X11_names_0 rfl rfl rfl rfl ?_
  refine me3 (pc' := 4) dm_X11_names_1 (g_get (v := .ref 4) (lu (n := 2) (j := 0) hn rfl) rfl rfl (Nat.le_of_ble_eq_true rfl)) rfl rfl rfl ?_
  refine me1 (pc' := 5) dm_X11_names_4 rfl rfl rfl rfl ?_
  refine me4 (pc' := 8) (L0 := [(0, .ref 4), (1, .int (1 : Int32))]) dm_X11_names_5 rfl (g_inv (As := [.int (1 : Int32)]) (lu (n := 2) (j := 2) hn rfl) rfl rfl rfl (Nat.le_of_ble_eq_true rfl)) pm_X2_howMany rfl (Nat.le_of_ble_eq_true rfl) rfl rfl rfl ?_
  refine me1 (pc' := 1) dm_X2_howMany_0 rfl rfl rfl rfl ?_
  refine me_1t (pc' := 9) dm_X2_howMany_1 rfl rfl ?_
  refine me1 (pc' := 10) dm_X2_howMany_9 rfl rfl rfl rfl ?_
  refine me0 (pc' := 11) (S' := .int (1 : Int32) :: _) dm_X2_howMany_10 rfl rfl rfl rfl ?_
  refine me_2f (pc' := 14) dm_X2_howMany_11 rfl (by decide) rfl ?_
  refine me1 (pc' := 15) dm_X2_howMany_14 rfl rfl rfl rfl ?_
  refine me3 (pc' := 18) dm_X2_howMany_15 (g_get (v := .int (0 : Int32)) (lu (n := 2) (j := 2) hn rfl) rfl rfl (Nat.le_of_ble_eq_true rfl)) rfl rfl rfl ?_
  refine me2 (pc' := 22) dm_X2_howMany_18 rfl rfl rfl ?_
  refine me5 dm_X2_howMany_22 rfl rfl rfl ?_
  refine me5 dm_X11_names_8 rfl rfl rfl ?_
  exact k _ _ rfl (Nat.le_of_ble_eq_true rfl) (Nat.le_of_ble_eq_true rfl) (Nat.le_of_ble_eq_true rfl)
set_option maxRecDepth 100000 in
set_option maxHeartbeats 40000000 in
theorem c_names_ge {xt : mj_X} {d : Nat} {h V : mj_H} (hn : h.length = 2) (hv : V.length = 25) {P : Option Value → mj_H → Prop} {p0 : Int32} (hl0 : 2 ≤ p0.toInt) (k : ∀ U D, U.length = 100 → mj_sl U ≤ 20000 → D.length ≤ 10 → mj_sl D ≤ 2000 → P (some (.int (-1 : Int32))) (h ++ (U ++ (V ++ D)))) : pgE xt (d + 20) 11 2 false (Option.some FieldType.int) (mj_dec prog_1_method_17_code) 0 [(0, .ref 2), (1, .int p0)] [] (h ++ (cT ++ (V ++ []))) P := by
  refine me1 (pc' := 1) dm_X11_names_0 rfl rfl rfl rfl ?_
  refine me3 (pc' := 4) dm_X11_names_1 (g_get (v := .ref 4) (lu (n := 2) (j := 0) hn rfl) rfl rfl (Nat.le_of_ble_eq_true rfl)) rfl rfl rfl ?_
  refine me1 (pc' := 5) dm_X11_names_4 rfl rfl rfl rfl ?_
  refine me4 (pc' := 8) (L0 := [(0, .ref 4), (1, .int p0)]) dm_X11_names_5 rfl (g_inv (As := [.int p0]) (lu (n := 2) (j := 2) hn rfl) rfl rfl rfl (Nat.le_of_ble_eq_true rfl)) pm_X2_howMany rfl (Nat.le_of_ble_eq_true rfl) rfl rfl rfl ?_
  refine me1 (pc' := 1) dm_X2_howMany_0 rfl rfl rfl rfl ?_
  refine me_1t (pc' := 9) dm_X2_howMany_1 rfl (cn_t_ne (c := 0) rfl (by omega)) ?_
  refine me1 (pc' := 10) dm_X2_howMany_9 rfl rfl rfl rfl ?_
  refine me0 (pc' := 11) (S' := .int (1 : Int32) :: _) dm_X2_howMany_10 rfl rfl rfl rfl ?_
  refine me_2t (pc' := 21) dm_X2_howMany_11 rfl (cn_t_ne (c := 1) rfl (by omega)) ?_
  refine me0 (pc' := 22) (S' := .int (-1 : Int32) :: _) dm_X2_howMany_21 rfl rfl rfl rfl ?_
  refine me5 dm_X2_howMany_22 rfl rfl rfl ?_
  refine me5 dm_X11_names_8 rfl rfl rfl ?_
  exact k _ _ rfl (Nat.le_of_ble_eq_true rfl) (Nat.le_of_ble_eq_true rfl) (Nat.le_of_ble_eq_true rfl)
