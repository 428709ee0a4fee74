set_option maxRecDepth 100000 in
set_option maxHeartbeats 40000000 in
theorem c_told_lt {xt : mj_X} {d : Nat} {h V : mj_H} (hn : h.length = 2) (hv : V.length = 25) {P : Option Value → mj_H → Prop} {p0 : Int32} (hh0 : p0.toInt ≤ -1) (k : ∀ U D, U.length = 100 → mj_sl U ≤ 20000 → D.length ≤ 10 → mj_sl D ≤ 2000 → P (some (.int (-1 : Int32))) (h ++ (U ++ (V ++ D)))) : pgE xt (d + 20) 11 2 false (Option.some FieldType.int) (mj_dec prog_1_method_8_code) 0 [(0, .ref 2), (1, .int p0)] [] (h ++ (cT ++ (V ++ []))) P := by
  refine me1 (pc' := 1) dm_X11_told_0 rfl rfl rfl rfl ?_
  refine me2 (pc' := 55) dm_X11_told_1 (sw_tdef [0, 1, 2, 3] rfl rfl rfl ⟨(cn_f_eq (c := 0) rfl (by omega)), (cn_f_eq (c := 1) rfl (by omega)), (cn_f_eq (c := 2) rfl (by omega)), (cn_f_eq (c := 3) rfl (by omega)), trivial⟩) rfl rfl ?_
  refine me0 (pc' := 56) (S' := .int (-1 : Int32) :: _) dm_X11_told_55 rfl rfl rfl rfl ?_
  refine me5 dm_X11_told_56 rfl rfl rfl ?_
  exact k _ _ rfl (Nat.le_of_ble_eq_true rfl) (Nat.le_of_ble_eq_true rfl) (Nat.le_of_ble_eq_true rfl)
set_option maxRecDepth 100000 in
set_option maxHeartbeats 40000000 in
theorem c_told_v0 {xt : mj_X} {d : Nat} {h V : mj_H} (hn : h.length = 2) (hv : V.length = 25) {P : Option Value → mj_H → Prop}  (k : ∀ U D, U.length = 100 → mj_sl U ≤ 20000 → D.length ≤ 10 → mj_sl D ≤ 2000 → P (some (.int (0 : Int32))) (h ++ (U ++ (V ++ D)))) : pgE xt (d + 20) 11 2 false (Option.some FieldType.int) (mj_dec prog_1_method_8_code) 0 [(0, .ref 2), (1, .int (0 : Int32))] [] (h ++ (cT ++ (V ++ []))) P := by
  refine me1 (pc' := 1) dm_X11_told_0 rfl rfl rfl rfl ?_
  refine me2 (pc' := 32) dm_X11_told_1 rfl rfl rfl ?_
  refine me1 (pc' := 33) dm_X11_told_32 rfl rfl rfl rfl ?_
  refine me3 (pc' := 36) dm_X11_told_33 (g_get (v := .int (0 : Int32)) (lu (n := 2) (j := 0) hn rfl) rfl rfl (Nat.le_of_ble_eq_true rfl)) rfl rfl rfl ?_
  refine me5 dm_X11_told_36 rfl rfl rfl ?_
  exact k _ _ rfl (Nat.le_of_ble_eq_true rfl) (Nat.le_of_ble_eq_true rfl) (Nat.le_of_ble_eq_true rfl)
set_option maxRecDepth 100000 in
set_option maxHeartbeats 40000000 in
theorem c_told_v1 {xt : mj_X} {d : Nat} {h V : mj_H} (hn : h.length = 2) (hv : V.length = 25) {P : Option Value → mj_H → Prop}  (k : ∀ U D, U.length = 100 → mj_sl U ≤ 20000 → D.length ≤ 10 → mj_sl D ≤ 2000 → P (some (.int (-1 : Int32))) (h ++ (U ++ (V ++ D)))) : pgE xt (d + 20) 11 2 false (Option.some FieldType.int) (mj_dec prog_1_method_8_code) 0 [(0, .ref 2), (1, .int (1 : Int32))] [] (h ++ (cT ++ (V ++ []))) P := by
  refine me1 (pc' := 1) dm_X11_told_0 rfl rfl rfl rfl ?_
  refine me2 (pc' := 37) dm_X11_told_1 rfl rfl rfl ?_
  refine me1 (pc' := 38) dm_X11_told_37 rfl rfl rfl rfl ?_
  refine me3 (pc' := 41) dm_X11_told_38 (g_get (v := .int (-1 : Int32)) (lu (n := 2) (j := 0) hn rfl) rfl rfl (Nat.le_of_ble_eq_true rfl)) rfl rfl rfl ?_
  refine me5 dm_X11_told_41 rfl rfl rfl ?_
  exact k _ _ rfl (Nat.le_of_ble_eq_true rfl) (Nat.le_of_ble_eq_true rfl) (Nat.le_of_ble_eq_true rfl)
set_option maxRecDepth 100000 in
set_option maxHeartbeats 40000000 in
theorem c_told_v2 {xt : mj_X} {d : Nat} {h V : mj_H} (hn : h.length = 2) (hv : V.length = 25) {P : Option Value → mj_H → Prop}  (k : ∀ U D, U.length = 100 → mj_sl U ≤ 20000 → D.length ≤ 10 → mj_sl D ≤ 2000 → P (some (.int (0 : Int32))) (h ++ (U ++ (V ++ D)))) : pgE xt (d + 20) 11 2 false (Option.some FieldType.int) (mj_dec prog_1_method_8_code) 0 [(0, .ref 2), (1, .int (2 : Int32))] [] (h ++ (cT ++ (V ++ []))) P := by
  refine me1 (pc' := 1) dm_X11_told_0 rfl rfl rfl rfl ?_
  refine me2 (pc' := 42) dm_X11_told_1 rfl rfl rfl ?_
  refine me1 (pc' := 43) dm_X11_told_42 rfl rfl rfl rfl ?_
  refine me3 (pc' := 46) dm_X11_told_43 (g_get (v := .int (0 : Int32)) (lu (n := 2) (j := 0) hn rfl) rfl rfl (Nat.le_of_ble_eq_true rfl)) rfl rfl rfl ?_
  refine me5 dm_X11_told_46 rfl rfl rfl ?_
  exact k _ _ rfl (Nat.le_of_ble_eq_true rfl) (Nat.le_of_ble_eq_true rfl) (Nat.le_of_ble_eq_true rfl)
set_option maxRecDepth 100000 in
set_option maxHeartbeats 40000000 in
theorem c_told_v3 {xt : mj_X} {d : Nat} {h V : mj_H} (hn : h.length = 2) (hv : V.length = 25) {P : Option Value → mj_H → Prop}  (k : ∀ U D, U.length = 100 → mj_sl U ≤ 20000 → D.length ≤ 10 → mj_sl D ≤ 2000 → P (some (.int (500000 : Int32))) (h ++ (U ++ (V ++ D)))) : pgE xt (d + 20) 11 2 false (Option.some FieldType.int) (mj_dec prog_1_method_8_code) 0 [(0, .ref 2), (1, .int (3 : Int32))] [] (h ++ (cT ++ (V ++ []))) P := by
  refine me1 (pc' := 1) dm_X11_told_0 rfl rfl rfl rfl ?_
  refine me2 (pc' := 47) dm_X11_told_1 rfl rfl rfl ?_
  refine me1 (pc' := 48) dm_X11_told_47 rfl rfl rfl rfl ?_
  refine me3 (pc' := 51) dm_X11_told_48 (g_get (v := .ref 16) (lu (n := 2) (j := 0) hn rfl) rfl rfl (Nat.le_of_ble_eq_true rfl)) rfl rfl rfl ?_
  refine me4 (pc' := 54) (L0 := [(0, .ref 16)]) dm_X11_told_51 rfl (g_inv (As := []) (lu (n := 2) (j := 14) hn rfl) rfl rfl rfl (Nat.le_of_ble_eq_true rfl)) pm_X1_workLeft rfl (Nat.le_of_ble_eq_true rfl) rfl rfl rfl ?_
  refine me1 (pc' := 1) dm_X1_workLeft_0 rfl rfl rfl rfl ?_
  refine me3 (pc' := 4) dm_X1_workLeft_1 (g_get (v := .int (500000 : Int32)) (lu (n := 2) (j := 14) hn rfl) rfl rfl (Nat.le_of_ble_eq_true rfl)) rfl rfl rfl ?_
  refine me5 dm_X1_workLeft_4 rfl rfl rfl ?_
  refine me5 dm_X11_told_54 rfl rfl rfl ?_
  exact k _ _ rfl (Nat.le_of_ble_eq_true rfl) (Nat.le_of_ble_eq_true rfl) (Nat.le_of_ble_eq_true rfl)
set_option maxRecDepth 100000 in
set_option maxHeartbeats 40000000 in
theorem c_told_ge {xt : mj_X} {d : Nat} {h V : mj_H} (hn : h.length = 2) (hv : V.length = 25) {P : Option Value → mj_H → Prop} {p0 : Int32} (hl0 : 4 ≤ p0.toInt) (k : ∀ U D, U.length = 100 → mj_sl U ≤ 20000 → D.length ≤ 10 → mj_sl D ≤ 2000 → P (some (.int (-1 : Int32))) (h ++ (U ++ (V ++ D)))) : pgE xt (d + 20) 11 2 false (Option.some FieldType.int) (mj_dec prog_1_method_8_code) 0 [(0, .ref 2), (1, .int p0)] [] (h ++ (cT ++ (V ++ []))) P := by
  refine me1 (pc' := 1) dm_X11_told_0 rfl rfl rfl rfl ?_
  refine me2 (pc' := 55) dm_X11_told_1 (sw_tdef [0, 1, 2, 3] rfl rfl rfl ⟨(cn_f_eq (c := 0) rfl (by omega)), (cn_f_eq (c := 1) rfl (by omega)), (cn_f_eq (c := 2) rfl (by omega)), (cn_f_eq (c := 3) rfl (by omega)), trivial⟩) rfl rfl ?_
  refine me0 (pc' := 56) (S' := .int (-1 : Int32) :: _) dm_X11_told_55 rfl rfl rfl rfl ?_
  refine me5 dm_X11_told_56 rfl rfl rfl ?_
  exact k _ _ rfl (Nat.le_of_ble_eq_true rfl) (Nat.le_of_ble_eq_true rfl) (Nat.le_of_ble_eq_true rfl)
