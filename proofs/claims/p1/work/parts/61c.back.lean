set_option maxRecDepth 100000 in
set_option maxHeartbeats 40000000 in
theorem c_back_lt {xt : mj_X} {d : Nat} {h V : mj_H} (hn : h.length = 2) (hv : V.length = 25) {P : Option Value → mj_H → Prop} {p0 : Int32} (hh0 : p0.toInt ≤ -1) (k : ∀ U D, U.length = 100 → mj_sl U ≤ 20000 → D.length ≤ 10 → mj_sl D ≤ 2000 → P (some (.int (0 : Int32))) (h ++ (U ++ (V ++ D)))) : pgE xt (d + 20) 11 2 false (Option.some FieldType.boolean) (mj_dec prog_1_method_16_code) 0 [(0, .ref 2), (1, .int p0)] [] (h ++ (cT ++ (V ++ []))) P := by
  refine me1 (pc' := 1) dm_X11_back_0 rfl rfl rfl rfl ?_
  refine me_1t (pc' := 22) dm_X11_back_1 rfl (cn_t_lt (c := 0) rfl (by omega)) ?_
  refine me0 (pc' := 23) (S' := .int (0 : Int32) :: _) dm_X11_back_22 rfl rfl rfl rfl ?_
  refine me5 dm_X11_back_23 rfl rfl rfl ?_
  exact k _ _ rfl (Nat.le_of_ble_eq_true rfl) (Nat.le_of_ble_eq_true rfl) (Nat.le_of_ble_eq_true rfl)
set_option maxRecDepth 100000 in
set_option maxHeartbeats 40000000 in
theorem c_back_v0 {xt : mj_X} {d : Nat} {h V : mj_H} (hn : h.length = 2) (hv : V.length = 25) {P : Option Value → mj_H → Prop}  (k : ∀ U D, U.length = 100 → mj_sl U ≤ 20000 → D.length ≤ 10 → mj_sl D ≤ 2000 → P (some (.int (0 : Int32))) (h ++ (U ++ (V ++ D)))) : pgE xt (d + 20) 11 2 false (Option.some FieldType.boolean) (mj_dec prog_1_method_16_code) 0 [(0, .ref 2), (1, .int (0 : Int32))] [] (h ++ (cT ++ (V ++ []))) P := by
  refine me1 (pc' := 1) dm_X11_back_0 rfl rfl rfl rfl ?_
  refine me_1f (pc' := 4) dm_X11_back_1 rfl (by decide) rfl ?_
  refine me1 (pc' := 5) dm_X11_back_4 rfl rfl rfl rfl ?_
  refine me1 (pc' := 6) dm_X11_back_5 rfl rfl rfl rfl ?_
  refine me3 (pc' := 9) dm_X11_back_6 (g_get (v := .ref 15) (lu (n := 2) (j := 0) hn rfl) rfl rfl (Nat.le_of_ble_eq_true rfl)) rfl rfl rfl ?_
  refine me3 (pc' := 10) dm_X11_back_9 (g_len (v := (4 : Int32)) (lu (n := 2) (j := 13) hn rfl) rfl rfl (Nat.le_of_ble_eq_true rfl)) rfl rfl rfl ?_
  refine me_2f (pc' := 13) dm_X11_back_10 rfl (by decide) rfl ?_
  refine me1 (pc' := 14) dm_X11_back_13 rfl rfl rfl rfl ?_
  refine me3 (pc' := 17) dm_X11_back_14 (g_get (v := .ref 15) (lu (n := 2) (j := 0) hn rfl) rfl rfl (Nat.le_of_ble_eq_true rfl)) rfl rfl rfl ?_
  refine me1 (pc' := 18) dm_X11_back_17 rfl rfl rfl rfl ?_
  refine me3 (pc' := 19) dm_X11_back_18 (g_aald (v := .null) (lu (n := 2) (j := 13) hn rfl) rfl (by decide) rfl (Nat.le_of_ble_eq_true rfl)) rfl rfl rfl ?_
  refine me2 (pc' := 22) dm_X11_back_19 rfl rfl rfl ?_
  refine me0 (pc' := 23) (S' := .int (0 : Int32) :: _) dm_X11_back_22 rfl rfl rfl rfl ?_
  refine me5 dm_X11_back_23 rfl rfl rfl ?_
  exact k _ _ rfl (Nat.le_of_ble_eq_true rfl) (Nat.le_of_ble_eq_true rfl) (Nat.le_of_ble_eq_true rfl)
set_option maxRecDepth 100000 in
set_option maxHeartbeats 40000000 in
theorem c_back_v1 {xt : mj_X} {d : Nat} {h V : mj_H} (hn : h.length = 2) (hv : V.length = 25) {P : Option Value → mj_H → Prop}  (k : ∀ U D, U.length = 100 → mj_sl U ≤ 20000 → D.length ≤ 10 → mj_sl D ≤ 2000 → P (some (.int (0 : Int32))) (h ++ (U ++ (V ++ D)))) : pgE xt (d + 20) 11 2 false (Option.some FieldType.boolean) (mj_dec prog_1_method_16_code) 0 [(0, .ref 2), (1, .int (1 : Int32))] [] (h ++ (cT ++ (V ++ []))) P := by
  refine me1 (pc' := 1) dm_X11_back_0 rfl rfl rfl rfl ?_
  refine me_1f (pc' := 4) dm_X11_back_1 rfl (by decide) rfl ?_
  refine me1 (pc' := 5) dm_X11_back_4 rfl rfl rfl rfl ?_
  refine me1 (pc' := 6) dm_X11_back_5 rfl rfl rfl rfl ?_
  refine me3 (pc' := 9) dm_X11_back_6 (g_get (v := .ref 15) (lu (n := 2) (j := 0) hn rfl) rfl rfl (Nat.le_of_ble_eq_true rfl)) rfl rfl rfl ?_
  refine me3 (pc' := 10) dm_X11_back_9 (g_len (v := (4 : Int32)) (lu (n := 2) (j := 13) hn rfl) rfl rfl (Nat.le_of_ble_eq_true rfl)) rfl rfl rfl ?_
  refine me_2f (pc' := 13) dm_X11_back_10 rfl (by decide) rfl ?_
  refine me1 (pc' := 14) dm_X11_back_13 rfl rfl rfl rfl ?_
  refine me3 (pc' := 17) dm_X11_back_14 (g_get (v := .ref 15) (lu (n := 2) (j := 0) hn rfl) rfl rfl (Nat.le_of_ble_eq_true rfl)) rfl rfl rfl ?_
  refine me1 (pc' := 18) dm_X11_back_17 rfl rfl rfl rfl ?_
  refine me3 (pc' := 19) dm_X11_back_18 (g_aald (v := .null) (lu (n := 2) (j := 13) hn rfl) rfl (by decide) rfl (Nat.le_of_ble_eq_true rfl)) rfl rfl rfl ?_
  refine me2 (pc' := 22) dm_X11_back_19 rfl rfl rfl ?_
  refine me0 (pc' := 23) (S' := .int (0 : Int32) :: _) dm_X11_back_22 rfl rfl rfl rfl ?_
  refine me5 dm_X11_back_23 rfl rfl rfl ?_
  exact k _ _ rfl (Nat.le_of_ble_eq_true rfl) (Nat.le_of_ble_eq_true rfl) (Nat.le_of_ble_eq_true rfl)
set_option maxRecDepth 100000 in
set_option maxHeartbeats 40000000 in
theorem c_back_v2 {xt : mj_X} {d : Nat} {h V : mj_H} (hn : h.length = 2) (hv : V.length = 25) {P : Option Value → mj_H → Prop}  (k : ∀ U D, U.length = 100 → mj_sl U ≤ 20000 → D.length ≤ 10 → mj_sl D ≤ 2000 → P (some (.int (0 : Int32))) (h ++ (U ++ (V ++ D)))) : pgE xt (d + 20) 11 2 false (Option.some FieldType.boolean) (mj_dec prog_1_method_16_code) 0 [(0, .ref 2), (1, .int (2 : Int32))] [] (h ++ (cT ++ (V ++ []))) P := by
  refine me1 (pc' := 1) dm_X11_back_0 rfl rfl rfl rfl ?_
  refine me_1f (pc' := 4) dm_X11_back_1 rfl (by decide) rfl ?_
  refine me1 (pc' := 5) dm_X11_back_4 rfl rfl rfl rfl ?_
  refine me1 (pc' := 6) dm_X11_back_5 rfl rfl rfl rfl ?_
  refine me3 (pc' := 9) dm_X11_back_6 (g_get (v := .ref 15) (lu (n := 2) (j := 0) hn rfl) rfl rfl (Nat.le_of_ble_eq_true rfl)) rfl rfl rfl ?_
  refine me3 (pc' := 10) dm_X11_back_9 (g_len (v := (4 : Int32)) (lu (n := 2) (j := 13) hn rfl) rfl rfl (Nat.le_of_ble_eq_true rfl)) rfl rfl rfl ?_
  refine me_2f (pc' := 13) dm_X11_back_10 rfl (by decide) rfl ?_
  refine me1 (pc' := 14) dm_X11_back_13 rfl rfl rfl rfl ?_
  refine me3 (pc' := 17) dm_X11_back_14 (g_get (v := .ref 15) (lu (n := 2) (j := 0) hn rfl) rfl rfl (Nat.le_of_ble_eq_true rfl)) rfl rfl rfl ?_
  refine me1 (pc' := 18) dm_X11_back_17 rfl rfl rfl rfl ?_
  refine me3 (pc' := 19) dm_X11_back_18 (g_aald (v := .null) (lu (n := 2) (j := 13) hn rfl) rfl (by decide) rfl (Nat.le_of_ble_eq_true rfl)) rfl rfl rfl ?_
  refine me2 (pc' := 22) dm_X11_back_19 rfl rfl rfl ?_
  refine me0 (pc' := 23) (S' := .int (0 : Int32) :: _) dm_X11_back_22 rfl rfl rfl rfl ?_
  refine me5 dm_X11_back_23 rfl rfl rfl ?_
  exact k _ _ rfl (Nat.le_of_ble_eq_true rfl) (Nat.le_of_ble_eq_true rfl) (Nat.le_of_ble_eq_true rfl)
set_option maxRecDepth 100000 in
set_option maxHeartbeats 40000000 in
theorem c_back_v3 {xt : mj_X} {d : Nat} {h V : mj_H} (hn : h.length = 2) (hv : V.length = 25) {P : Option Value → mj_H → Prop}  (k : ∀ U D, U.length = 100 → mj_sl U ≤ 20000 → D.length ≤ 10 → mj_sl D ≤ 2000 → P (some (.int (0 : Int32))) (h ++ (U ++ (V ++ D)))) : pgE xt (d + 20) 11 2 false (Option.some FieldType.boolean) (mj_dec prog_1_method_16_code) 0 [(0, .ref 2), (1, .int (3 : Int32))] [] (h ++ (cT ++ (V ++ []))) P := by
  refine me1 (pc' := 1) dm_X11_back_0 rfl rfl rfl rfl ?_
  refine me_1f (pc' := 4) dm_X11_back_1 rfl (by decide) rfl ?_
  refine me1 (pc' := 5) dm_X11_back_4 rfl rfl rfl rfl ?_
  refine me1 (pc' := 6) dm_X11_back_5 rfl rfl rfl rfl ?_
  refine me3 (pc' := 9) dm_X11_back_6 (g_get (v := .ref 15) (lu (n := 2) (j := 0) hn rfl) rfl rfl (Nat.le_of_ble_eq_true rfl)) rfl rfl rfl ?_
  refine me3 (pc' := 10) dm_X11_back_9 (g_len (v := (4 : Int32)) (lu (n := 2) (j := 13) hn rfl) rfl rfl (Nat.le_of_ble_eq_true rfl)) rfl rfl rfl ?_
  refine me_2f (pc' := 13) dm_X11_back_10 rfl (by decide) rfl ?_
  refine me1 (pc' := 14) dm_X11_back_13 rfl rfl rfl rfl ?_
  refine me3 (pc' := 17) dm_X11_back_14 (g_get (v := .ref 15) (lu (n := 2) (j := 0) hn rfl) rfl rfl (Nat.le_of_ble_eq_true rfl)) rfl rfl rfl ?_
  refine me1 (pc' := 18) dm_X11_back_17 rfl rfl rfl rfl ?_
  refine me3 (pc' := 19) dm_X11_back_18 (g_aald (v := .null) (lu (n := 2) (j := 13) hn rfl) rfl (by decide) rfl (Nat.le_of_ble_eq_true rfl)) rfl rfl rfl ?_
  refine me2 (pc' := 22) dm_X11_back_19 rfl rfl rfl ?_
  refine me0 (pc' := 23) (S' := .int (0 : Int32) :: _) dm_X11_back_22 rfl rfl rfl rfl ?_
  refine me5 dm_X11_back_23 rfl rfl rfl ?_
  exact k _ _ rfl (Nat.le_of_ble_eq_true rfl) (Nat.le_of_ble_eq_true rfl) (Nat.le_of_ble_eq_true rfl)
set_option maxRecDepth 100000 in
set_option maxHeartbeats 40000000 in
theorem c_back_ge {xt : mj_X} {d : Nat} {h V : mj_H} (hn : h.length = 2) (hv : V.length = 25) {P : Option Value → mj_H → Prop} {p0 : Int32} (hl0 : 4 ≤ p0.toInt) (k : ∀ U D, U.length = 100 → mj_sl U ≤ 20000 → D.length ≤ 10 → mj_sl D ≤ 2000 → P (some (.int (0 : Int32))) (h ++ (U ++ (V ++ D)))) : pgE xt (d + 20) 11 2 false (Option.some FieldType.boolean) (mj_dec prog_1_method_16_code) 0 [(0, .ref 2), (1, .int p0)] [] (h ++ (cT ++ (V ++ []))) P := by
  refine me1 (pc' := 1) dm_X11_back_0 rfl rfl rfl rfl ?_
  refine me_1f (pc' := 4) dm_X11_back_1 rfl (cn_f_lt (c := 0) rfl (by omega)) rfl ?_
  refine me1 (pc' := 5) dm_X11_back_4 rfl rfl rfl rfl ?_
  refine me1 (pc' := 6) dm_X11_back_5 rfl rfl rfl rfl ?_
  refine me3 (pc' := 9) dm_X11_back_6 (g_get (v := .ref 15) (lu (n := 2) (j := 0) hn rfl) rfl rfl (Nat.le_of_ble_eq_true rfl)) rfl rfl rfl ?_
  refine me3 (pc' := 10) dm_X11_back_9 (g_len (v := (4 : Int32)) (lu (n := 2) (j := 13) hn rfl) rfl rfl (Nat.le_of_ble_eq_true rfl)) rfl rfl rfl ?_
  refine me_2t (pc' := 22) dm_X11_back_10 rfl (cn_t_ge (c := 4) rfl (by omega)) ?_
  refine me0 (pc' := 23) (S' := .int (0 : Int32) :: _) dm_X11_back_22 rfl rfl rfl rfl ?_
  refine me5 dm_X11_back_23 rfl rfl rfl ?_
  exact k _ _ rfl (Nat.le_of_ble_eq_true rfl) (Nat.le_of_ble_eq_true rfl) (Nat.le_of_ble_eq_true rfl)
