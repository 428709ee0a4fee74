set_option maxRecDepth 100000 in
set_option maxHeartbeats 40000000 in
theorem c_item_lt {xt : mj_X} {d : Nat} {h V : mj_H} (hn : h.length = 2) (hv : V.length = 25) {P : Option Value → mj_H → Prop} {p0 : Int32} (hh0 : p0.toInt ≤ -1) (k : ∀ U D, U.length = 100 → mj_sl U ≤ 20000 → D.length ≤ 10 → mj_sl D ≤ 2000 → P (some (.long (0 : Int64))) (h ++ (U ++ (V ++ D)))) : pgE xt (d + 20) 11 2 false (Option.some FieldType.long) (mj_dec prog_1_method_12_code) 0 [(0, .ref 2), (1, .int p0)] [] (h ++ (cT ++ (V ++ []))) P := by
  refine me1 (pc' := 1) dm_X11_item_0 rfl rfl rfl rfl ?_
  refine me3 (pc' := 4) dm_X11_item_1 (g_get (v := .ref 101) (lu (n := 2) (j := 0) hn rfl) rfl rfl (Nat.le_of_ble_eq_true rfl)) rfl rfl rfl ?_
  refine me4 (pc' := 7) (L0 := [(0, .ref 101)]) dm_X11_item_4 rfl (g_inv (As := []) (lu (n := 2) (j := 99) hn rfl) rfl rfl rfl (Nat.le_of_ble_eq_true rfl)) pm_X10_isOne rfl (Nat.le_of_ble_eq_true rfl) rfl rfl rfl ?_
  refine me1 (pc' := 1) dm_X10_isOne_0 rfl rfl rfl rfl ?_
  refine me3 (pc' := 4) dm_X10_isOne_1 (g_get (v := .int (0 : Int32)) (lu (n := 2) (j := 99) hn rfl) rfl rfl (Nat.le_of_ble_eq_true rfl)) rfl rfl rfl ?_
  refine me_1t (pc' := 15) dm_X10_isOne_4 rfl rfl ?_
  refine me0 (pc' := 16) (S' := .int (1 : Int32) :: _) dm_X10_isOne_15 rfl rfl rfl rfl ?_
  refine me2 (pc' := 20) dm_X10_isOne_16 rfl rfl rfl ?_
  refine me5 dm_X10_isOne_20 rfl rfl rfl ?_
  refine me_1f (pc' := 10) dm_X11_item_7 rfl (by decide) rfl ?_
  refine me1 (pc' := 11) dm_X11_item_10 rfl rfl rfl rfl ?_
  refine me_1t (pc' := 24) dm_X11_item_11 rfl (cn_t_ne (c := 0) rfl (by omega)) ?_
  refine me0 (pc' := 25) (S' := .long (0 : Int64) :: _) dm_X11_item_24 rfl rfl rfl rfl ?_
  refine me5 dm_X11_item_25 rfl rfl rfl ?_
  exact k _ _ rfl (Nat.le_of_ble_eq_true rfl) (Nat.le_of_ble_eq_true rfl) (Nat.le_of_ble_eq_true rfl)
set_option maxRecDepth 100000 in
set_option maxHeartbeats 40000000 in
theorem c_item_v0 {xt : mj_X} {d : Nat} {h V : mj_H} (hn : h.length = 2) (hv : V.length = 25) {P : Option Value → mj_H → Prop}  (k : ∀ U D, U.length = 100 → mj_sl U ≤ 20000 → D.length ≤ 10 → mj_sl D ≤ 2000 → P (some (.long (0 : Int64))) (h ++ (U ++ (V ++ D)))) : pgE xt (d + 20) 11 2 false (Option.some FieldType.long) (mj_dec prog_1_method_12_code) 0 [(0, .ref 2), (1, .int (0 : Int32))] [] (h ++ (cT ++ (V ++ []))) P := by
  refine me1 (pc' := 1) dm_X11_item_0 rfl rfl rfl rfl ?_
  refine me3 (pc' := 4) dm_X11_item_1 (g_get (v := .ref 101) (lu (n := 2) (j := 0) hn rfl) rfl rfl (Nat.le_of_ble_eq_true rfl)) rfl rfl rfl ?_
  refine me4 (pc' := 7) (L0 := [(0, .ref 101)]) dm_X11_item_4 rfl (g_inv (As := []) (lu (n := 2) (j := 99) hn rfl) rfl rfl rfl (Nat.le_of_ble_eq_true rfl)) pm_X10_isOne rfl (Nat.le_of_ble_eq_true rfl) rfl rfl rfl ?_
  refine me1 (pc' := 1) dm_X10_isOne_0 rfl rfl rfl rfl ?_
  refine me3 (pc' := 4) dm_X10_isOne_1 (g_get (v := .int (0 : Int32)) (lu (n := 2) (j := 99) hn rfl) rfl rfl (Nat.le_of_ble_eq_true rfl)) rfl rfl rfl ?_
  refine me_1t (pc' := 15) dm_X10_isOne_4 rfl rfl ?_
  refine me0 (pc' := 16) (S' := .int (1 : Int32) :: _) dm_X10_isOne_15 rfl rfl rfl rfl ?_
  refine me2 (pc' := 20) dm_X10_isOne_16 rfl rfl rfl ?_
  refine me5 dm_X10_isOne_20 rfl rfl rfl ?_
  refine me_1f (pc' := 10) dm_X11_item_7 rfl (by decide) rfl ?_
  refine me1 (pc' := 11) dm_X11_item_10 rfl rfl rfl rfl ?_
  refine me_1f (pc' := 14) dm_X11_item_11 rfl (by decide) rfl ?_
  refine me1 (pc' := 15) dm_X11_item_14 rfl rfl rfl rfl ?_
  refine me3 (pc' := 18) dm_X11_item_15 (g_get (v := .ref 101) (lu (n := 2) (j := 0) hn rfl) rfl rfl (Nat.le_of_ble_eq_true rfl)) rfl rfl rfl ?_
  refine me3 (pc' := 21) dm_X11_item_18 (g_get (v := .long (0 : Int64)) (lu (n := 2) (j := 99) hn rfl) rfl rfl (Nat.le_of_ble_eq_true rfl)) rfl rfl rfl ?_
  refine me2 (pc' := 25) dm_X11_item_21 rfl rfl rfl ?_
  refine me5 dm_X11_item_25 rfl rfl rfl ?_
  exact k _ _ rfl (Nat.le_of_ble_eq_true rfl) (Nat.le_of_ble_eq_true rfl) (Nat.le_of_ble_eq_true rfl)
set_option maxRecDepth 100000 in
set_option maxHeartbeats 40000000 in
theorem c_item_ge {xt : mj_X} {d : Nat} {h V : mj_H} (hn : h.length = 2) (hv : V.length = 25) {P : Option Value → mj_H → Prop} {p0 : Int32} (hl0 : 1 ≤ p0.toInt) (k : ∀ U D, U.length = 100 → mj_sl U ≤ 20000 → D.length ≤ 10 → mj_sl D ≤ 2000 → P (some (.long (0 : Int64))) (h ++ (U ++ (V ++ D)))) : pgE xt (d + 20) 11 2 false (Option.some FieldType.long) (mj_dec prog_1_method_12_code) 0 [(0, .ref 2), (1, .int p0)] [] (h ++ (cT ++ (V ++ []))) P := by
  refine me1 (pc' := 1) dm_X11_item_0 rfl rfl rfl rfl ?_
  refine me3 (pc' := 4) dm_X11_item_1 (g_get (v := .ref 101) (lu (n := 2) (j := 0) hn rfl) rfl rfl (Nat.le_of_ble_eq_true rfl)) rfl rfl rfl ?_
  refine me4 (pc' := 7) (L0 := [(0, .ref 101)]) dm_X11_item_4 rfl (g_inv (As := []) (lu (n := 2) (j := 99) hn rfl) rfl rfl rfl (Nat.le_of_ble_eq_true rfl)) pm_X10_isOne rfl (Nat.le_of_ble_eq_true rfl) rfl rfl rfl ?_
  refine me1 (pc' := 1) dm_X10_isOne_0 rfl rfl rfl rfl ?_
  refine me3 (pc' := 4) dm_X10_isOne_1 (g_get (v := .int (0 : Int32)) (lu (n := 2) (j := 99) hn rfl) rfl rfl (Nat.le_of_ble_eq_true rfl)) rfl rfl rfl ?_
  refine me_1t (pc' := 15) dm_X10_isOne_4 rfl rfl ?_
  refine me0 (pc' := 16) (S' := .int (1 : Int32) :: _) dm_X10_isOne_15 rfl rfl rfl rfl ?_
  refine me2 (pc' := 20) dm_X10_isOne_16 rfl rfl rfl ?_
  refine me5 dm_X10_isOne_20 rfl rfl rfl ?_
  refine me_1f (pc' := 10) dm_X11_item_7 rfl (by decide) rfl ?_
  refine me1 (pc' := 11) dm_X11_item_10 rfl rfl rfl rfl ?_
  refine me_1t (pc' := 24) dm_X11_item_11 rfl (cn_t_ne (c := 0) rfl (by omega)) ?_
  refine me0 (pc' := 25) (S' := .long (0 : Int64) :: _) dm_X11_item_24 rfl rfl rfl rfl ?_
  refine me5 dm_X11_item_25 rfl rfl rfl ?_
  exact k _ _ rfl (Nat.le_of_ble_eq_true rfl) (Nat.le_of_ble_eq_true rfl) (Nat.le_of_ble_eq_true rfl)
