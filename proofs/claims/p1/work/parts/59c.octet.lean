set_option maxRecDepth 100000 in
set_option maxHeartbeats 40000000 in
theorem c_octet_lt {xt : mj_X} {d : Nat} {h V : mj_H} (hn : h.length = 2) (hv : V.length = 25) {P : Option Value → mj_H → Prop} {p0 : Int32} (hh0 : p0.toInt ≤ -1) (k : ∀ U D, U.length = 100 → mj_sl U ≤ 20000 → D.length ≤ 10 → mj_sl D ≤ 2000 → P (some (.int (-1 : Int32))) (h ++ (U ++ (V ++ D)))) : pgE xt (d + 20) 11 2 false (Option.some FieldType.int) (mj_dec prog_1_method_14_code) 0 [(0, .ref 2), (1, .int p0)] [] (h ++ (cT ++ (V ++ []))) P := by
  refine me1 (pc' := 1) dm_X11_octet_0 rfl rfl rfl rfl ?_
  refine me3 (pc' := 4) dm_X11_octet_1 (g_get (v := .ref 98) (lu (n := 2) (j := 0) hn rfl) rfl rfl (Nat.le_of_ble_eq_true rfl)) rfl rfl rfl ?_
  refine me1 (pc' := 5) dm_X11_octet_4 rfl rfl rfl rfl ?_
  refine me4 (pc' := 8) (L0 := [(0, .ref 98), (1, .int p0)]) dm_X11_octet_5 rfl (g_inv (As := [.int p0]) (lu (n := 2) (j := 96) hn rfl) rfl rfl rfl (Nat.le_of_ble_eq_true rfl)) pm_X6_byteAt rfl (Nat.le_of_ble_eq_true rfl) rfl rfl rfl ?_
  refine me1 (pc' := 1) dm_X6_byteAt_0 rfl rfl rfl rfl ?_
  refine me_1t (pc' := 21) dm_X6_byteAt_1 rfl (cn_t_lt (c := 0) rfl (by omega)) ?_
  refine me0 (pc' := 22) (S' := .int (-1 : Int32) :: _) dm_X6_byteAt_21 rfl rfl rfl rfl ?_
  refine me5 dm_X6_byteAt_22 rfl rfl rfl ?_
  refine me5 dm_X11_octet_8 rfl rfl rfl ?_
  exact k _ _ rfl (Nat.le_of_ble_eq_true rfl) (Nat.le_of_ble_eq_true rfl) (Nat.le_of_ble_eq_true rfl)
set_option maxRecDepth 100000 in
set_option maxHeartbeats 40000000 in
theorem c_octet_ge {xt : mj_X} {d : Nat} {h V : mj_H} (hn : h.length = 2) (hv : V.length = 25) {P : Option Value → mj_H → Prop} {p0 : Int32} (hl0 : 0 ≤ p0.toInt) (k : ∀ U D, U.length = 100 → mj_sl U ≤ 20000 → D.length ≤ 10 → mj_sl D ≤ 2000 → P (some (.int (-1 : Int32))) (h ++ (U ++ (V ++ D)))) : pgE xt (d + 20) 11 2 false (Option.some FieldType.int) (mj_dec prog_1_method_14_code) 0 [(0, .ref 2), (1, .int p0)] [] (h ++ (cT ++ (V ++ []))) P := by
  refine me1 (pc' := 1) dm_X11_octet_0 rfl rfl rfl rfl ?_
  refine me3 (pc' := 4) dm_X11_octet_1 (g_get (v := .ref 98) (lu (n := 2) (j := 0) hn rfl) rfl rfl (Nat.le_of_ble_eq_true rfl)) rfl rfl rfl ?_
  refine me1 (pc' := 5) dm_X11_octet_4 rfl rfl rfl rfl ?_
  refine me4 (pc' := 8) (L0 := [(0, .ref 98), (1, .int p0)]) dm_X11_octet_5 rfl (g_inv (As := [.int p0]) (lu (n := 2) (j := 96) hn rfl) rfl rfl rfl (Nat.le_of_ble_eq_true rfl)) pm_X6_byteAt rfl (Nat.le_of_ble_eq_true rfl) rfl rfl rfl ?_
  refine me1 (pc' := 1) dm_X6_byteAt_0 rfl rfl rfl rfl ?_
  refine me_1f (pc' := 4) dm_X6_byteAt_1 rfl (cn_f_lt (c := 0) rfl (by omega)) rfl ?_
  refine me1 (pc' := 5) dm_X6_byteAt_4 rfl rfl rfl rfl ?_
  refine me1 (pc' := 6) dm_X6_byteAt_5 rfl rfl rfl rfl ?_
  refine me3 (pc' := 9) dm_X6_byteAt_6 (g_get (v := .int (0 : Int32)) (lu (n := 2) (j := 96) hn rfl) rfl rfl (Nat.le_of_ble_eq_true rfl)) rfl rfl rfl ?_
  refine me_2t (pc' := 21) dm_X6_byteAt_9 rfl (cn_t_ge (c := 0) rfl (by omega)) ?_
  refine me0 (pc' := 22) (S' := .int (-1 : Int32) :: _) dm_X6_byteAt_21 rfl rfl rfl rfl ?_
  refine me5 dm_X6_byteAt_22 rfl rfl rfl ?_
  refine me5 dm_X11_octet_8 rfl rfl rfl ?_
  exact k _ _ rfl (Nat.le_of_ble_eq_true rfl) (Nat.le_of_ble_eq_true rfl) (Nat.le_of_ble_eq_true rfl)
