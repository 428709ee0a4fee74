set_option maxRecDepth 100000 in
set_option maxHeartbeats 40000000 in
theorem c_point_lt_lt {xt : mj_X} {d : Nat} {h V : mj_H} (hn : h.length = 2) (hv : V.length = 25) {P : Option Value → mj_H → Prop} {p0 : Int32} {p1 : Int32} (hh0 : p0.toInt ≤ -1) (hh1 : p1.toInt ≤ -1) (k : ∀ U D, U.length = 100 → mj_sl U ≤ 20000 → D.length ≤ 10 → mj_sl D ≤ 2000 → P (some (.int (0 : Int32))) (h ++ (U ++ (V ++ D)))) : pgE xt (d + 20) 11 4 false (Option.some FieldType.boolean) (mj_dec prog_1_method_9_code) 0 [(0, .ref 2), (1, .int p0), (2, .int p1)] [] (h ++ (cT ++ (V ++ []))) P := by
  refine me0 (pc' := 1) dm_X11_point_0 rfl rfl rfl rfl ?_
  refine me1 (pc' := 2) (L' := [(3, .null), (0, .ref 2), (1, .int p0), (2, .int p1)]) dm_X11_point_1 rfl rfl rfl rfl ?_
  refine me1 (pc' := 3) dm_X11_point_2 rfl rfl rfl rfl ?_
  refine me_1t (pc' := 14) dm_X11_point_3 rfl (cn_t_ne (c := 0) rfl (by omega)) ?_
  refine me1 (pc' := 15) dm_X11_point_14 rfl rfl rfl rfl ?_
  refine me0 (pc' := 16) (S' := .int (1 : Int32) :: _) dm_X11_point_15 rfl rfl rfl rfl ?_
  refine me_2t (pc' := 31) dm_X11_point_16 rfl (cn_t_ne (c := 1) rfl (by omega)) ?_
  refine me1 (pc' := 32) dm_X11_point_31 rfl rfl rfl rfl ?_
  refine me0 (pc' := 33) (S' := .int (2 : Int32) :: _) dm_X11_point_32 rfl rfl rfl rfl ?_
  refine me_2t (pc' := 84) dm_X11_point_33 rfl (cn_t_ne (c := 2) rfl (by omega)) ?_
  refine me1 (pc' := 85) dm_X11_point_84 rfl rfl rfl rfl ?_
  refine me2 (pc' := 88) dm_X11_point_85 rfl rfl rfl ?_
  refine me0 (pc' := 89) (S' := .int (0 : Int32) :: _) dm_X11_point_88 rfl rfl rfl rfl ?_
  refine me5 dm_X11_point_89 rfl rfl rfl ?_
  exact k _ _ rfl (Nat.le_of_ble_eq_true rfl) (Nat.le_of_ble_eq_true rfl) (Nat.le_of_ble_eq_true rfl)
set_option maxRecDepth 100000 in
set_option maxHeartbeats 40000000 in
theorem c_point_lt_ge {xt : mj_X} {d : Nat} {h V : mj_H} (hn : h.length = 2) (hv : V.length = 25) {P : Option Value → mj_H → Prop} {p0 : Int32} {p1 : Int32} (hh0 : p0.toInt ≤ -1) (hl1 : 0 ≤ p1.toInt) (k : ∀ U D, U.length = 100 → mj_sl U ≤ 20000 → D.length ≤ 10 → mj_sl D ≤ 2000 → P (some (.int (0 : Int32))) (h ++ (U ++ (V ++ D)))) : pgE xt (d + 20) 11 4 false (Option.some FieldType.boolean) (mj_dec prog_1_method_9_code) 0 [(0, .ref 2), (1, .int p0), (2, .int p1)] [] (h ++ (cT ++ (V ++ []))) P := by
  refine me0 (pc' := 1) dm_X11_point_0 rfl rfl rfl rfl ?_
  refine me1 (pc' := 2) (L' := [(3, .null), (0, .ref 2), (1, .int p0), (2, .int p1)]) dm_X11_point_1 rfl rfl rfl rfl ?_
  refine me1 (pc' := 3) dm_X11_point_2 rfl rfl rfl rfl ?_
  refine me_1t (pc' := 14) dm_X11_point_3 rfl (cn_t_ne (c := 0) rfl (by omega)) ?_
  refine me1 (pc' := 15) dm_X11_point_14 rfl rfl rfl rfl ?_
  refine me0 (pc' := 16) (S' := .int (1 : Int32) :: _) dm_X11_point_15 rfl rfl rfl rfl ?_
  refine me_2t (pc' := 31) dm_X11_point_16 rfl (cn_t_ne (c := 1) rfl (by omega)) ?_
  refine me1 (pc' := 32) dm_X11_point_31 rfl rfl rfl rfl ?_
  refine me0 (pc' := 33) (S' := .int (2 : Int32) :: _) dm_X11_point_32 rfl rfl rfl rfl ?_
  refine me_2t (pc' := 84) dm_X11_point_33 rfl (cn_t_ne (c := 2) rfl (by omega)) ?_
  refine me1 (pc' := 85) dm_X11_point_84 rfl rfl rfl rfl ?_
  refine me2 (pc' := 88) dm_X11_point_85 rfl rfl rfl ?_
  refine me0 (pc' := 89) (S' := .int (0 : Int32) :: _) dm_X11_point_88 rfl rfl rfl rfl ?_
  refine me5 dm_X11_point_89 rfl rfl rfl ?_
  exact k _ _ rfl (Nat.le_of_ble_eq_true rfl) (Nat.le_of_ble_eq_true rfl) (Nat.le_of_ble_eq_true rfl)
set_option maxRecDepth 100000 in
set_option maxHeartbeats 40000000 in
theorem c_point_v0_lt {xt : mj_X} {d : Nat} {h V : mj_H} (hn : h.length = 2) (hv : V.length = 25) {P : Option Value → mj_H → Prop} {p1 : Int32} (hh1 : p1.toInt ≤ -1) (k : ∀ U D, U.length = 100 → mj_sl U ≤ 20000 → D.length ≤ 10 → mj_sl D ≤ 2000 → P (some (.int (1 : Int32))) (h ++ (U ++ (V ++ D)))) : pgE xt (d + 20) 11 4 false (Option.some FieldType.boolean) (mj_dec prog_1_method_9_code) 0 [(0, .ref 2), (1, .int (0 : Int32)), (2, .int p1)] [] (h ++ (cT ++ (V ++ []))) P := by
  refine me0 (pc' := 1) dm_X11_point_0 rfl rfl rfl rfl ?_
  refine me1 (pc' := 2) (L' := [(3, .null), (0, .ref 2), (1, .int (0 : Int32)), (2, .int p1)]) dm_X11_point_1 rfl rfl rfl rfl ?_
  refine me1 (pc' := 3) dm_X11_point_2 rfl rfl rfl rfl ?_
  refine me_1f (pc' := 6) dm_X11_point_3 rfl (by decide) rfl ?_
  refine me1 (pc' := 7) dm_X11_point_6 rfl rfl rfl rfl ?_
  refine me3 (pc' := 10) dm_X11_point_7 (g_get (v := .ref 101) (lu (n := 2) (j := 0) hn rfl) rfl rfl (Nat.le_of_ble_eq_true rfl)) rfl rfl rfl ?_
  refine me1 (pc' := 11) (L' := [(3, .ref 101), (0, .ref 2), (1, .int (0 : Int32)), (2, .int p1)]) dm_X11_point_10 rfl rfl rfl rfl ?_
  refine me2 (pc' := 84) dm_X11_point_11 rfl rfl rfl ?_
  refine me1 (pc' := 85) dm_X11_point_84 rfl rfl rfl rfl ?_
  refine me2 (pc' := 90) dm_X11_point_85 rfl rfl rfl ?_
  refine me1 (pc' := 91) dm_X11_point_90 rfl rfl rfl rfl ?_
  refine me1 (pc' := 92) dm_X11_point_91 rfl rfl rfl rfl ?_
  refine me3 (pc' := 95) dm_X11_point_92 (u_put (fs' := [.ref 3, .int (0 : Int32), .ref 4, .ref 9, .ref 13, .ref 15, .ref 16, .ref 98, .ref 101, .ref 101, .int (0 : Int32), .int (-1 : Int32), .int (0 : Int32)]) (n := 2) (j := 0) hn rfl rfl rfl (Nat.le_of_ble_eq_true rfl) rfl (by decide) (fun z => by cases z) rfl (Nat.le_of_ble_eq_true rfl)) rfl rfl rfl ?_
  refine me0 (pc' := 96) (S' := .int (1 : Int32) :: _) dm_X11_point_95 rfl rfl rfl rfl ?_
  refine me5 dm_X11_point_96 rfl rfl rfl ?_
  exact k _ _ rfl (Nat.le_of_ble_eq_true rfl) (Nat.le_of_ble_eq_true rfl) (Nat.le_of_ble_eq_true rfl)
set_option maxRecDepth 100000 in
set_option maxHeartbeats 40000000 in
theorem c_point_v0_ge {xt : mj_X} {d : Nat} {h V : mj_H} (hn : h.length = 2) (hv : V.length = 25) {P : Option Value → mj_H → Prop} {p1 : Int32} (hl1 : 0 ≤ p1.toInt) (k : ∀ U D, U.length = 100 → mj_sl U ≤ 20000 → D.length ≤ 10 → mj_sl D ≤ 2000 → P (some (.int (1 : Int32))) (h ++ (U ++ (V ++ D)))) : pgE xt (d + 20) 11 4 false (Option.some FieldType.boolean) (mj_dec prog_1_method_9_code) 0 [(0, .ref 2), (1, .int (0 : Int32)), (2, .int p1)] [] (h ++ (cT ++ (V ++ []))) P := by
  refine me0 (pc' := 1) dm_X11_point_0 rfl rfl rfl rfl ?_
  refine me1 (pc' := 2) (L' := [(3, .null), (0, .ref 2), (1, .int (0 : Int32)), (2, .int p1)]) dm_X11_point_1 rfl rfl rfl rfl ?_
  refine me1 (pc' := 3) dm_X11_point_2 rfl rfl rfl rfl ?_
  refine me_1f (pc' := 6) dm_X11_point_3 rfl (by decide) rfl ?_
  refine me1 (pc' := 7) dm_X11_point_6 rfl rfl rfl rfl ?_
  refine me3 (pc' := 10) dm_X11_point_7 (g_get (v := .ref 101) (lu (n := 2) (j := 0) hn rfl) rfl rfl (Nat.le_of_ble_eq_true rfl)) rfl rfl rfl ?_
  refine me1 (pc' := 11) (L' := [(3, .ref 101), (0, .ref 2), (1, .int (0 : Int32)), (2, .int p1)]) dm_X11_point_10 rfl rfl rfl rfl ?_
  refine me2 (pc' := 84) dm_X11_point_11 rfl rfl rfl ?_
  refine me1 (pc' := 85) dm_X11_point_84 rfl rfl rfl rfl ?_
  refine me2 (pc' := 90) dm_X11_point_85 rfl rfl rfl ?_
  refine me1 (pc' := 91) dm_X11_point_90 rfl rfl rfl rfl ?_
  refine me1 (pc' := 92) dm_X11_point_91 rfl rfl rfl rfl ?_
  refine me3 (pc' := 95) dm_X11_point_92 (u_put (fs' := [.ref 3, .int (0 : Int32), .ref 4, .ref 9, .ref 13, .ref 15, .ref 16, .ref 98, .ref 101, .ref 101, .int (0 : Int32), .int (-1 : Int32), .int (0 : Int32)]) (n := 2) (j := 0) hn rfl rfl rfl (Nat.le_of_ble_eq_true rfl) rfl (by decide) (fun z => by cases z) rfl (Nat.le_of_ble_eq_true rfl)) rfl rfl rfl ?_
  refine me0 (pc' := 96) (S' := .int (1 : Int32) :: _) dm_X11_point_95 rfl rfl rfl rfl ?_
  refine me5 dm_X11_point_96 rfl rfl rfl ?_
  exact k _ _ rfl (Nat.le_of_ble_eq_true rfl) (Nat.le_of_ble_eq_true rfl) (Nat.le_of_ble_eq_true rfl)
set_option maxRecDepth 100000 in
set_option maxHeartbeats 40000000 in
theorem c_point_v1_lt {xt : mj_X} {d : Nat} {h V : mj_H} (hn : h.length = 2) (hv : V.length = 25) {P : Option Value → mj_H → Prop} {p1 : Int32} (hh1 : p1.toInt ≤ -1) (k : ∀ U D, U.length = 100 → mj_sl U ≤ 20000 → D.length ≤ 10 → mj_sl D ≤ 2000 → P (some (.int (0 : Int32))) (h ++ (U ++ (V ++ D)))) : pgE xt (d + 20) 11 4 false (Option.some FieldType.boolean) (mj_dec prog_1_method_9_code) 0 [(0, .ref 2), (1, .int (1 : Int32)), (2, .int p1)] [] (h ++ (cT ++ (V ++ []))) P := by
  refine me0 (pc' := 1) dm_X11_point_0 rfl rfl rfl rfl ?_
  refine me1 (pc' := 2) (L' := [(3, .null), (0, .ref 2), (1, .int (1 : Int32)), (2, .int p1)]) dm_X11_point_1 rfl rfl rfl rfl ?_
  refine me1 (pc' := 3) dm_X11_point_2 rfl rfl rfl rfl ?_
  refine me_1t (pc' := 14) dm_X11_point_3 rfl rfl ?_
  refine me1 (pc' := 15) dm_X11_point_14 rfl rfl rfl rfl ?_
  refine me0 (pc' := 16) (S' := .int (1 : Int32) :: _) dm_X11_point_15 rfl rfl rfl rfl ?_
  refine me_2f (pc' := 19) dm_X11_point_16 rfl (by decide) rfl ?_
  refine me1 (pc' := 20) dm_X11_point_19 rfl rfl rfl rfl ?_
  refine me3 (pc' := 23) dm_X11_point_20 (g_get (v := .ref 4) (lu (n := 2) (j := 0) hn rfl) rfl rfl (Nat.le_of_ble_eq_true rfl)) rfl rfl rfl ?_
  refine me1 (pc' := 24) dm_X11_point_23 rfl rfl rfl rfl ?_
  refine me4 (pc' := 27) (L0 := [(0, .ref 4), (1, .int p1)]) dm_X11_point_24 rfl (g_inv (As := [.int p1]) (lu (n := 2) (j := 2) hn rfl) rfl rfl rfl (Nat.le_of_ble_eq_true rfl)) pm_X2_valueAt rfl (Nat.le_of_ble_eq_true rfl) rfl rfl rfl ?_
  refine me1 (pc' := 1) dm_X2_valueAt_0 rfl rfl rfl rfl ?_
  refine me_1t (pc' := 21) dm_X2_valueAt_1 rfl (cn_t_lt (c := 0) rfl (by omega)) ?_
  refine me0 (pc' := 22) dm_X2_valueAt_21 rfl rfl rfl rfl ?_
  refine me5 dm_X2_valueAt_22 rfl rfl rfl ?_
  refine me1 (pc' := 28) (L' := [(3, .null), (0, .ref 2), (1, .int (1 : Int32)), (2, .int p1)]) dm_X11_point_27 rfl rfl rfl rfl ?_
  refine me2 (pc' := 84) dm_X11_point_28 rfl rfl rfl ?_
  refine me1 (pc' := 85) dm_X11_point_84 rfl rfl rfl rfl ?_
  refine me2 (pc' := 88) dm_X11_point_85 rfl rfl rfl ?_
  refine me0 (pc' := 89) (S' := .int (0 : Int32) :: _) dm_X11_point_88 rfl rfl rfl rfl ?_
  refine me5 dm_X11_point_89 rfl rfl rfl ?_
  exact k _ _ rfl (Nat.le_of_ble_eq_true rfl) (Nat.le_of_ble_eq_true rfl) (Nat.le_of_ble_eq_true rfl)
set_option maxRecDepth 100000 in
set_option maxHeartbeats 40000000 in
theorem c_point_v1_ge {xt : mj_X} {d : Nat} {h V : mj_H} (hn : h.length = 2) (hv : V.length = 25) {P : Option Value → mj_H → Prop} {p1 : Int32} (hl1 : 0 ≤ p1.toInt) (k : ∀ U D, U.length = 100 → mj_sl U ≤ 20000 → D.length ≤ 10 → mj_sl D ≤ 2000 → P (some (.int (0 : Int32))) (h ++ (U ++ (V ++ D)))) : pgE xt (d + 20) 11 4 false (Option.some FieldType.boolean) (mj_dec prog_1_method_9_code) 0 [(0, .ref 2), (1, .int (1 : Int32)), (2, .int p1)] [] (h ++ (cT ++ (V ++ []))) P := by
  refine me0 (pc' := 1) dm_X11_point_0 rfl rfl rfl rfl ?_
  refine me1 (pc' := 2) (L' := [(3, .null), (0, .ref 2), (1, .int (1 : Int32)), (2, .int p1)]) dm_X11_point_1 rfl rfl rfl rfl ?_
  refine me1 (pc' := 3) dm_X11_point_2 rfl rfl rfl rfl ?_
  refine me_1t (pc' := 14) dm_X11_point_3 rfl rfl ?_
  refine me1 (pc' := 15) dm_X11_point_14 rfl rfl rfl rfl ?_
  refine me0 (pc' := 16) (S' := .int (1 : Int32) :: _) dm_X11_point_15 rfl rfl rfl rfl ?_
  refine me_2f (pc' := 19) dm_X11_point_16 rfl (by decide) rfl ?_
  refine me1 (pc' := 20) dm_X11_point_19 rfl rfl rfl rfl ?_
  refine me3 (pc' := 23) dm_X11_point_20 (g_get (v := .ref 4) (lu (n := 2) (j := 0) hn rfl) rfl rfl (Nat.le_of_ble_eq_true rfl)) rfl rfl rfl ?_
  refine me1 (pc' := 24) dm_X11_point_23 rfl rfl rfl rfl ?_
  refine me4 (pc' := 27) (L0 := [(0, .ref 4), (1, .int p1)]) dm_X11_point_24 rfl (g_inv (As := [.int p1]) (lu (n := 2) (j := 2) hn rfl) rfl rfl rfl (Nat.le_of_ble_eq_true rfl)) pm_X2_valueAt rfl (Nat.le_of_ble_eq_true rfl) rfl rfl rfl ?_
  refine me1 (pc' := 1) dm_X2_valueAt_0 rfl rfl rfl rfl ?_
  refine me_1f (pc' := 4) dm_X2_valueAt_1 rfl (cn_f_lt (c := 0) rfl (by omega)) rfl ?_
  refine me1 (pc' := 5) dm_X2_valueAt_4 rfl rfl rfl rfl ?_
  refine me1 (pc' := 6) dm_X2_valueAt_5 rfl rfl rfl rfl ?_
  refine me3 (pc' := 9) dm_X2_valueAt_6 (g_get (v := .int (0 : Int32)) (lu (n := 2) (j := 2) hn rfl) rfl rfl (Nat.le_of_ble_eq_true rfl)) rfl rfl rfl ?_
  refine me_2t (pc' := 21) dm_X2_valueAt_9 rfl (cn_t_ge (c := 0) rfl (by omega)) ?_
  refine me0 (pc' := 22) dm_X2_valueAt_21 rfl rfl rfl rfl ?_
  refine me5 dm_X2_valueAt_22 rfl rfl rfl ?_
  refine me1 (pc' := 28) (L' := [(3, .null), (0, .ref 2), (1, .int (1 : Int32)), (2, .int p1)]) dm_X11_point_27 rfl rfl rfl rfl ?_
  refine me2 (pc' := 84) dm_X11_point_28 rfl rfl rfl ?_
  refine me1 (pc' := 85) dm_X11_point_84 rfl rfl rfl rfl ?_
  refine me2 (pc' := 88) dm_X11_point_85 rfl rfl rfl ?_
  refine me0 (pc' := 89) (S' := .int (0 : Int32) :: _) dm_X11_point_88 rfl rfl rfl rfl ?_
  refine me5 dm_X11_point_89 rfl rfl rfl ?_
  exact k _ _ rfl (Nat.le_of_ble_eq_true rfl) (Nat.le_of_ble_eq_true rfl) (Nat.le_of_ble_eq_true rfl)
set_option maxRecDepth 100000 in
set_option maxHeartbeats 40000000 in
theorem c_point_v2_lt {xt : mj_X} {d : Nat} {h V : mj_H} (hn : h.length = 2) (hv : V.length = 25) {P : Option Value → mj_H → Prop} {p1 : Int32} (hh1 : p1.toInt ≤ -1) (k : ∀ U D, U.length = 100 → mj_sl U ≤ 20000 → D.length ≤ 10 → mj_sl D ≤ 2000 → P (some (.int (0 : Int32))) (h ++ (U ++ (V ++ D)))) : pgE xt (d + 20) 11 4 false (Option.some FieldType.boolean) (mj_dec prog_1_method_9_code) 0 [(0, .ref 2), (1, .int (2 : Int32)), (2, .int p1)] [] (h ++ (cT ++ (V ++ []))) P := by
  refine me0 (pc' := 1) dm_X11_point_0 rfl rfl rfl rfl ?_
  refine me1 (pc' := 2) (L' := [(3, .null), (0, .ref 2), (1, .int (2 : Int32)), (2, .int p1)]) dm_X11_point_1 rfl rfl rfl rfl ?_
  refine me1 (pc' := 3) dm_X11_point_2 rfl rfl rfl rfl ?_
  refine me_1t (pc' := 14) dm_X11_point_3 rfl rfl ?_
  refine me1 (pc' := 15) dm_X11_point_14 rfl rfl rfl rfl ?_
  refine me0 (pc' := 16) (S' := .int (1 : Int32) :: _) dm_X11_point_15 rfl rfl rfl rfl ?_
  refine me_2t (pc' := 31) dm_X11_point_16 rfl rfl ?_
  refine me1 (pc' := 32) dm_X11_point_31 rfl rfl rfl rfl ?_
  refine me0 (pc' := 33) (S' := .int (2 : Int32) :: _) dm_X11_point_32 rfl rfl rfl rfl ?_
  refine me_2f (pc' := 36) dm_X11_point_33 rfl (by decide) rfl ?_
  refine me1 (pc' := 37) dm_X11_point_36 rfl rfl rfl rfl ?_
  refine me3 (pc' := 40) dm_X11_point_37 (g_get (v := .ref 101) (lu (n := 2) (j := 0) hn rfl) rfl rfl (Nat.le_of_ble_eq_true rfl)) rfl rfl rfl ?_
  refine me3 (pc' := 43) dm_X11_point_40 (g_get (v := .int (0 : Int32)) (lu (n := 2) (j := 99) hn rfl) rfl rfl (Nat.le_of_ble_eq_true rfl)) rfl rfl rfl ?_
  refine me0 (pc' := 45) (S' := .int (7 : Int32) :: _) dm_X11_point_43 rfl rfl rfl rfl ?_
  refine me_2f (pc' := 48) dm_X11_point_45 rfl (by decide) rfl ?_
  refine me1 (pc' := 49) dm_X11_point_48 rfl rfl rfl rfl ?_
  refine me3 (pc' := 52) dm_X11_point_49 (g_get (v := .ref 101) (lu (n := 2) (j := 0) hn rfl) rfl rfl (Nat.le_of_ble_eq_true rfl)) rfl rfl rfl ?_
  refine me3 (pc' := 55) dm_X11_point_52 (g_get (v := .int (0 : Int32)) (lu (n := 2) (j := 99) hn rfl) rfl rfl (Nat.le_of_ble_eq_true rfl)) rfl rfl rfl ?_
  refine me0 (pc' := 57) (S' := .int (6 : Int32) :: _) dm_X11_point_55 rfl rfl rfl rfl ?_
  refine me_2t (pc' := 84) dm_X11_point_57 rfl rfl ?_
  refine me1 (pc' := 85) dm_X11_point_84 rfl rfl rfl rfl ?_
  refine me2 (pc' := 88) dm_X11_point_85 rfl rfl rfl ?_
  refine me0 (pc' := 89) (S' := .int (0 : Int32) :: _) dm_X11_point_88 rfl rfl rfl rfl ?_
  refine me5 dm_X11_point_89 rfl rfl rfl ?_
  exact k _ _ rfl (Nat.le_of_ble_eq_true rfl) (Nat.le_of_ble_eq_true rfl) (Nat.le_of_ble_eq_true rfl)
set_option maxRecDepth 100000 in
set_option maxHeartbeats 40000000 in
theorem c_point_v2_ge {xt : mj_X} {d : Nat} {h V : mj_H} (hn : h.length = 2) (hv : V.length = 25) {P : Option Value → mj_H → Prop} {p1 : Int32} (hl1 : 0 ≤ p1.toInt) (k : ∀ U D, U.length = 100 → mj_sl U ≤ 20000 → D.length ≤ 10 → mj_sl D ≤ 2000 → P (some (.int (0 : Int32))) (h ++ (U ++ (V ++ D)))) : pgE xt (d + 20) 11 4 false (Option.some FieldType.boolean) (mj_dec prog_1_method_9_code) 0 [(0, .ref 2), (1, .int (2 : Int32)), (2, .int p1)] [] (h ++ (cT ++ (V ++ []))) P := by
  refine me0 (pc' := 1) dm_X11_point_0 rfl rfl rfl rfl ?_
  refine me1 (pc' := 2) (L' := [(3, .null), (0, .ref 2), (1, .int (2 : Int32)), (2, .int p1)]) dm_X11_point_1 rfl rfl rfl rfl ?_
  refine me1 (pc' := 3) dm_X11_point_2 rfl rfl rfl rfl ?_
  refine me_1t (pc' := 14) dm_X11_point_3 rfl rfl ?_
  refine me1 (pc' := 15) dm_X11_point_14 rfl rfl rfl rfl ?_
  refine me0 (pc' := 16) (S' := .int (1 : Int32) :: _) dm_X11_point_15 rfl rfl rfl rfl ?_
  refine me_2t (pc' := 31) dm_X11_point_16 rfl rfl ?_
  refine me1 (pc' := 32) dm_X11_point_31 rfl rfl rfl rfl ?_
  refine me0 (pc' := 33) (S' := .int (2 : Int32) :: _) dm_X11_point_32 rfl rfl rfl rfl ?_
  refine me_2f (pc' := 36) dm_X11_point_33 rfl (by decide) rfl ?_
  refine me1 (pc' := 37) dm_X11_point_36 rfl rfl rfl rfl ?_
  refine me3 (pc' := 40) dm_X11_point_37 (g_get (v := .ref 101) (lu (n := 2) (j := 0) hn rfl) rfl rfl (Nat.le_of_ble_eq_true rfl)) rfl rfl rfl ?_
  refine me3 (pc' := 43) dm_X11_point_40 (g_get (v := .int (0 : Int32)) (lu (n := 2) (j := 99) hn rfl) rfl rfl (Nat.le_of_ble_eq_true rfl)) rfl rfl rfl ?_
  refine me0 (pc' := 45) (S' := .int (7 : Int32) :: _) dm_X11_point_43 rfl rfl rfl rfl ?_
  refine me_2f (pc' := 48) dm_X11_point_45 rfl (by decide) rfl ?_
  refine me1 (pc' := 49) dm_X11_point_48 rfl rfl rfl rfl ?_
  refine me3 (pc' := 52) dm_X11_point_49 (g_get (v := .ref 101) (lu (n := 2) (j := 0) hn rfl) rfl rfl (Nat.le_of_ble_eq_true rfl)) rfl rfl rfl ?_
  refine me3 (pc' := 55) dm_X11_point_52 (g_get (v := .int (0 : Int32)) (lu (n := 2) (j := 99) hn rfl) rfl rfl (Nat.le_of_ble_eq_true rfl)) rfl rfl rfl ?_
  refine me0 (pc' := 57) (S' := .int (6 : Int32) :: _) dm_X11_point_55 rfl rfl rfl rfl ?_
  refine me_2t (pc' := 84) dm_X11_point_57 rfl rfl ?_
  refine me1 (pc' := 85) dm_X11_point_84 rfl rfl rfl rfl ?_
  refine me2 (pc' := 88) dm_X11_point_85 rfl rfl rfl ?_
  refine me0 (pc' := 89) (S' := .int (0 : Int32) :: _) dm_X11_point_88 rfl rfl rfl rfl ?_
  refine me5 dm_X11_point_89 rfl rfl rfl ?_
  exact k _ _ rfl (Nat.le_of_ble_eq_true rfl) (Nat.le_of_ble_eq_true rfl) (Nat.le_of_ble_eq_true rfl)
set_option maxRecDepth 100000 in
set_option maxHeartbeats 40000000 in
theorem c_point_ge_lt {xt : mj_X} {d : Nat} {h V : mj_H} (hn : h.length = 2) (hv : V.length = 25) {P : Option Value → mj_H → Prop} {p0 : Int32} {p1 : Int32} (hl0 : 3 ≤ p0.toInt) (hh1 : p1.toInt ≤ -1) (k : ∀ U D, U.length = 100 → mj_sl U ≤ 20000 → D.length ≤ 10 → mj_sl D ≤ 2000 → P (some (.int (0 : Int32))) (h ++ (U ++ (V ++ D)))) : pgE xt (d + 20) 11 4 false (Option.some FieldType.boolean) (mj_dec prog_1_method_9_code) 0 [(0, .ref 2), (1, .int p0), (2, .int p1)] [] (h ++ (cT ++ (V ++ []))) P := by
  refine me0 (pc' := 1) dm_X11_point_0 rfl rfl rfl rfl ?_
  refine me1 (pc' := 2) (L' := [(3, .null), (0, .ref 2), (1, .int p0), (2, .int p1)]) dm_X11_point_1 rfl rfl rfl rfl ?_
  refine me1 (pc' := 3) dm_X11_point_2 rfl rfl rfl rfl ?_
  refine me_1t (pc' := 14) dm_X11_point_3 rfl (cn_t_ne (c := 0) rfl (by omega)) ?_
  refine me1 (pc' := 15) dm_X11_point_14 rfl rfl rfl rfl ?_
  refine me0 (pc' := 16) (S' := .int (1 : Int32) :: _) dm_X11_point_15 rfl rfl rfl rfl ?_
  refine me_2t (pc' := 31) dm_X11_point_16 rfl (cn_t_ne (c := 1) rfl (by omega)) ?_
  refine me1 (pc' := 32) dm_X11_point_31 rfl rfl rfl rfl ?_
  refine me0 (pc' := 33) (S' := .int (2 : Int32) :: _) dm_X11_point_32 rfl rfl rfl rfl ?_
  refine me_2t (pc' := 84) dm_X11_point_33 rfl (cn_t_ne (c := 2) rfl (by omega)) ?_
  refine me1 (pc' := 85) dm_X11_point_84 rfl rfl rfl rfl ?_
  refine me2 (pc' := 88) dm_X11_point_85 rfl rfl rfl ?_
  refine me0 (pc' := 89) (S' := .int (0 : Int32) :: _) dm_X11_point_88 rfl rfl rfl rfl ?_
  refine me5 dm_X11_point_89 rfl rfl rfl ?_
  exact k _ _ rfl (Nat.le_of_ble_eq_true rfl) (Nat.le_of_ble_eq_true rfl) (Nat.le_of_ble_eq_true rfl)
set_option maxRecDepth 100000 in
set_option maxHeartbeats 40000000 in
theorem c_point_ge_ge {xt : mj_X} {d : Nat} {h V : mj_H} (hn : h.length = 2) (hv : V.length = 25) {P : Option Value → mj_H → Prop} {p0 : Int32} {p1 : Int32} (hl0 : 3 ≤ p0.toInt) (hl1 : 0 ≤ p1.toInt) (k : ∀ U D, U.length = 100 → mj_sl U ≤ 20000 → D.length ≤ 10 → mj_sl D ≤ 2000 → P (some (.int (0 : Int32))) (h ++ (U ++ (V ++ D)))) : pgE xt (d + 20) 11 4 false (Option.some FieldType.boolean) (mj_dec prog_1_method_9_code) 0 [(0, .ref 2), (1, .int p0), (2, .int p1)] [] (h ++ (cT ++ (V ++ []))) P := by
  refine me0 (pc' := 1) dm_X11_point_0 rfl rfl rfl rfl ?_
  refine me1 (pc' := 2) (L' := [(3, .null), (0, .ref 2), (1, .int p0), (2, .int p1)]) dm_X11_point_1 rfl rfl rfl rfl ?_
  refine me1 (pc' := 3) dm_X11_point_2 rfl rfl rfl rfl ?_
  refine me_1t (pc' := 14) dm_X11_point_3 rfl (cn_t_ne (c := 0) rfl (by omega)) ?_
  refine me1 (pc' := 15) dm_X11_point_14 rfl rfl rfl rfl ?_
  refine me0 (pc' := 16) (S' := .int (1 : Int32) :: _) dm_X11_point_15 rfl rfl rfl rfl ?_
  refine me_2t (pc' := 31) dm_X11_point_16 rfl (cn_t_ne (c := 1) rfl (by omega)) ?_
  refine me1 (pc' := 32) dm_X11_point_31 rfl rfl rfl rfl ?_
  refine me0 (pc' := 33) (S' := .int (2 : Int32) :: _) dm_X11_point_32 rfl rfl rfl rfl ?_
  refine me_2t (pc' := 84) dm_X11_point_33 rfl (cn_t_ne (c := 2) rfl (by omega)) ?_
  refine me1 (pc' := 85) dm_X11_point_84 rfl rfl rfl rfl ?_
  refine me2 (pc' := 88) dm_X11_point_85 rfl rfl rfl ?_
  refine me0 (pc' := 89) (S' := .int (0 : Int32) :: _) dm_X11_point_88 rfl rfl rfl rfl ?_
  refine me5 dm_X11_point_89 rfl rfl rfl ?_
  exact k _ _ rfl (Nat.le_of_ble_eq_true rfl) (Nat.le_of_ble_eq_true rfl) (Nat.le_of_ble_eq_true rfl)
