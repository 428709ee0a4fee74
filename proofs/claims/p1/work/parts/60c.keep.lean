set_option maxRecDepth 100000 in
set_option maxHeartbeats 40000000 in
theorem c_keep_lt {xt : mj_X} {d : Nat} {h V : mj_H} (hn : h.length = 2) (hv : V.length = 25) {P : Option Value → mj_H → Prop} {p0 : Int32} (hh0 : p0.toInt ≤ -1) (k : ∀ U D, U.length = 100 → mj_sl U ≤ 20000 → D.length ≤ 10 → mj_sl D ≤ 2000 → P (some (.int (0 : Int32))) (h ++ (U ++ (V ++ D)))) : pgE xt (d + 20) 11 2 false (Option.some FieldType.boolean) (mj_dec prog_1_method_15_code) 0 [(0, .ref 2), (1, .int p0)] [] (h ++ (cT ++ (V ++ []))) P := by
  refine me1 (pc' := 1) dm_X11_keep_0 rfl rfl rfl rfl ?_
  refine me_1t (pc' := 13) dm_X11_keep_1 rfl (cn_t_lt (c := 0) rfl (by omega)) ?_
  refine me0 (pc' := 14) (S' := .int (0 : Int32) :: _) dm_X11_keep_13 rfl rfl rfl rfl ?_
  refine me5 dm_X11_keep_14 rfl rfl rfl ?_
  exact k _ _ rfl (Nat.le_of_ble_eq_true rfl) (Nat.le_of_ble_eq_true rfl) (Nat.le_of_ble_eq_true rfl)
set_option maxRecDepth 100000 in
set_option maxHeartbeats 40000000 in
theorem c_keep_v0 {xt : mj_X} {d : Nat} {h V : mj_H} (hn : h.length = 2) (hv : V.length = 25) {P : Option Value → mj_H → Prop}  (k : ∀ U D, U.length = 100 → mj_sl U ≤ 20000 → D.length ≤ 10 → mj_sl D ≤ 2000 → P (some (.int (1 : Int32))) (h ++ (U ++ (V ++ D)))) : pgE xt (d + 20) 11 2 false (Option.some FieldType.boolean) (mj_dec prog_1_method_15_code) 0 [(0, .ref 2), (1, .int (0 : Int32))] [] (h ++ (cT ++ (V ++ []))) P := by
  refine me1 (pc' := 1) dm_X11_keep_0 rfl rfl rfl rfl ?_
  refine me_1f (pc' := 4) dm_X11_keep_1 rfl (by decide) rfl ?_
  refine me1 (pc' := 5) dm_X11_keep_4 rfl rfl rfl rfl ?_
  refine me1 (pc' := 6) dm_X11_keep_5 rfl rfl rfl rfl ?_
  refine me3 (pc' := 9) dm_X11_keep_6 (g_get (v := .ref 15) (lu (n := 2) (j := 0) hn rfl) rfl rfl (Nat.le_of_ble_eq_true rfl)) rfl rfl rfl ?_
  refine me3 (pc' := 10) dm_X11_keep_9 (g_len (v := (4 : Int32)) (lu (n := 2) (j := 13) hn rfl) rfl rfl (Nat.le_of_ble_eq_true rfl)) rfl rfl rfl ?_
  refine me_2t (pc' := 15) dm_X11_keep_10 rfl rfl ?_
  refine me1 (pc' := 16) dm_X11_keep_15 rfl rfl rfl rfl ?_
  refine me3 (pc' := 19) dm_X11_keep_16 (g_get (v := .ref 15) (lu (n := 2) (j := 0) hn rfl) rfl rfl (Nat.le_of_ble_eq_true rfl)) rfl rfl rfl ?_
  refine me1 (pc' := 20) dm_X11_keep_19 rfl rfl rfl rfl ?_
  refine me3 (pc' := 21) dm_X11_keep_20 (g_aald (v := .null) (lu (n := 2) (j := 13) hn rfl) rfl (by decide) rfl (Nat.le_of_ble_eq_true rfl)) rfl rfl rfl ?_
  refine me2 (pc' := 24) dm_X11_keep_21 rfl rfl rfl ?_
  refine me1 (pc' := 25) dm_X11_keep_24 rfl rfl rfl rfl ?_
  refine me3 (pc' := 28) dm_X11_keep_25 (g_get (v := .ref 15) (lu (n := 2) (j := 0) hn rfl) rfl rfl (Nat.le_of_ble_eq_true rfl)) rfl rfl rfl ?_
  refine me1 (pc' := 29) dm_X11_keep_28 rfl rfl rfl rfl ?_
  refine me3 (pc' := 32) dm_X11_keep_29 (g_nw (a := 127) (ne_ (n := 2) (u := 100) (v := 25) (j := 0) hn rfl hv rfl) (ae _) rfl) rfl rfl rfl ?_
  refine me0 (pc' := 33) dm_X11_keep_32 rfl rfl rfl rfl ?_
  refine me4 (pc' := 36) (L0 := [(0, .ref 127)]) dm_X11_keep_33 rfl (g_invp (As := []) rfl rfl rfl) pm_X2_init rfl (Nat.le_of_ble_eq_true rfl) rfl rfl rfl ?_
  refine me1 (pc' := 1) dm_X2_init_0 rfl rfl rfl rfl ?_
  refine me4o (pc' := 4) dm_X2_init_1 rfl rfl (by omega) rfl rfl rfl ?_
  refine me1 (pc' := 5) dm_X2_init_4 rfl rfl rfl rfl ?_
  refine me0 (pc' := 7) (S' := .int (40 : Int32) :: _) dm_X2_init_5 rfl rfl rfl rfl ?_
  refine me3 (pc' := 9) dm_X2_init_7 (g_nwa (a := 128) (ne_ (n := 2) (u := 100) (v := 25) (j := 1) hn rfl hv rfl) (ae _) rfl (by decide)) rfl rfl rfl ?_
  refine me3 (pc' := 12) dm_X2_init_9 (g_put (fs' := [.ref 128, .null, .int (0 : Int32), .null, .null, .int (0 : Int32)]) (le_ (n := 2) (u := 100) (v := 25) (j := 0) hn rfl hv rfl) rfl (se (n := 2) (u := 100) (v := 25) (j := 0) hn rfl hv _) rfl (Nat.le_of_ble_eq_true rfl) rfl (by decide) (fun _ => rfl) (Nat.le_of_ble_eq_true rfl)) rfl rfl rfl ?_
  refine me1 (pc' := 13) dm_X2_init_12 rfl rfl rfl rfl ?_
  refine me0 (pc' := 15) (S' := .int (40 : Int32) :: _) dm_X2_init_13 rfl rfl rfl rfl ?_
  refine me3 (pc' := 18) dm_X2_init_15 (g_nwq (a := 129) (ne_ (n := 2) (u := 100) (v := 25) (j := 2) hn rfl hv rfl) (ae _) rfl (by decide)) rfl rfl rfl ?_
  refine me3 (pc' := 21) dm_X2_init_18 (g_put (fs' := [.ref 128, .ref 129, .int (0 : Int32), .null, .null, .int (0 : Int32)]) (le_ (n := 2) (u := 100) (v := 25) (j := 0) hn rfl hv rfl) rfl (se (n := 2) (u := 100) (v := 25) (j := 0) hn rfl hv _) rfl (Nat.le_of_ble_eq_true rfl) rfl (by decide) (fun _ => rfl) (Nat.le_of_ble_eq_true rfl)) rfl rfl rfl ?_
  refine me1 (pc' := 22) dm_X2_init_21 rfl rfl rfl rfl ?_
  refine me0 (pc' := 24) (S' := .int (40 : Int32) :: _) dm_X2_init_22 rfl rfl rfl rfl ?_
  refine me3 (pc' := 26) dm_X2_init_24 (g_nwa (a := 130) (ne_ (n := 2) (u := 100) (v := 25) (j := 3) hn rfl hv rfl) (ae _) rfl (by decide)) rfl rfl rfl ?_
  refine me3 (pc' := 29) dm_X2_init_26 (g_put (fs' := [.ref 128, .ref 129, .int (0 : Int32), .ref 130, .null, .int (0 : Int32)]) (le_ (n := 2) (u := 100) (v := 25) (j := 0) hn rfl hv rfl) rfl (se (n := 2) (u := 100) (v := 25) (j := 0) hn rfl hv _) rfl (Nat.le_of_ble_eq_true rfl) rfl (by decide) (fun _ => rfl) (Nat.le_of_ble_eq_true rfl)) rfl rfl rfl ?_
  refine me1 (pc' := 30) dm_X2_init_29 rfl rfl rfl rfl ?_
  refine me0 (pc' := 32) (S' := .int (40 : Int32) :: _) dm_X2_init_30 rfl rfl rfl rfl ?_
  refine me3 (pc' := 35) dm_X2_init_32 (g_nwq (a := 131) (ne_ (n := 2) (u := 100) (v := 25) (j := 4) hn rfl hv rfl) (ae _) rfl (by decide)) rfl rfl rfl ?_
  refine me3 (pc' := 38) dm_X2_init_35 (g_put (fs' := [.ref 128, .ref 129, .int (0 : Int32), .ref 130, .ref 131, .int (0 : Int32)]) (le_ (n := 2) (u := 100) (v := 25) (j := 0) hn rfl hv rfl) rfl (se (n := 2) (u := 100) (v := 25) (j := 0) hn rfl hv _) rfl (Nat.le_of_ble_eq_true rfl) rfl (by decide) (fun _ => rfl) (Nat.le_of_ble_eq_true rfl)) rfl rfl rfl ?_
  refine me5 dm_X2_init_38 rfl rfl rfl ?_
  refine me3 (pc' := 37) dm_X11_keep_36 (u_aastr (n := 2) (j := 13) hn rfl (le_ (n := 2) (u := 100) (v := 25) (j := 0) hn rfl hv rfl) rfl (by decide) rfl (Nat.le_of_ble_eq_true rfl) (Nat.le_of_ble_eq_true rfl)) rfl rfl rfl ?_
  refine me1 (pc' := 38) dm_X11_keep_37 rfl rfl rfl rfl ?_
  refine me3 (pc' := 41) dm_X11_keep_38 (g_get (v := .ref 15) (lu (n := 2) (j := 0) hn rfl) rfl rfl (Nat.le_of_ble_eq_true rfl)) rfl rfl rfl ?_
  refine me1 (pc' := 42) dm_X11_keep_41 rfl rfl rfl rfl ?_
  refine me3 (pc' := 43) dm_X11_keep_42 (g_aald (v := .ref 127) (lu (n := 2) (j := 13) hn rfl) rfl (by decide) rfl (Nat.le_of_ble_eq_true rfl)) rfl rfl rfl ?_
  refine me1 (pc' := 44) dm_X11_keep_43 rfl rfl rfl rfl ?_
  refine me3 (pc' := 47) dm_X11_keep_44 (g_get (v := .ref 4) (lu (n := 2) (j := 0) hn rfl) rfl rfl (Nat.le_of_ble_eq_true rfl)) rfl rfl rfl ?_
  refine me4 (pc' := 50) (L0 := [(0, .ref 127), (1, .ref 4)]) dm_X11_keep_47 rfl (g_inv (As := [.ref 4]) (le_ (n := 2) (u := 100) (v := 25) (j := 0) hn rfl hv rfl) rfl rfl rfl (Nat.le_of_ble_eq_true rfl)) pm_X2_copyOf rfl (Nat.le_of_ble_eq_true rfl) rfl rfl rfl ?_
  refine me1 (pc' := 1) dm_X2_copyOf_0 rfl rfl rfl rfl ?_
  refine me1 (pc' := 2) dm_X2_copyOf_1 rfl rfl rfl rfl ?_
  refine me3 (pc' := 5) dm_X2_copyOf_2 (g_get (v := .int (0 : Int32)) (lu (n := 2) (j := 2) hn rfl) rfl rfl (Nat.le_of_ble_eq_true rfl)) rfl rfl rfl ?_
  refine me3 (pc' := 8) dm_X2_copyOf_5 (g_put (fs' := [.ref 128, .ref 129, .int (0 : Int32), .ref 130, .ref 131, .int (0 : Int32)]) (le_ (n := 2) (u := 100) (v := 25) (j := 0) hn rfl hv rfl) rfl (se (n := 2) (u := 100) (v := 25) (j := 0) hn rfl hv _) rfl (Nat.le_of_ble_eq_true rfl) rfl (by decide) (fun z => by cases z) (Nat.le_of_ble_eq_true rfl)) rfl rfl rfl ?_
  refine me1 (pc' := 9) dm_X2_copyOf_8 rfl rfl rfl rfl ?_
  refine me1 (pc' := 10) dm_X2_copyOf_9 rfl rfl rfl rfl ?_
  refine me3 (pc' := 13) dm_X2_copyOf_10 (g_get (v := .int (0 : Int32)) (lu (n := 2) (j := 2) hn rfl) rfl rfl (Nat.le_of_ble_eq_true rfl)) rfl rfl rfl ?_
  refine me3 (pc' := 16) dm_X2_copyOf_13 (g_put (fs' := [.ref 128, .ref 129, .int (0 : Int32), .ref 130, .ref 131, .int (0 : Int32)]) (le_ (n := 2) (u := 100) (v := 25) (j := 0) hn rfl hv rfl) rfl (se (n := 2) (u := 100) (v := 25) (j := 0) hn rfl hv _) rfl (Nat.le_of_ble_eq_true rfl) rfl (by decide) (fun z => by cases z) (Nat.le_of_ble_eq_true rfl)) rfl rfl rfl ?_
  refine me0 (pc' := 17) (S' := .int (0 : Int32) :: _) dm_X2_copyOf_16 rfl rfl rfl rfl ?_
  refine me1 (pc' := 18) (L' := [(2, .int (0 : Int32)), (0, .ref 127), (1, .ref 4)]) dm_X2_copyOf_17 rfl rfl rfl rfl ?_
  refine me1 (pc' := 19) dm_X2_copyOf_18 rfl rfl rfl rfl ?_
  refine me0 (pc' := 21) (S' := .int (40 : Int32) :: _) dm_X2_copyOf_19 rfl rfl rfl rfl ?_
  refine me_2f (pc' := 24) dm_X2_copyOf_21 rfl (by decide) rfl ?_
  refine me1 (pc' := 25) dm_X2_copyOf_24 rfl rfl rfl rfl ?_
  refine me3 (pc' := 28) dm_X2_copyOf_25 (g_get (v := .ref 128) (le_ (n := 2) (u := 100) (v := 25) (j := 0) hn rfl hv rfl) rfl rfl (Nat.le_of_ble_eq_true rfl)) rfl rfl rfl ?_
  refine me1 (pc' := 29) dm_X2_copyOf_28 rfl rfl rfl rfl ?_
  refine me1 (pc' := 30) dm_X2_copyOf_29 rfl rfl rfl rfl ?_
  refine me3 (pc' := 33) dm_X2_copyOf_30 (g_get (v := .ref 5) (lu (n := 2) (j := 2) hn rfl) rfl rfl (Nat.le_of_ble_eq_true rfl)) rfl rfl rfl ?_
  refine me1 (pc' := 34) dm_X2_copyOf_33 rfl rfl rfl rfl ?_
  refine me3 (pc' := 35) dm_X2_copyOf_34 (g_lald (v := (0 : Int64)) (lu (n := 2) (j := 3) hn rfl) rfl (by decide) rfl (Nat.le_of_ble_eq_true rfl)) rfl rfl rfl ?_
  refine me3 (pc' := 36) dm_X2_copyOf_35 (g_last (le_ (n := 2) (u := 100) (v := 25) (j := 1) hn rfl hv rfl) (se (n := 2) (u := 100) (v := 25) (j := 1) hn rfl hv _) rfl (by decide) (Nat.le_of_ble_eq_true rfl)) rfl rfl rfl ?_
  refine me1 (pc' := 37) dm_X2_copyOf_36 rfl rfl rfl rfl ?_
  refine me3 (pc' := 40) dm_X2_copyOf_37 (g_get (v := .ref 129) (le_ (n := 2) (u := 100) (v := 25) (j := 0) hn rfl hv rfl) rfl rfl (Nat.le_of_ble_eq_true rfl)) rfl rfl rfl ?_
  refine me1 (pc' := 41) dm_X2_copyOf_40 rfl rfl rfl rfl ?_
  refine me1 (pc' := 42) dm_X2_copyOf_41 rfl rfl rfl rfl ?_
  refine me3 (pc' := 45) dm_X2_copyOf_42 (g_get (v := .ref 6) (lu (n := 2) (j := 2) hn rfl) rfl rfl (Nat.le_of_ble_eq_true rfl)) rfl rfl rfl ?_
  refine me1 (pc' := 46) dm_X2_copyOf_45 rfl rfl rfl rfl ?_
  refine me3 (pc' := 47) dm_X2_copyOf_46 (g_aald (v := .null) (lu (n := 2) (j := 4) hn rfl) rfl (by decide) rfl (Nat.le_of_ble_eq_true rfl)) rfl rfl rfl ?_
  refine me3 (pc' := 48) dm_X2_copyOf_47 (g_aastn (le_ (n := 2) (u := 100) (v := 25) (j := 2) hn rfl hv rfl) (se (n := 2) (u := 100) (v := 25) (j := 2) hn rfl hv _) rfl (by decide) (Nat.le_of_ble_eq_true rfl)) rfl rfl rfl ?_
  refine me1 (pc' := 49) dm_X2_copyOf_48 rfl rfl rfl rfl ?_
  refine me3 (pc' := 52) dm_X2_copyOf_49 (g_get (v := .ref 130) (le_ (n := 2) (u := 100) (v := 25) (j := 0) hn rfl hv rfl) rfl rfl (Nat.le_of_ble_eq_true rfl)) rfl rfl rfl ?_
  refine me1 (pc' := 53) dm_X2_copyOf_52 rfl rfl rfl rfl ?_
  refine me1 (pc' := 54) dm_X2_copyOf_53 rfl rfl rfl rfl ?_
  refine me3 (pc' := 57) dm_X2_copyOf_54 (g_get (v := .ref 7) (lu (n := 2) (j := 2) hn rfl) rfl rfl (Nat.le_of_ble_eq_true rfl)) rfl rfl rfl ?_
  refine me1 (pc' := 58) dm_X2_copyOf_57 rfl rfl rfl rfl ?_
  refine me3 (pc' := 59) dm_X2_copyOf_58 (g_lald (v := (0 : Int64)) (lu (n := 2) (j := 5) hn rfl) rfl (by decide) rfl (Nat.le_of_ble_eq_true rfl)) rfl rfl rfl ?_
  refine me3 (pc' := 60) dm_X2_copyOf_59 (g_last (le_ (n := 2) (u := 100) (v := 25) (j := 3) hn rfl hv rfl) (se (n := 2) (u := 100) (v := 25) (j := 3) hn rfl hv _) rfl (by decide) (Nat.le_of_ble_eq_true rfl)) rfl rfl rfl ?_
  refine me1 (pc' := 61) dm_X2_copyOf_60 rfl rfl rfl rfl ?_
  refine me3 (pc' := 64) dm_X2_copyOf_61 (g_get (v := .ref 131) (le_ (n := 2) (u := 100) (v := 25) (j := 0) hn rfl hv rfl) rfl rfl (Nat.le_of_ble_eq_true rfl)) rfl rfl rfl ?_
  refine me1 (pc' := 65) dm_X2_copyOf_64 rfl rfl rfl rfl ?_
  refine me1 (pc' := 66) dm_X2_copyOf_65 rfl rfl rfl rfl ?_
  refine me3 (pc' := 69) dm_X2_copyOf_66 (g_get (v := .ref 8) (lu (n := 2) (j := 2) hn rfl) rfl rfl (Nat.le_of_ble_eq_true rfl)) rfl rfl rfl ?_
  refine me1 (pc' := 70) dm_X2_copyOf_69 rfl rfl rfl rfl ?_
  refine me3 (pc' := 71) dm_X2_copyOf_70 (g_aald (v := .null) (lu (n := 2) (j := 6) hn rfl) rfl (by decide) rfl (Nat.le_of_ble_eq_true rfl)) rfl rfl rfl ?_
  refine me3 (pc' := 72) dm_X2_copyOf_71 (g_aastn (le_ (n := 2) (u := 100) (v := 25) (j := 4) hn rfl hv rfl) (se (n := 2) (u := 100) (v := 25) (j := 4) hn rfl hv _) rfl (by decide) (Nat.le_of_ble_eq_true rfl)) rfl rfl rfl ?_
  refine me1 (pc' := 75) (L' := [(2, .int (1 : Int32)), (0, .ref 127), (1, .ref 4)]) dm_X2_copyOf_72 rfl rfl rfl rfl ?_
  refine me2 (pc' := 18) dm_X2_copyOf_75 rfl rfl rfl ?_
  refine me1 (pc' := 19) dm_X2_copyOf_18 rfl rfl rfl rfl ?_
  refine me0 (pc' := 21) (S' := .int (40 : Int32) :: _) dm_X2_copyOf_19 rfl rfl rfl rfl ?_
  refine me_2f (pc' := 24) dm_X2_copyOf_21 rfl (by decide) rfl ?_
  refine me1 (pc' := 25) dm_X2_copyOf_24 rfl rfl rfl rfl ?_
  refine me3 (pc' := 28) dm_X2_copyOf_25 (g_get (v := .ref 128) (le_ (n := 2) (u := 100) (v := 25) (j := 0) hn rfl hv rfl) rfl rfl (Nat.le_of_ble_eq_true rfl)) rfl rfl rfl ?_
  refine me1 (pc' := 29) dm_X2_copyOf_28 rfl rfl rfl rfl ?_
  refine me1 (pc' := 30) dm_X2_copyOf_29 rfl rfl rfl rfl ?_
  refine me3 (pc' := 33) dm_X2_copyOf_30 (g_get (v := .ref 5) (lu (n := 2) (j := 2) hn rfl) rfl rfl (Nat.le_of_ble_eq_true rfl)) rfl rfl rfl ?_
  refine me1 (pc' := 34) dm_X2_copyOf_33 rfl rfl rfl rfl ?_
  refine me3 (pc' := 35) dm_X2_copyOf_34 (g_lald (v := (0 : Int64)) (lu (n := 2) (j := 3) hn rfl) rfl (by decide) rfl (Nat.le_of_ble_eq_true rfl)) rfl rfl rfl ?_
  refine me3 (pc' := 36) dm_X2_copyOf_35 (g_last (le_ (n := 2) (u := 100) (v := 25) (j := 1) hn rfl hv rfl) (se (n := 2) (u := 100) (v := 25) (j := 1) hn rfl hv _) rfl (by decide) (Nat.le_of_ble_eq_true rfl)) rfl rfl rfl ?_
  refine me1 (pc' := 37) dm_X2_copyOf_36 rfl rfl rfl rfl ?_
  refine me3 (pc' := 40) dm_X2_copyOf_37 (g_get (v := .ref 129) (le_ (n := 2) (u := 100) (v := 25) (j := 0) hn rfl hv rfl) rfl rfl (Nat.le_of_ble_eq_true rfl)) rfl rfl rfl ?_
  refine me1 (pc' := 41) dm_X2_copyOf_40 rfl rfl rfl rfl ?_
  refine me1 (pc' := 42) dm_X2_copyOf_41 rfl rfl rfl rfl ?_
  refine me3 (pc' := 45) dm_X2_copyOf_42 (g_get (v := .ref 6) (lu (n := 2) (j := 2) hn rfl) rfl rfl (Nat.le_of_ble_eq_true rfl)) rfl rfl rfl ?_
  refine me1 (pc' := 46) dm_X2_copyOf_45 rfl rfl rfl rfl ?_
  refine me3 (pc' := 47) dm_X2_copyOf_46 (g_aald (v := .null) (lu (n := 2) (j := 4) hn rfl) rfl (by decide) rfl (Nat.le_of_ble_eq_true rfl)) rfl rfl rfl ?_
  refine me3 (pc' := 48) dm_X2_copyOf_47 (g_aastn (le_ (n := 2) (u := 100) (v := 25) (j := 2) hn rfl hv rfl) (se (n := 2) (u := 100) (v := 25) (j := 2) hn rfl hv _) rfl (by decide) (Nat.le_of_ble_eq_true rfl)) rfl rfl rfl ?_
  refine me1 (pc' := 49) dm_X2_copyOf_48 rfl rfl rfl rfl ?_
  refine me3 (pc' := 52) dm_X2_copyOf_49 (g_get (v := .ref 130) (le_ (n := 2) (u := 100) (v := 25) (j := 0) hn rfl hv rfl) rfl rfl (Nat.le_of_ble_eq_true rfl)) rfl rfl rfl ?_
  refine me1 (pc' := 53) dm_X2_copyOf_52 rfl rfl rfl rfl ?_
  refine me1 (pc' := 54) dm_X2_copyOf_53 rfl rfl rfl rfl ?_
  refine me3 (pc' := 57) dm_X2_copyOf_54 (g_get (v := .ref 7) (lu (n := 2) (j := 2) hn rfl) rfl rfl (Nat.le_of_ble_eq_true rfl)) rfl rfl rfl ?_
  refine me1 (pc' := 58) dm_X2_copyOf_57 rfl rfl rfl rfl ?_
  refine me3 (pc' := 59) dm_X2_copyOf_58 (g_lald (v := (0 : Int64)) (lu (n := 2) (j := 5) hn rfl) rfl (by decide) rfl (Nat.le_of_ble_eq_true rfl)) rfl rfl rfl ?_
  refine me3 (pc' := 60) dm_X2_copyOf_59 (g_last (le_ (n := 2) (u := 100) (v := 25) (j := 3) hn rfl hv rfl) (se (n := 2) (u := 100) (v := 25) (j := 3) hn rfl hv _) rfl (by decide) (Nat.le_of_ble_eq_true rfl)) rfl rfl rfl ?_
  refine me1 (pc' := 61) dm_X2_copyOf_60 rfl rfl rfl rfl ?_
  refine me3 (pc' := 64) dm_X2_copyOf_61 (g_get (v := .ref 131) (le_ (n := 2) (u := 100) (v := 25) (j := 0) hn rfl hv rfl) rfl rfl (Nat.le_of_ble_eq_true rfl)) rfl rfl rfl ?_
  refine me1 (pc' := 65) dm_X2_copyOf_64 rfl rfl rfl rfl ?_
  refine me1 (pc' := 66) dm_X2_copyOf_65 rfl rfl rfl rfl ?_
  refine me3 (pc' := 69) dm_X2_copyOf_66 (g_get (v := .ref 8) (lu (n := 2) (j := 2) hn rfl) rfl rfl (Nat.le_of_ble_eq_true rfl)) rfl rfl rfl ?_
  refine me1 (pc' := 70) dm_X2_copyOf_69 rfl rfl rfl rfl ?_
  refine me3 (pc' := 71) dm_X2_copyOf_70 (g_aald (v := .null) (lu (n := 2) (j := 6) hn rfl) rfl (by decide) rfl (Nat.le_of_ble_eq_true rfl)) rfl rfl rfl ?_
  refine me3 (pc' := 72) dm_X2_copyOf_71 (g_aastn (le_ (n := 2) (u := 100) (v := 25) (j := 4) hn rfl hv rfl) (se (n := 2) (u := 100) (v := 25) (j := 4) hn rfl hv _) rfl (by decide) (Nat.le_of_ble_eq_true rfl)) rfl rfl rfl ?_
  refine me1 (pc' := 75) (L' := [(2, .int (2 : Int32)), (0, .ref 127), (1, .ref 4)]) dm_X2_copyOf_72 rfl rfl rfl rfl ?_
  refine me2 (pc' := 18) dm_X2_copyOf_75 rfl rfl rfl ?_
  refine me1 (pc' := 19) dm_X2_copyOf_18 rfl rfl rfl rfl ?_
  refine me0 (pc' := 21) (S' := .int (40 : Int32) :: _) dm_X2_copyOf_19 rfl rfl rfl rfl ?_
  refine me_2f (pc' := 24) dm_X2_copyOf_21 rfl (by decide) rfl ?_
  refine me1 (pc' := 25) dm_X2_copyOf_24 rfl rfl rfl rfl ?_
  refine me3 (pc' := 28) dm_X2_copyOf_25 (g_get (v := .ref 128) (le_ (n := 2) (u := 100) (v := 25) (j := 0) hn rfl hv rfl) rfl rfl (Nat.le_of_ble_eq_true rfl)) rfl rfl rfl ?_
  refine me1 (pc' := 29) dm_X2_copyOf_28 rfl rfl rfl rfl ?_
  refine me1 (pc' := 30) dm_X2_copyOf_29 rfl rfl rfl rfl ?_
  refine me3 (pc' := 33) dm_X2_copyOf_30 (g_get (v := .ref 5) (lu (n := 2) (j := 2) hn rfl) rfl rfl (Nat.le_of_ble_eq_true rfl)) rfl rfl rfl ?_
  refine me1 (pc' := 34) dm_X2_copyOf_33 rfl rfl rfl rfl ?_
  refine me3 (pc' := 35) dm_X2_copyOf_34 (g_lald (v := (0 : Int64)) (lu (n := 2) (j := 3) hn rfl) rfl (by decide) rfl (Nat.le_of_ble_eq_true rfl)) rfl rfl rfl ?_
  refine me3 (pc' := 36) dm_X2_copyOf_35 (g_last (le_ (n := 2) (u := 100) (v := 25) (j := 1) hn rfl hv rfl) (se (n := 2) (u := 100) (v := 25) (j := 1) hn rfl hv _) rfl (by decide) (Nat.le_of_ble_eq_true rfl)) rfl rfl rfl ?_
  refine me1 (pc' := 37) dm_X2_copyOf_36 rfl rfl rfl rfl ?_
  refine me3 (pc' := 40) dm_X2_copyOf_37 (g_get (v := .ref 129) (le_ (n := 2) (u := 100) (v := 25) (j := 0) hn rfl hv rfl) rfl rfl (Nat.le_of_ble_eq_true rfl)) rfl rfl rfl ?_
  refine me1 (pc' := 41) dm_X2_copyOf_40 rfl rfl rfl rfl ?_
  refine me1 (pc' := 42) dm_X2_copyOf_41 rfl rfl rfl rfl ?_
  refine me3 (pc' := 45) dm_X2_copyOf_42 (g_get (v := .ref 6) (lu (n := 2) (j := 2) hn rfl) rfl rfl (Nat.le_of_ble_eq_true rfl)) rfl rfl rfl ?_
  refine me1 (pc' := 46) dm_X2_copyOf_45 rfl rfl rfl rfl ?_
  refine me3 (pc' := 47) dm_X2_copyOf_46 (g_aald (v := .null) (lu (n := 2) (j := 4) hn rfl) rfl (by decide) rfl (Nat.le_of_ble_eq_true rfl)) rfl rfl rfl ?_
  refine me3 (pc' := 48) dm_X2_copyOf_47 (g_aastn (le_ (n := 2) (u := 100) (v := 25) (j := 2) hn rfl hv rfl) (se (n := 2) (u := 100) (v := 25) (j := 2) hn rfl hv _) rfl (by decide) (Nat.le_of_ble_eq_true rfl)) rfl rfl rfl ?_
  refine me1 (pc' := 49) dm_X2_copyOf_48 rfl rfl rfl rfl ?_
  refine me3 (pc' := 52) dm_X2_copyOf_49 (g_get (v := .ref 130) (le_ (n := 2) (u := 100) (v := 25) (j := 0) hn rfl hv rfl) rfl rfl (Nat.le_of_ble_eq_true rfl)) rfl rfl rfl ?_
  refine me1 (pc' := 53) dm_X2_copyOf_52 rfl rfl rfl rfl ?_
  refine me1 (pc' := 54) dm_X2_copyOf_53 rfl rfl rfl rfl ?_
  refine me3 (pc' := 57) dm_X2_copyOf_54 (g_get (v := .ref 7) (lu (n := 2) (j := 2) hn rfl) rfl rfl (Nat.le_of_ble_eq_true rfl)) rfl rfl rfl ?_
  refine me1 (pc' := 58) dm_X2_copyOf_57 rfl rfl rfl rfl ?_
  refine me3 (pc' := 59) dm_X2_copyOf_58 (g_lald (v := (0 : Int64)) (lu (n := 2) (j := 5) hn rfl) rfl (by decide) rfl (Nat.le_of_ble_eq_true rfl)) rfl rfl rfl ?_
  refine me3 (pc' := 60) dm_X2_copyOf_59 (g_last (le_ (n := 2) (u := 100) (v := 25) (j := 3) hn rfl hv rfl) (se (n := 2) (u := 100) (v := 25) (j := 3) hn rfl hv _) rfl (by decide) (Nat.le_of_ble_eq_true rfl)) rfl rfl rfl ?_
  refine me1 (pc' := 61) dm_X2_copyOf_60 rfl rfl rfl rfl ?_
  refine me3 (pc' := 64) dm_X2_copyOf_61 (g_get (v := .ref 131) (le_ (n := 2) (u := 100) (v := 25) (j := 0) hn rfl hv rfl) rfl rfl (Nat.le_of_ble_eq_true rfl)) rfl rfl rfl ?_
  refine me1 (pc' := 65) dm_X2_copyOf_64 rfl rfl rfl rfl ?_
  refine me1 (pc' := 66) dm_X2_copyOf_65 rfl rfl rfl rfl ?_
  refine me3 (pc' := 69) dm_X2_copyOf_66 (g_get (v := .ref 8) (lu (n := 2) (j := 2) hn rfl) rfl rfl (Nat.le_of_ble_eq_true rfl)) rfl rfl rfl ?_
  refine me1 (pc' := 70) dm_X2_copyOf_69 rfl rfl rfl rfl ?_
  refine me3 (pc' := 71) dm_X2_copyOf_70 (g_aald (v := .null) (lu (n := 2) (j := 6) hn rfl) rfl (by decide) rfl (Nat.le_of_ble_eq_true rfl)) rfl rfl rfl ?_
  refine me3 (pc' := 72) dm_X2_copyOf_71 (g_aastn (le_ (n := 2) (u := 100) (v := 25) (j := 4) hn rfl hv rfl) (se (n := 2) (u := 100) (v := 25) (j := 4) hn rfl hv _) rfl (by decide) (Nat.le_of_ble_eq_true rfl)) rfl rfl rfl ?_
  refine me1 (pc' := 75) (L' := [(2, .int (3 : Int32)), (0, .ref 127), (1, .ref 4)]) dm_X2_copyOf_72 rfl rfl rfl rfl ?_
  refine me2 (pc' := 18) dm_X2_copyOf_75 rfl rfl rfl ?_
  refine me1 (pc' := 19) dm_X2_copyOf_18 rfl rfl rfl rfl ?_
  refine me0 (pc' := 21) (S' := .int (40 : Int32) :: _) dm_X2_copyOf_19 rfl rfl rfl rfl ?_
  refine me_2f (pc' := 24) dm_X2_copyOf_21 rfl (by decide) rfl ?_
  refine me1 (pc' := 25) dm_X2_copyOf_24 rfl rfl rfl rfl ?_
  refine me3 (pc' := 28) dm_X2_copyOf_25 (g_get (v := .ref 128) (le_ (n := 2) (u := 100) (v := 25) (j := 0) hn rfl hv rfl) rfl rfl (Nat.le_of_ble_eq_true rfl)) rfl rfl rfl ?_
  refine me1 (pc' := 29) dm_X2_copyOf_28 rfl rfl rfl rfl ?_
  refine me1 (pc' := 30) dm_X2_copyOf_29 rfl rfl rfl rfl ?_
  refine me3 (pc' := 33) dm_X2_copyOf_30 (g_get (v := .ref 5) (lu (n := 2) (j := 2) hn rfl) rfl rfl (Nat.le_of_ble_eq_true rfl)) rfl rfl rfl ?_
  refine me1 (pc' := 34) dm_X2_copyOf_33 rfl rfl rfl rfl ?_
  refine me3 (pc' := 35) dm_X2_copyOf_34 (g_lald (v := (0 : Int64)) (lu (n := 2) (j := 3) hn rfl) rfl (by decide) rfl (Nat.le_of_ble_eq_true rfl)) rfl rfl rfl ?_
  refine me3 (pc' := 36) dm_X2_copyOf_35 (g_last (le_ (n := 2) (u := 100) (v := 25) (j := 1) hn rfl hv rfl) (se (n := 2) (u := 100) (v := 25) (j := 1) hn rfl hv _) rfl (by decide) (Nat.le_of_ble_eq_true rfl)) rfl rfl rfl ?_
  refine me1 (pc' := 37) dm_X2_copyOf_36 rfl rfl rfl rfl ?_
  refine me3 (pc' := 40) dm_X2_copyOf_37 (g_get (v := .ref 129) (le_ (n := 2) (u := 100) (v := 25) (j := 0) hn rfl hv rfl) rfl rfl (Nat.le_of_ble_eq_true rfl)) rfl rfl rfl ?_
  refine me1 (pc' := 41) dm_X2_copyOf_40 rfl rfl rfl rfl ?_
  refine me1 (pc' := 42) dm_X2_copyOf_41 rfl rfl rfl rfl ?_
  refine me3 (pc' := 45) dm_X2_copyOf_42 (g_get (v := .ref 6) (lu (n := 2) (j := 2) hn rfl) rfl rfl (Nat.le_of_ble_eq_true rfl)) rfl rfl rfl ?_
  refine me1 (pc' := 46) dm_X2_copyOf_45 rfl rfl rfl rfl ?_
  refine me3 (pc' := 47) dm_X2_copyOf_46 (g_aald (v := .null) (lu (n := 2) (j := 4) hn rfl) rfl (by decide) rfl (Nat.le_of_ble_eq_true rfl)) rfl rfl rfl ?_
  refine me3 (pc' := 48) dm_X2_copyOf_47 (g_aastn (le_ (n := 2) (u := 100) (v := 25) (j := 2) hn rfl hv rfl) (se (n := 2) (u := 100) (v := 25) (j := 2) hn rfl hv _) rfl (by decide) (Nat.le_of_ble_eq_true rfl)) rfl rfl rfl ?_
  refine me1 (pc' := 49) dm_X2_copyOf_48 rfl rfl rfl rfl ?_
  refine me3 (pc' := 52) dm_X2_copyOf_49 (g_get (v := .ref 130) (le_ (n := 2) (u := 100) (v := 25) (j := 0) hn rfl hv rfl) rfl rfl (Nat.le_of_ble_eq_true rfl)) rfl rfl rfl ?_
  refine me1 (pc' := 53) dm_X2_copyOf_52 rfl rfl rfl rfl ?_
  refine me1 (pc' := 54) dm_X2_copyOf_53 rfl rfl rfl rfl ?_
  refine me3 (pc' := 57) dm_X2_copyOf_54 (g_get (v := .ref 7) (lu (n := 2) (j := 2) hn rfl) rfl rfl (Nat.le_of_ble_eq_true rfl)) rfl rfl rfl ?_
  refine me1 (pc' := 58) dm_X2_copyOf_57 rfl rfl rfl rfl ?_
  refine me3 (pc' := 59) dm_X2_copyOf_58 (g_lald (v := (0 : Int64)) (lu (n := 2) (j := 5) hn rfl) rfl (by decide) rfl (Nat.le_of_ble_eq_true rfl)) rfl rfl rfl ?_
  refine me3 (pc' := 60) dm_X2_copyOf_59 (g_last (le_ (n := 2) (u := 100) (v := 25) (j := 3) hn rfl hv rfl) (se (n := 2) (u := 100) (v := 25) (j := 3) hn rfl hv _) rfl (by decide) (Nat.le_of_ble_eq_true rfl)) rfl rfl rfl ?_
  refine me1 (pc' := 61) dm_X2_copyOf_60 rfl rfl rfl rfl ?_
  refine me3 (pc' := 64) dm_X2_copyOf_61 (g_get (v := .ref 131) (le_ (n := 2) (u := 100) (v := 25) (j := 0) hn rfl hv rfl) rfl rfl (Nat.le_of_ble_eq_true rfl)) rfl rfl rfl ?_
  refine me1 (pc' := 65) dm_X2_copyOf_64 rfl rfl rfl rfl ?_
  refine me1 (pc' := 66) dm_X2_copyOf_65 rfl rfl rfl rfl ?_
  refine me3 (pc' := 69) dm_X2_copyOf_66 (g_get (v := .ref 8) (lu (n := 2) (j := 2) hn rfl) rfl rfl (Nat.le_of_ble_eq_true rfl)) rfl rfl rfl ?_
  refine me1 (pc' := 70) dm_X2_copyOf_69 rfl rfl rfl rfl ?_
  refine me3 (pc' := 71) dm_X2_copyOf_70 (g_aald (v := .null) (lu (n := 2) (j := 6) hn rfl) rfl (by decide) rfl (Nat.le_of_ble_eq_true rfl)) rfl rfl rfl ?_
  refine me3 (pc' := 72) dm_X2_copyOf_71 (g_aastn (le_ (n := 2) (u := 100) (v := 25) (j := 4) hn rfl hv rfl) (se (n := 2) (u := 100) (v := 25) (j := 4) hn rfl hv _) rfl (by decide) (Nat.le_of_ble_eq_true rfl)) rfl rfl rfl ?_
  refine me1 (pc' := 75) (L' := [(2, .int (4 : Int32)), (0, .ref 127), (1, .ref 4)]) dm_X2_copyOf_72 rfl rfl rfl rfl ?_
  refine me2 (pc' := 18) dm_X2_copyOf_75 rfl rfl rfl ?_
  refine me1 (pc' := 19) dm_X2_copyOf_18 rfl rfl rfl rfl ?_
  refine me0 (pc' := 21) (S' := .int (40 : Int32) :: _) dm_X2_copyOf_19 rfl rfl rfl rfl ?_
  refine me_2f (pc' := 24) dm_X2_copyOf_21 rfl (by decide) rfl ?_
  refine me1 (pc' := 25) dm_X2_copyOf_24 rfl rfl rfl rfl ?_
  refine me3 (pc' := 28) dm_X2_copyOf_25 (g_get (v := .ref 128) (le_ (n := 2) (u := 100) (v := 25) (j := 0) hn rfl hv rfl) rfl rfl (Nat.le_of_ble_eq_true rfl)) rfl rfl rfl ?_
  refine me1 (pc' := 29) dm_X2_copyOf_28 rfl rfl rfl rfl ?_
  refine me1 (pc' := 30) dm_X2_copyOf_29 rfl rfl rfl rfl ?_
  refine me3 (pc' := 33) dm_X2_copyOf_30 (g_get (v := .ref 5) (lu (n := 2) (j := 2) hn rfl) rfl rfl (Nat.le_of_ble_eq_true rfl)) rfl rfl rfl ?_
  refine me1 (pc' := 34) dm_X2_copyOf_33 rfl rfl rfl rfl ?_
  refine me3 (pc' := 35) dm_X2_copyOf_34 (g_lald (v := (0 : Int64)) (lu (n := 2) (j := 3) hn rfl) rfl (by decide) rfl (Nat.le_of_ble_eq_true rfl)) rfl rfl rfl ?_
  refine me3 (pc' := 36) dm_X2_copyOf_35 (g_last (le_ (n := 2) (u := 100) (v := 25) (j := 1) hn rfl hv rfl) (se (n := 2) (u := 100) (v := 25) (j := 1) hn rfl hv _) rfl (by decide) (Nat.le_of_ble_eq_true rfl)) rfl rfl rfl ?_
  refine me1 (pc' := 37) dm_X2_copyOf_36 rfl rfl rfl rfl ?_
  refine me3 (pc' := 40) dm_X2_copyOf_37 (g_get (v := .ref 129) (le_ (n := 2) (u := 100) (v := 25) (j := 0) hn rfl hv rfl) rfl rfl (Nat.le_of_ble_eq_true rfl)) rfl rfl rfl ?_
  refine me1 (pc' := 41) dm_X2_copyOf_40 rfl rfl rfl rfl ?_
  refine me1 (pc' := 42) dm_X2_copyOf_41 rfl rfl rfl rfl ?_
  refine me3 (pc' := 45) dm_X2_copyOf_42 (g_get (v := .ref 6) (lu (n := 2) (j := 2) hn rfl) rfl rfl (Nat.le_of_ble_eq_true rfl)) rfl rfl rfl ?_
  refine me1 (pc' := 46) dm_X2_copyOf_45 rfl rfl rfl rfl ?_
  refine me3 (pc' := 47) dm_X2_copyOf_46 (g_aald (v := .null) (lu (n := 2) (j := 4) hn rfl) rfl (by decide) rfl (Nat.le_of_ble_eq_true rfl)) rfl rfl rfl ?_
  refine me3 (pc' := 48) dm_X2_copyOf_47 (g_aastn (le_ (n := 2) (u := 100) (v := 25) (j := 2) hn rfl hv rfl) (se (n := 2) (u := 100) (v := 25) (j := 2) hn rfl hv _) rfl (by decide) (Nat.le_of_ble_eq_true rfl)) rfl rfl rfl ?_
  refine me1 (pc' := 49) dm_X2_copyOf_48 rfl rfl rfl rfl ?_
  refine me3 (pc' := 52) dm_X2_copyOf_49 (g_get (v := .ref 130) (le_ (n := 2) (u := 100) (v := 25) (j := 0) hn rfl hv rfl) rfl rfl (Nat.le_of_ble_eq_true rfl)) rfl rfl rfl ?_
  refine me1 (pc' := 53) dm_X2_copyOf_52 rfl rfl rfl rfl ?_
  refine me1 (pc' := 54) dm_X2_copyOf_53 rfl rfl rfl rfl ?_
  refine me3 (pc' := 57) dm_X2_copyOf_54 (g_get (v := .ref 7) (lu (n := 2) (j := 2) hn rfl) rfl rfl (Nat.le_of_ble_eq_true rfl)) rfl rfl rfl ?_
  refine me1 (pc' := 58) dm_X2_copyOf_57 rfl rfl rfl rfl ?_
  refine me3 (pc' := 59) dm_X2_copyOf_58 (g_lald (v := (0 : Int64)) (lu (n := 2) (j := 5) hn rfl) rfl (by decide) rfl (Nat.le_of_ble_eq_true rfl)) rfl rfl rfl ?_
  refine me3 (pc' := 60) dm_X2_copyOf_59 (g_last (le_ (n := 2) (u := 100) (v := 25) (j := 3) hn rfl hv rfl) (se (n := 2) (u := 100) (v := 25) (j := 3) hn rfl hv _) rfl (by decide) (Nat.le_of_ble_eq_true rfl)) rfl rfl rfl ?_
  refine me1 (pc' := 61) dm_X2_copyOf_60 rfl rfl rfl rfl ?_
  refine me3 (pc' := 64) dm_X2_copyOf_61 (g_get (v := .ref 131) (le_ (n := 2) (u := 100) (v := 25) (j := 0) hn rfl hv rfl) rfl rfl (Nat.le_of_ble_eq_true rfl)) rfl rfl rfl ?_
  refine me1 (pc' := 65) dm_X2_copyOf_64 rfl rfl rfl rfl ?_
  refine me1 (pc' := 66) dm_X2_copyOf_65 rfl rfl rfl rfl ?_
  refine me3 (pc' := 69) dm_X2_copyOf_66 (g_get (v := .ref 8) (lu (n := 2) (j := 2) hn rfl) rfl rfl (Nat.le_of_ble_eq_true rfl)) rfl rfl rfl ?_
  refine me1 (pc' := 70) dm_X2_copyOf_69 rfl rfl rfl rfl ?_
  refine me3 (pc' := 71) dm_X2_copyOf_70 (g_aald (v := .null) (lu (n := 2) (j := 6) hn rfl) rfl (by decide) rfl (Nat.le_of_ble_eq_true rfl)) rfl rfl rfl ?_
  refine me3 (pc' := 72) dm_X2_copyOf_71 (g_aastn (le_ (n := 2) (u := 100) (v := 25) (j := 4) hn rfl hv rfl) (se (n := 2) (u := 100) (v := 25) (j := 4) hn rfl hv _) rfl (by decide) (Nat.le_of_ble_eq_true rfl)) rfl rfl rfl ?_
  refine me1 (pc' := 75) (L' := [(2, .int (5 : Int32)), (0, .ref 127), (1, .ref 4)]) dm_X2_copyOf_72 rfl rfl rfl rfl ?_
  refine me2 (pc' := 18) dm_X2_copyOf_75 rfl rfl rfl ?_
  refine me1 (pc' := 19) dm_X2_copyOf_18 rfl rfl rfl rfl ?_
  refine me0 (pc' := 21) (S' := .int (40 : Int32) :: _) dm_X2_copyOf_19 rfl rfl rfl rfl ?_
  refine me_2f (pc' := 24) dm_X2_copyOf_21 rfl (by decide) rfl ?_
  refine me1 (pc' := 25) dm_X2_copyOf_24 rfl rfl rfl rfl ?_
  refine me3 (pc' := 28) dm_X2_copyOf_25 (g_get (v := .ref 128) (le_ (n := 2) (u := 100) (v := 25) (j := 0) hn rfl hv rfl) rfl rfl (Nat.le_of_ble_eq_true rfl)) rfl rfl rfl ?_
  refine me1 (pc' := 29) dm_X2_copyOf_28 rfl rfl rfl rfl ?_
  refine me1 (pc' := 30) dm_X2_copyOf_29 rfl rfl rfl rfl ?_
  refine me3 (pc' := 33) dm_X2_copyOf_30 (g_get (v := .ref 5) (lu (n := 2) (j := 2) hn rfl) rfl rfl (Nat.le_of_ble_eq_true rfl)) rfl rfl rfl ?_
  refine me1 (pc' := 34) dm_X2_copyOf_33 rfl rfl rfl rfl ?_
  refine me3 (pc' := 35) dm_X2_copyOf_34 (g_lald (v := (0 : Int64)) (lu (n := 2) (j := 3) hn rfl) rfl (by decide) rfl (Nat.le_of_ble_eq_true rfl)) rfl rfl rfl ?_
  refine me3 (pc' := 36) dm_X2_copyOf_35 (g_last (le_ (n := 2) (u := 100) (v := 25) (j := 1) hn rfl hv rfl) (se (n := 2) (u := 100) (v := 25) (j := 1) hn rfl hv _) rfl (by decide) (Nat.le_of_ble_eq_true rfl)) rfl rfl rfl ?_
  refine me1 (pc' := 37) dm_X2_copyOf_36 rfl rfl rfl rfl ?_
  refine me3 (pc' := 40) dm_X2_copyOf_37 (g_get (v := .ref 129) (le_ (n := 2) (u := 100) (v := 25) (j := 0) hn rfl hv rfl) rfl rfl (Nat.le_of_ble_eq_true rfl)) rfl rfl rfl ?_
  refine me1 (pc' := 41) dm_X2_copyOf_40 rfl rfl rfl rfl ?_
  refine me1 (pc' := 42) dm_X2_copyOf_41 rfl rfl rfl rfl ?_
  refine me3 (pc' := 45) dm_X2_copyOf_42 (g_get (v := .ref 6) (lu (n := 2) (j := 2) hn rfl) rfl rfl (Nat.le_of_ble_eq_true rfl)) rfl rfl rfl ?_
  refine me1 (pc' := 46) dm_X2_copyOf_45 rfl rfl rfl rfl ?_
  refine me3 (pc' := 47) dm_X2_copyOf_46 (g_aald (v := .null) (lu (n := 2) (j := 4) hn rfl) rfl (by decide) rfl (Nat.le_of_ble_eq_true rfl)) rfl rfl rfl ?_
  refine me3 (pc' := 48) dm_X2_copyOf_47 (g_aastn (le_ (n := 2) (u := 100) (v := 25) (j := 2) hn rfl hv rfl) (se (n := 2) (u := 100) (v := 25) (j := 2) hn rfl hv _) rfl (by decide) (Nat.le_of_ble_eq_true rfl)) rfl rfl rfl ?_
  refine me1 (pc' := 49) dm_X2_copyOf_48 rfl rfl rfl rfl ?_
  refine me3 (pc' := 52) dm_X2_copyOf_49 (g_get (v := .ref 130) (le_ (n := 2) (u := 100) (v := 25) (j := 0) hn rfl hv rfl) rfl rfl (Nat.le_of_ble_eq_true rfl)) rfl rfl rfl ?_
  refine me1 (pc' := 53) dm_X2_copyOf_52 rfl rfl rfl rfl ?_
  refine me1 (pc' := 54) dm_X2_copyOf_53 rfl rfl rfl rfl ?_
  refine me3 (pc' := 57) dm_X2_copyOf_54 (g_get (v := .ref 7) (lu (n := 2) (j := 2) hn rfl) rfl rfl (Nat.le_of_ble_eq_true rfl)) rfl rfl rfl ?_
  refine me1 (pc' := 58) dm_X2_copyOf_57 rfl rfl rfl rfl ?_
  refine me3 (pc' := 59) dm_X2_copyOf_58 (g_lald (v := (0 : Int64)) (lu (n := 2) (j := 5) hn rfl) rfl (by decide) rfl (Nat.le_of_ble_eq_true rfl)) rfl rfl rfl ?_
  refine me3 (pc' := 60) dm_X2_copyOf_59 (g_last (le_ (n := 2) (u := 100) (v := 25) (j := 3) hn rfl hv rfl) (se (n := 2) (u := 100) (v := 25) (j := 3) hn rfl hv _) rfl (by decide) (Nat.le_of_ble_eq_true rfl)) rfl rfl rfl ?_
  refine me1 (pc' := 61) dm_X2_copyOf_60 rfl rfl rfl rfl ?_
  refine me3 (pc' := 64) dm_X2_copyOf_61 (g_get (v := .ref 131) (le_ (n := 2) (u := 100) (v := 25) (j := 0) hn rfl hv rfl) rfl rfl (Nat.le_of_ble_eq_true rfl)) rfl rfl rfl ?_
  refine me1 (pc' := 65) dm_X2_copyOf_64 rfl rfl rfl rfl ?_
  refine me1 (pc' := 66) dm_X2_copyOf_65 rfl rfl rfl rfl ?_
  refine me3 (pc' := 69) dm_X2_copyOf_66 (g_get (v := .ref 8) (lu (n := 2) (j := 2) hn rfl) rfl rfl (Nat.le_of_ble_eq_true rfl)) rfl rfl rfl ?_
  refine me1 (pc' := 70) dm_X2_copyOf_69 rfl rfl rfl rfl ?_
  refine me3 (pc' := 71) dm_X2_copyOf_70 (g_aald (v := .null) (lu (n := 2) (j := 6) hn rfl) rfl (by decide) rfl (Nat.le_of_ble_eq_true rfl)) rfl rfl rfl ?_
  refine me3 (pc' := 72) dm_X2_copyOf_71 (g_aastn (le_ (n := 2) (u := 100) (v := 25) (j := 4) hn rfl hv rfl) (se (n := 2) (u := 100) (v := 25) (j := 4) hn rfl hv _) rfl (by decide) (Nat.le_of_ble_eq_true rfl)) rfl rfl rfl ?_
  refine me1 (pc' := 75) (L' := [(2, .int (6 : Int32)), (0, .ref 127), (1, .ref 4)]) dm_X2_copyOf_72 rfl rfl rfl rfl ?_
  refine me2 (pc' := 18) dm_X2_copyOf_75 rfl rfl rfl ?_
  refine me1 (pc' := 19) dm_X2_copyOf_18 rfl rfl rfl rfl ?_
  refine me0 (pc' := 21) (S' := .int (40 : Int32) :: _) dm_X2_copyOf_19 rfl rfl rfl rfl ?_
  refine me_2f (pc' := 24) dm_X2_copyOf_21 rfl (by decide) rfl ?_
  refine me1 (pc' := 25) dm_X2_copyOf_24 rfl rfl rfl rfl ?_
  refine me3 (pc' := 28) dm_X2_copyOf_25 (g_get (v := .ref 128) (le_ (n := 2) (u := 100) (v := 25) (j := 0) hn rfl hv rfl) rfl rfl (Nat.le_of_ble_eq_true rfl)) rfl rfl rfl ?_
  refine me1 (pc' := 29) dm_X2_copyOf_28 rfl rfl rfl rfl ?_
  refine me1 (pc' := 30) dm_X2_copyOf_29 rfl rfl rfl rfl ?_
  refine me3 (pc' := 33) dm_X2_copyOf_30 (g_get (v := .ref 5) (lu (n := 2) (j := 2) hn rfl) rfl rfl (Nat.le_of_ble_eq_true rfl)) rfl rfl rfl ?_
  refine me1 (pc' := 34) dm_X2_copyOf_33 rfl rfl rfl rfl ?_
  refine me3 (pc' := 35) dm_X2_copyOf_34 (g_lald (v := (0 : Int64)) (lu (n := 2) (j := 3) hn rfl) rfl (by decide) rfl (Nat.le_of_ble_eq_true rfl)) rfl rfl rfl ?_
  refine me3 (pc' := 36) dm_X2_copyOf_35 (g_last (le_ (n := 2) (u := 100) (v := 25) (j := 1) hn rfl hv rfl) (se (n := 2) (u := 100) (v := 25) (j := 1) hn rfl hv _) rfl (by decide) (Nat.le_of_ble_eq_true rfl)) rfl rfl rfl ?_
  refine me1 (pc' := 37) dm_X2_copyOf_36 rfl rfl rfl rfl ?_
  refine me3 (pc' := 40) dm_X2_copyOf_37 (g_get (v := .ref 129) (le_ (n := 2) (u := 100) (v := 25) (j := 0) hn rfl hv rfl) rfl rfl (Nat.le_of_ble_eq_true rfl)) rfl rfl rfl ?_
  refine me1 (pc' := 41) dm_X2_copyOf_40 rfl rfl rfl rfl ?_
  refine me1 (pc' := 42) dm_X2_copyOf_41 rfl rfl rfl rfl ?_
  refine me3 (pc' := 45) dm_X2_copyOf_42 (g_get (v := .ref 6) (lu (n := 2) (j := 2) hn rfl) rfl rfl (Nat.le_of_ble_eq_true rfl)) rfl rfl rfl ?_
  refine me1 (pc' := 46) dm_X2_copyOf_45 rfl rfl rfl rfl ?_
  refine me3 (pc' := 47) dm_X2_copyOf_46 (g_aald (v := .null) (lu (n := 2) (j := 4) hn rfl) rfl (by decide) rfl (Nat.le_of_ble_eq_true rfl)) rfl rfl rfl ?_
  refine me3 (pc' := 48) dm_X2_copyOf_47 (g_aastn (le_ (n := 2) (u := 100) (v := 25) (j := 2) hn rfl hv rfl) (se (n := 2) (u := 100) (v := 25) (j := 2) hn rfl hv _) rfl (by decide) (Nat.le_of_ble_eq_true rfl)) rfl rfl rfl ?_
  refine me1 (pc' := 49) dm_X2_copyOf_48 rfl rfl rfl rfl ?_
  refine me3 (pc' := 52) dm_X2_copyOf_49 (g_get (v := .ref 130) (le_ (n := 2) (u := 100) (v := 25) (j := 0) hn rfl hv rfl) rfl rfl (Nat.le_of_ble_eq_true rfl)) rfl rfl rfl ?_
  refine me1 (pc' := 53) dm_X2_copyOf_52 rfl rfl rfl rfl ?_
  refine me1 (pc' := 54) dm_X2_copyOf_53 rfl rfl rfl rfl ?_
  refine me3 (pc' := 57) dm_X2_copyOf_54 (g_get (v := .ref 7) (lu (n := 2) (j := 2) hn rfl) rfl rfl (Nat.le_of_ble_eq_true rfl)) rfl rfl rfl ?_
  refine me1 (pc' := 58) dm_X2_copyOf_57 rfl rfl rfl rfl ?_
  refine me3 (pc' := 59) dm_X2_copyOf_58 (g_lald (v := (0 : Int64)) (lu (n := 2) (j := 5) hn rfl) rfl (by decide) rfl (Nat.le_of_ble_eq_true rfl)) rfl rfl rfl ?_
  refine me3 (pc' := 60) dm_X2_copyOf_59 (g_last (le_ (n := 2) (u := 100) (v := 25) (j := 3) hn rfl hv rfl) (se (n := 2) (u := 100) (v := 25) (j := 3) hn rfl hv _) rfl (by decide) (Nat.le_of_ble_eq_true rfl)) rfl rfl rfl ?_
  refine me1 (pc' := 61) dm_X2_copyOf_60 rfl rfl rfl rfl ?_
  refine me3 (pc' := 64) dm_X2_copyOf_61 (g_get (v := .ref 131) (le_ (n := 2) (u := 100) (v := 25) (j := 0) hn rfl hv rfl) rfl rfl (Nat.le_of_ble_eq_true rfl)) rfl rfl rfl ?_
  refine me1 (pc' := 65) dm_X2_copyOf_64 rfl rfl rfl rfl ?_
  refine me1 (pc' := 66) dm_X2_copyOf_65 rfl rfl rfl rfl ?_
  refine me3 (pc' := 69) dm_X2_copyOf_66 (g_get (v := .ref 8) (lu (n := 2) (j := 2) hn rfl) rfl rfl (Nat.le_of_ble_eq_true rfl)) rfl rfl rfl ?_
  refine me1 (pc' := 70) dm_X2_copyOf_69 rfl rfl rfl rfl ?_
  refine me3 (pc' := 71) dm_X2_copyOf_70 (g_aald (v := .null) (lu (n := 2) (j := 6) hn rfl) rfl (by decide) rfl (Nat.le_of_ble_eq_true rfl)) rfl rfl rfl ?_
  refine me3 (pc' := 72) dm_X2_copyOf_71 (g_aastn (le_ (n := 2) (u := 100) (v := 25) (j := 4) hn rfl hv rfl) (se (n := 2) (u := 100) (v := 25) (j := 4) hn rfl hv _) rfl (by decide) (Nat.le_of_ble_eq_true rfl)) rfl rfl rfl ?_
  refine me1 (pc' := 75) (L' := [(2, .int (7 : Int32)), (0, .ref 127), (1, .ref 4)]) dm_X2_copyOf_72 rfl rfl rfl rfl ?_
  refine me2 (pc' := 18) dm_X2_copyOf_75 rfl rfl rfl ?_
  refine me1 (pc' := 19) dm_X2_copyOf_18 rfl rfl rfl rfl ?_
  refine me0 (pc' := 21) (S' := .int (40 : Int32) :: _) dm_X2_copyOf_19 rfl rfl rfl rfl ?_
  refine me_2f (pc' := 24) dm_X2_copyOf_21 rfl (by decide) rfl ?_
  refine me1 (pc' := 25) dm_X2_copyOf_24 rfl rfl rfl rfl ?_
  refine me3 (pc' := 28) dm_X2_copyOf_25 (g_get (v := .ref 128) (le_ (n := 2) (u := 100) (v := 25) (j := 0) hn rfl hv rfl) rfl rfl (Nat.le_of_ble_eq_true rfl)) rfl rfl rfl ?_
  refine me1 (pc' := 29) dm_X2_copyOf_28 rfl rfl rfl rfl ?_
  refine me1 (pc' := 30) dm_X2_copyOf_29 rfl rfl rfl rfl ?_
  refine me3 (pc' := 33) dm_X2_copyOf_30 (g_get (v := .ref 5) (lu (n := 2) (j := 2) hn rfl) rfl rfl (Nat.le_of_ble_eq_true rfl)) rfl rfl rfl ?_
  refine me1 (pc' := 34) dm_X2_copyOf_33 rfl rfl rfl rfl ?_
  refine me3 (pc' := 35) dm_X2_copyOf_34 (g_lald (v := (0 : Int64)) (lu (n := 2) (j := 3) hn rfl) rfl (by decide) rfl (Nat.le_of_ble_eq_true rfl)) rfl rfl rfl ?_
  refine me3 (pc' := 36) dm_X2_copyOf_35 (g_last (le_ (n := 2) (u := 100) (v := 25) (j := 1) hn rfl hv rfl) (se (n := 2) (u := 100) (v := 25) (j := 1) hn rfl hv _) rfl (by decide) (Nat.le_of_ble_eq_true rfl)) rfl rfl rfl ?_
  refine me1 (pc' := 37) dm_X2_copyOf_36 rfl rfl rfl rfl ?_
  refine me3 (pc' := 40) dm_X2_copyOf_37 (g_get (v := .ref 129) (le_ (n := 2) (u := 100) (v := 25) (j := 0) hn rfl hv rfl) rfl rfl (Nat.le_of_ble_eq_true rfl)) rfl rfl rfl ?_
  refine me1 (pc' := 41) dm_X2_copyOf_40 rfl rfl rfl rfl ?_
  refine me1 (pc' := 42) dm_X2_copyOf_41 rfl rfl rfl rfl ?_
  refine me3 (pc' := 45) dm_X2_copyOf_42 (g_get (v := .ref 6) (lu (n := 2) (j := 2) hn rfl) rfl rfl (Nat.le_of_ble_eq_true rfl)) rfl rfl rfl ?_
  refine me1 (pc' := 46) dm_X2_copyOf_45 rfl rfl rfl rfl ?_
  refine me3 (pc' := 47) dm_X2_copyOf_46 (g_aald (v := .null) (lu (n := 2) (j := 4) hn rfl) rfl (by decide) rfl (Nat.le_of_ble_eq_true rfl)) rfl rfl rfl ?_
  refine me3 (pc' := 48) dm_X2_copyOf_47 (g_aastn (le_ (n := 2) (u := 100) (v := 25) (j := 2) hn rfl hv rfl) (se (n := 2) (u := 100) (v := 25) (j := 2) hn rfl hv _) rfl (by decide) (Nat.le_of_ble_eq_true rfl)) rfl rfl rfl ?_
  refine me1 (pc' := 49) dm_X2_copyOf_48 rfl rfl rfl rfl ?_
  refine me3 (pc' := 52) dm_X2_copyOf_49 (g_get (v := .ref 130) (le_ (n := 2) (u := 100) (v := 25) (j := 0) hn rfl hv rfl) rfl rfl (Nat.le_of_ble_eq_true rfl)) rfl rfl rfl ?_
  refine me1 (pc' := 53) dm_X2_copyOf_52 rfl rfl rfl rfl ?_
  refine me1 (pc' := 54) dm_X2_copyOf_53 rfl rfl rfl rfl ?_
  refine me3 (pc' := 57) dm_X2_copyOf_54 (g_get (v := .ref 7) (lu (n := 2) (j := 2) hn rfl) rfl rfl (Nat.le_of_ble_eq_true rfl)) rfl rfl rfl ?_
  refine me1 (pc' := 58) dm_X2_copyOf_57 rfl rfl rfl rfl ?_
  refine me3 (pc' := 59) dm_X2_copyOf_58 (g_lald (v := (0 : Int64)) (lu (n := 2) (j := 5) hn rfl) rfl (by decide) rfl (Nat.le_of_ble_eq_true rfl)) rfl rfl rfl ?_
  refine me3 (pc' := 60) dm_X2_copyOf_59 (g_last (le_ (n := 2) (u := 100) (v := 25) (j := 3) hn rfl hv rfl) (se (n := 2) (u := 100) (v := 25) (j := 3) hn rfl hv _) rfl (by decide) (Nat.le_of_ble_eq_true rfl)) rfl rfl rfl ?_
  refine me1 (pc' := 61) dm_X2_copyOf_60 rfl rfl rfl rfl ?_
  refine me3 (pc' := 64) dm_X2_copyOf_61 (g_get (v := .ref 131) (le_ (n := 2) (u := 100) (v := 25) (j := 0) hn rfl hv rfl) rfl rfl (Nat.le_of_ble_eq_true rfl)) rfl rfl rfl ?_
  refine me1 (pc' := 65) dm_X2_copyOf_64 rfl rfl rfl rfl ?_
  refine me1 (pc' := 66) dm_X2_copyOf_65 rfl rfl rfl rfl ?_
  refine me3 (pc' := 69) dm_X2_copyOf_66 (g_get (v := .ref 8) (lu (n := 2) (j := 2) hn rfl) rfl rfl (Nat.le_of_ble_eq_true rfl)) rfl rfl rfl ?_
  refine me1 (pc' := 70) dm_X2_copyOf_69 rfl rfl rfl rfl ?_
  refine me3 (pc' := 71) dm_X2_copyOf_70 (g_aald (v := .null) (lu (n := 2) (j := 6) hn rfl) rfl (by decide) rfl (Nat.le_of_ble_eq_true rfl)) rfl rfl rfl ?_
  refine me3 (pc' := 72) dm_X2_copyOf_71 (g_aastn (le_ (n := 2) (u := 100) (v := 25) (j := 4) hn rfl hv rfl) (se (n := 2) (u := 100) (v := 25) (j := 4) hn rfl hv _) rfl (by decide) (Nat.le_of_ble_eq_true rfl)) rfl rfl rfl ?_
  refine me1 (pc' := 75) (L' := [(2, .int (8 : Int32)), (0, .ref 127), (1, .ref 4)]) dm_X2_copyOf_72 rfl rfl rfl rfl ?_
  refine me2 (pc' := 18) dm_X2_copyOf_75 rfl rfl rfl ?_
  refine me1 (pc' := 19) dm_X2_copyOf_18 rfl rfl rfl rfl ?_
  refine me0 (pc' := 21) (S' := .int (40 : Int32) :: _) dm_X2_copyOf_19 rfl rfl rfl rfl ?_
  refine me_2f (pc' := 24) dm_X2_copyOf_21 rfl (by decide) rfl ?_
  refine me1 (pc' := 25) dm_X2_copyOf_24 rfl rfl rfl rfl ?_
  refine me3 (pc' := 28) dm_X2_copyOf_25 (g_get (v := .ref 128) (le_ (n := 2) (u := 100) (v := 25) (j := 0) hn rfl hv rfl) rfl rfl (Nat.le_of_ble_eq_true rfl)) rfl rfl rfl ?_
  refine me1 (pc' := 29) dm_X2_copyOf_28 rfl rfl rfl rfl ?_
  refine me1 (pc' := 30) dm_X2_copyOf_29 rfl rfl rfl rfl ?_
  refine me3 (pc' := 33) dm_X2_copyOf_30 (g_get (v := .ref 5) (lu (n := 2) (j := 2) hn rfl) rfl rfl (Nat.le_of_ble_eq_true rfl)) rfl rfl rfl ?_
  refine me1 (pc' := 34) dm_X2_copyOf_33 rfl rfl rfl rfl ?_
  refine me3 (pc' := 35) dm_X2_copyOf_34 (g_lald (v := (0 : Int64)) (lu (n := 2) (j := 3) hn rfl) rfl (by decide) rfl (Nat.le_of_ble_eq_true rfl)) rfl rfl rfl ?_
  refine me3 (pc' := 36) dm_X2_copyOf_35 (g_last (le_ (n := 2) (u := 100) (v := 25) (j := 1) hn rfl hv rfl) (se (n := 2) (u := 100) (v := 25) (j := 1) hn rfl hv _) rfl (by decide) (Nat.le_of_ble_eq_true rfl)) rfl rfl rfl ?_
  refine me1 (pc' := 37) dm_X2_copyOf_36 rfl rfl rfl rfl ?_
  refine me3 (pc' := 40) dm_X2_copyOf_37 (g_get (v := .ref 129) (le_ (n := 2) (u := 100) (v := 25) (j := 0) hn rfl hv rfl) rfl rfl (Nat.le_of_ble_eq_true rfl)) rfl rfl rfl ?_
  refine me1 (pc' := 41) dm_X2_copyOf_40 rfl rfl rfl rfl ?_
  refine me1 (pc' := 42) dm_X2_copyOf_41 rfl rfl rfl rfl ?_
  refine me3 (pc' := 45) dm_X2_copyOf_42 (g_get (v := .ref 6) (lu (n := 2) (j := 2) hn rfl) rfl rfl (Nat.le_of_ble_eq_true rfl)) rfl rfl rfl ?_
  refine me1 (pc' := 46) dm_X2_copyOf_45 rfl rfl rfl rfl ?_
  refine me3 (pc' := 47) dm_X2_copyOf_46 (g_aald (v := .null) (lu (n := 2) (j := 4) hn rfl) rfl (by decide) rfl (Nat.le_of_ble_eq_true rfl)) rfl rfl rfl ?_
  refine me3 (pc' := 48) dm_X2_copyOf_47 (g_aastn (le_ (n := 2) (u := 100) (v := 25) (j := 2) hn rfl hv rfl) (se (n := 2) (u := 100) (v := 25) (j := 2) hn rfl hv _) rfl (by decide) (Nat.le_of_ble_eq_true rfl)) rfl rfl rfl ?_
  refine me1 (pc' := 49) dm_X2_copyOf_48 rfl rfl rfl rfl ?_
  refine me3 (pc' := 52) dm_X2_copyOf_49 (g_get (v := .ref 130) (le_ (n := 2) (u := 100) (v := 25) (j := 0) hn rfl hv rfl) rfl rfl (Nat.le_of_ble_eq_true rfl)) rfl rfl rfl ?_
  refine me1 (pc' := 53) dm_X2_copyOf_52 rfl rfl rfl rfl ?_
  refine me1 (pc' := 54) dm_X2_copyOf_53 rfl rfl rfl rfl ?_
  refine me3 (pc' := 57) dm_X2_copyOf_54 (g_get (v := .ref 7) (lu (n := 2) (j := 2) hn rfl) rfl rfl (Nat.le_of_ble_eq_true rfl)) rfl rfl rfl ?_
  refine me1 (pc' := 58) dm_X2_copyOf_57 rfl rfl rfl rfl ?_
  refine me3 (pc' := 59) dm_X2_copyOf_58 (g_lald (v := (0 : Int64)) (lu (n := 2) (j := 5) hn rfl) rfl (by decide) rfl (Nat.le_of_ble_eq_true rfl)) rfl rfl rfl ?_
  refine me3 (pc' := 60) dm_X2_copyOf_59 (g_last (le_ (n := 2) (u := 100) (v := 25) (j := 3) hn rfl hv rfl) (se (n := 2) (u := 100) (v := 25) (j := 3) hn rfl hv _) rfl (by decide) (Nat.le_of_ble_eq_true rfl)) rfl rfl rfl ?_
  refine me1 (pc' := 61) dm_X2_copyOf_60 rfl rfl rfl rfl ?_
  refine me3 (pc' := 64) dm_X2_copyOf_61 (g_get (v := .ref 131) (le_ (n := 2) (u := 100) (v := 25) (j := 0) hn rfl hv rfl) rfl rfl (Nat.le_of_ble_eq_true rfl)) rfl rfl rfl ?_
  refine me1 (pc' := 65) dm_X2_copyOf_64 rfl rfl rfl rfl ?_
  refine me1 (pc' := 66) dm_X2_copyOf_65 rfl rfl rfl rfl ?_
  refine me3 (pc' := 69) dm_X2_copyOf_66 (g_get (v := .ref 8) (lu (n := 2) (j := 2) hn rfl) rfl rfl (Nat.le_of_ble_eq_true rfl)) rfl rfl rfl ?_
  refine me1 (pc' := 70) dm_X2_copyOf_69 rfl rfl rfl rfl ?_
  refine me3 (pc' := 71) dm_X2_copyOf_70 (g_aald (v := .null) (lu (n := 2) (j := 6) hn rfl) rfl (by decide) rfl (Nat.le_of_ble_eq_true rfl)) rfl rfl rfl ?_
  refine me3 (pc' := 72) dm_X2_copyOf_71 (g_aastn (le_ (n := 2) (u := 100) (v := 25) (j := 4) hn rfl hv rfl) (se (n := 2) (u := 100) (v := 25) (j := 4) hn rfl hv _) rfl (by decide) (Nat.le_of_ble_eq_true rfl)) rfl rfl rfl ?_
  refine me1 (pc' := 75) (L' := [(2, .int (9 : Int32)), (0, .ref 127), (1, .ref 4)]) dm_X2_copyOf_72 rfl rfl rfl rfl ?_
  refine me2 (pc' := 18) dm_X2_copyOf_75 rfl rfl rfl ?_
  refine me1 (pc' := 19) dm_X2_copyOf_18 rfl rfl rfl rfl ?_
  refine me0 (pc' := 21) (S' := .int (40 : Int32) :: _) dm_X2_copyOf_19 rfl rfl rfl rfl ?_
  refine me_2f (pc' := 24) dm_X2_copyOf_21 rfl (by decide) rfl ?_
  refine me1 (pc' := 25) dm_X2_copyOf_24 rfl rfl rfl rfl ?_
  refine me3 (pc' := 28) dm_X2_copyOf_25 (g_get (v := .ref 128) (le_ (n := 2) (u := 100) (v := 25) (j := 0) hn rfl hv rfl) rfl rfl (Nat.le_of_ble_eq_true rfl)) rfl rfl rfl ?_
  refine me1 (pc' := 29) dm_X2_copyOf_28 rfl rfl rfl rfl ?_
  refine me1 (pc' := 30) dm_X2_copyOf_29 rfl rfl rfl rfl ?_
  refine me3 (pc' := 33) dm_X2_copyOf_30 (g_get (v := .ref 5) (lu (n := 2) (j := 2) hn rfl) rfl rfl (Nat.le_of_ble_eq_true rfl)) rfl rfl rfl ?_
  refine me1 (pc' := 34) dm_X2_copyOf_33 rfl rfl rfl rfl ?_
  refine me3 (pc' := 35) dm_X2_copyOf_34 (g_lald (v := (0 : Int64)) (lu (n := 2) (j := 3) hn rfl) rfl (by decide) rfl (Nat.le_of_ble_eq_true rfl)) rfl rfl rfl ?_
  refine me3 (pc' := 36) dm_X2_copyOf_35 (g_last (le_ (n := 2) (u := 100) (v := 25) (j := 1) hn rfl hv rfl) (se (n := 2) (u := 100) (v := 25) (j := 1) hn rfl hv _) rfl (by decide) (Nat.le_of_ble_eq_true rfl)) rfl rfl rfl ?_
  refine me1 (pc' := 37) dm_X2_copyOf_36 rfl rfl rfl rfl ?_
  refine me3 (pc' := 40) dm_X2_copyOf_37 (g_get (v := .ref 129) (le_ (n := 2) (u := 100) (v := 25) (j := 0) hn rfl hv rfl) rfl rfl (Nat.le_of_ble_eq_true rfl)) rfl rfl rfl ?_
  refine me1 (pc' := 41) dm_X2_copyOf_40 rfl rfl rfl rfl ?_
  refine me1 (pc' := 42) dm_X2_copyOf_41 rfl rfl rfl rfl ?_
  refine me3 (pc' := 45) dm_X2_copyOf_42 (g_get (v := .ref 6) (lu (n := 2) (j := 2) hn rfl) rfl rfl (Nat.le_of_ble_eq_true rfl)) rfl rfl rfl ?_
  refine me1 (pc' := 46) dm_X2_copyOf_45 rfl rfl rfl rfl ?_
  refine me3 (pc' := 47) dm_X2_copyOf_46 (g_aald (v := .null) (lu (n := 2) (j := 4) hn rfl) rfl (by decide) rfl (Nat.le_of_ble_eq_true rfl)) rfl rfl rfl ?_
  refine me3 (pc' := 48) dm_X2_copyOf_47 (g_aastn (le_ (n := 2) (u := 100) (v := 25) (j := 2) hn rfl hv rfl) (se (n := 2) (u := 100) (v := 25) (j := 2) hn rfl hv _) rfl (by decide) (Nat.le_of_ble_eq_true rfl)) rfl rfl rfl ?_
  refine me1 (pc' := 49) dm_X2_copyOf_48 rfl rfl rfl rfl ?_
  refine me3 (pc' := 52) dm_X2_copyOf_49 (g_get (v := .ref 130) (le_ (n := 2) (u := 100) (v := 25) (j := 0) hn rfl hv rfl) rfl rfl (Nat.le_of_ble_eq_true rfl)) rfl rfl rfl ?_
  refine me1 (pc' := 53) dm_X2_copyOf_52 rfl rfl rfl rfl ?_
  refine me1 (pc' := 54) dm_X2_copyOf_53 rfl rfl rfl rfl ?_
  refine me3 (pc' := 57) dm_X2_copyOf_54 (g_get (v := .ref 7) (lu (n := 2) (j := 2) hn rfl) rfl rfl (Nat.le_of_ble_eq_true rfl)) rfl rfl rfl ?_
  refine me1 (pc' := 58) dm_X2_copyOf_57 rfl rfl rfl rfl ?_
  refine me3 (pc' := 59) dm_X2_copyOf_58 (g_lald (v := (0 : Int64)) (lu (n := 2) (j := 5) hn rfl) rfl (by decide) rfl (Nat.le_of_ble_eq_true rfl)) rfl rfl rfl ?_
  refine me3 (pc' := 60) dm_X2_copyOf_59 (g_last (le_ (n := 2) (u := 100) (v := 25) (j := 3) hn rfl hv rfl) (se (n := 2) (u := 100) (v := 25) (j := 3) hn rfl hv _) rfl (by decide) (Nat.le_of_ble_eq_true rfl)) rfl rfl rfl ?_
  refine me1 (pc' := 61) dm_X2_copyOf_60 rfl rfl rfl rfl ?_
  refine me3 (pc' := 64) dm_X2_copyOf_61 (g_get (v := .ref 131) (le_ (n := 2) (u := 100) (v := 25) (j := 0) hn rfl hv rfl) rfl rfl (Nat.le_of_ble_eq_true rfl)) rfl rfl rfl ?_
  refine me1 (pc' := 65) dm_X2_copyOf_64 rfl rfl rfl rfl ?_
  refine me1 (pc' := 66) dm_X2_copyOf_65 rfl rfl rfl rfl ?_
  refine me3 (pc' := 69) dm_X2_copyOf_66 (g_get (v := .ref 8) (lu (n := 2) (j := 2) hn rfl) rfl rfl (Nat.le_of_ble_eq_true rfl)) rfl rfl rfl ?_
  refine me1 (pc' := 70) dm_X2_copyOf_69 rfl rfl rfl rfl ?_
  refine me3 (pc' := 71) dm_X2_copyOf_70 (g_aald (v := .null) (lu (n := 2) (j := 6) hn rfl) rfl (by decide) rfl (Nat.le_of_ble_eq_true rfl)) rfl rfl rfl ?_
  refine me3 (pc' := 72) dm_X2_copyOf_71 (g_aastn (le_ (n := 2) (u := 100) (v := 25) (j := 4) hn rfl hv rfl) (se (n := 2) (u := 100) (v := 25) (j := 4) hn rfl hv _) rfl (by decide) (Nat.le_of_ble_eq_true rfl)) rfl rfl rfl ?_
  refine me1 (pc' := 75) (L' := [(2, .int (10 : Int32)), (0, .ref 127), (1, .ref 4)]) dm_X2_copyOf_72 rfl rfl rfl rfl ?_
  refine me2 (pc' := 18) dm_X2_copyOf_75 rfl rfl rfl ?_
  refine me1 (pc' := 19) dm_X2_copyOf_18 rfl rfl rfl rfl ?_
  refine me0 (pc' := 21) (S' := .int (40 : Int32) :: _) dm_X2_copyOf_19 rfl rfl rfl rfl ?_
  refine me_2f (pc' := 24) dm_X2_copyOf_21 rfl (by decide) rfl ?_
  refine me1 (pc' := 25) dm_X2_copyOf_24 rfl rfl rfl rfl ?_
  refine me3 (pc' := 28) dm_X2_copyOf_25 (g_get (v := .ref 128) (le_ (n := 2) (u := 100) (v := 25) (j := 0) hn rfl hv rfl) rfl rfl (Nat.le_of_ble_eq_true rfl)) rfl rfl rfl ?_
  refine me1 (pc' := 29) dm_X2_copyOf_28 rfl rfl rfl rfl ?_
  refine me1 (pc' := 30) dm_X2_copyOf_29 rfl rfl rfl rfl ?_
  refine me3 (pc' := 33) dm_X2_copyOf_30 (g_get (v := .ref 5) (lu (n := 2) (j := 2) hn rfl) rfl rfl (Nat.le_of_ble_eq_true rfl)) rfl rfl rfl ?_
  refine me1 (pc' := 34) dm_X2_copyOf_33 rfl rfl rfl rfl ?_
  refine me3 (pc' := 35) dm_X2_copyOf_34 (g_lald (v := (0 : Int64)) (lu (n := 2) (j := 3) hn rfl) rfl (by decide) rfl (Nat.le_of_ble_eq_true rfl)) rfl rfl rfl ?_
  refine me3 (pc' := 36) dm_X2_copyOf_35 (g_last (le_ (n := 2) (u := 100) (v := 25) (j := 1) hn rfl hv rfl) (se (n := 2) (u := 100) (v := 25) (j := 1) hn rfl hv _) rfl (by decide) (Nat.le_of_ble_eq_true rfl)) rfl rfl rfl ?_
  refine me1 (pc' := 37) dm_X2_copyOf_36 rfl rfl rfl rfl ?_
  refine me3 (pc' := 40) dm_X2_copyOf_37 (g_get (v := .ref 129) (le_ (n := 2) (u := 100) (v := 25) (j := 0) hn rfl hv rfl) rfl rfl (Nat.le_of_ble_eq_true rfl)) rfl rfl rfl ?_
  refine me1 (pc' := 41) dm_X2_copyOf_40 rfl rfl rfl rfl ?_
  refine me1 (pc' := 42) dm_X2_copyOf_41 rfl rfl rfl rfl ?_
  refine me3 (pc' := 45) dm_X2_copyOf_42 (g_get (v := .ref 6) (lu (n := 2) (j := 2) hn rfl) rfl rfl (Nat.le_of_ble_eq_true rfl)) rfl rfl rfl ?_
  refine me1 (pc' := 46) dm_X2_copyOf_45 rfl rfl rfl rfl ?_
  refine me3 (pc' := 47) dm_X2_copyOf_46 (g_aald (v := .null) (lu (n := 2) (j := 4) hn rfl) rfl (by decide) rfl (Nat.le_of_ble_eq_true rfl)) rfl rfl rfl ?_
  refine me3 (pc' := 48) dm_X2_copyOf_47 (g_aastn (le_ (n := 2) (u := 100) (v := 25) (j := 2) hn rfl hv rfl) (se (n := 2) (u := 100) (v := 25) (j := 2) hn rfl hv _) rfl (by decide) (Nat.le_of_ble_eq_true rfl)) rfl rfl rfl ?_
  refine me1 (pc' := 49) dm_X2_copyOf_48 rfl rfl rfl rfl ?_
  refine me3 (pc' := 52) dm_X2_copyOf_49 (g_get (v := .ref 130) (le_ (n := 2) (u := 100) (v := 25) (j := 0) hn rfl hv rfl) rfl rfl (Nat.le_of_ble_eq_true rfl)) rfl rfl rfl ?_
  refine me1 (pc' := 53) dm_X2_copyOf_52 rfl rfl rfl rfl ?_
  refine me1 (pc' := 54) dm_X2_copyOf_53 rfl rfl rfl rfl ?_
  refine me3 (pc' := 57) dm_X2_copyOf_54 (g_get (v := .ref 7) (lu (n := 2) (j := 2) hn rfl) rfl rfl (Nat.le_of_ble_eq_true rfl)) rfl rfl rfl ?_
  refine me1 (pc' := 58) dm_X2_copyOf_57 rfl rfl rfl rfl ?_
  refine me3 (pc' := 59) dm_X2_copyOf_58 (g_lald (v := (0 : Int64)) (lu (n := 2) (j := 5) hn rfl) rfl (by decide) rfl (Nat.le_of_ble_eq_true rfl)) rfl rfl rfl ?_
  refine me3 (pc' := 60) dm_X2_copyOf_59 (g_last (le_ (n := 2) (u := 100) (v := 25) (j := 3) hn rfl hv rfl) (se (n := 2) (u := 100) (v := 25) (j := 3) hn rfl hv _) rfl (by decide) (Nat.le_of_ble_eq_true rfl)) rfl rfl rfl ?_
  refine me1 (pc' := 61) dm_X2_copyOf_60 rfl rfl rfl rfl ?_
  refine me3 (pc' := 64) dm_X2_copyOf_61 (g_get (v := .ref 131) (le_ (n := 2) (u := 100) (v := 25) (j := 0) hn rfl hv rfl) rfl rfl (Nat.le_of_ble_eq_true rfl)) rfl rfl rfl ?_
  refine me1 (pc' := 65) dm_X2_copyOf_64 rfl rfl rfl rfl ?_
  refine me1 (pc' := 66) dm_X2_copyOf_65 rfl rfl rfl rfl ?_
  refine me3 (pc' := 69) dm_X2_copyOf_66 (g_get (v := .ref 8) (lu (n := 2) (j := 2) hn rfl) rfl rfl (Nat.le_of_ble_eq_true rfl)) rfl rfl rfl ?_
  refine me1 (pc' := 70) dm_X2_copyOf_69 rfl rfl rfl rfl ?_
  refine me3 (pc' := 71) dm_X2_copyOf_70 (g_aald (v := .null) (lu (n := 2) (j := 6) hn rfl) rfl (by decide) rfl (Nat.le_of_ble_eq_true rfl)) rfl rfl rfl ?_
  refine me3 (pc' := 72) dm_X2_copyOf_71 (g_aastn (le_ (n := 2) (u := 100) (v := 25) (j := 4) hn rfl hv rfl) (se (n := 2) (u := 100) (v := 25) (j := 4) hn rfl hv _) rfl (by decide) (Nat.le_of_ble_eq_true rfl)) rfl rfl rfl ?_
  refine me1 (pc' := 75) (L' := [(2, .int (11 : Int32)), (0, .ref 127), (1, .ref 4)]) dm_X2_copyOf_72 rfl rfl rfl rfl ?_
  refine me2 (pc' := 18) dm_X2_copyOf_75 rfl rfl rfl ?_
  refine me1 (pc' := 19) dm_X2_copyOf_18 rfl rfl rfl rfl ?_
  refine me0 (pc' := 21) (S' := .int (40 : Int32) :: _) dm_X2_copyOf_19 rfl rfl rfl rfl ?_
  refine me_2f (pc' := 24) dm_X2_copyOf_21 rfl (by decide) rfl ?_
  refine me1 (pc' := 25) dm_X2_copyOf_24 rfl rfl rfl rfl ?_
  refine me3 (pc' := 28) dm_X2_copyOf_25 (g_get (v := .ref 128) (le_ (n := 2) (u := 100) (v := 25) (j := 0) hn rfl hv rfl) rfl rfl (Nat.le_of_ble_eq_true rfl)) rfl rfl rfl ?_
  refine me1 (pc' := 29) dm_X2_copyOf_28 rfl rfl rfl rfl ?_
  refine me1 (pc' := 30) dm_X2_copyOf_29 rfl rfl rfl rfl ?_
  refine me3 (pc' := 33) dm_X2_copyOf_30 (g_get (v := .ref 5) (lu (n := 2) (j := 2) hn rfl) rfl rfl (Nat.le_of_ble_eq_true rfl)) rfl rfl rfl ?_
  refine me1 (pc' := 34) dm_X2_copyOf_33 rfl rfl rfl rfl ?_
  refine me3 (pc' := 35) dm_X2_copyOf_34 (g_lald (v := (0 : Int64)) (lu (n := 2) (j := 3) hn rfl) rfl (by decide) rfl (Nat.le_of_ble_eq_true rfl)) rfl rfl rfl ?_
  refine me3 (pc' := 36) dm_X2_copyOf_35 (g_last (le_ (n := 2) (u := 100) (v := 25) (j := 1) hn rfl hv rfl) (se (n := 2) (u := 100) (v := 25) (j := 1) hn rfl hv _) rfl (by decide) (Nat.le_of_ble_eq_true rfl)) rfl rfl rfl ?_
  refine me1 (pc' := 37) dm_X2_copyOf_36 rfl rfl rfl rfl ?_
  refine me3 (pc' := 40) dm_X2_copyOf_37 (g_get (v := .ref 129) (le_ (n := 2) (u := 100) (v := 25) (j := 0) hn rfl hv rfl) rfl rfl (Nat.le_of_ble_eq_true rfl)) rfl rfl rfl ?_
  refine me1 (pc' := 41) dm_X2_copyOf_40 rfl rfl rfl rfl ?_
  refine me1 (pc' := 42) dm_X2_copyOf_41 rfl rfl rfl rfl ?_
  refine me3 (pc' := 45) dm_X2_copyOf_42 (g_get (v := .ref 6) (lu (n := 2) (j := 2) hn rfl) rfl rfl (Nat.le_of_ble_eq_true rfl)) rfl rfl rfl ?_
  refine me1 (pc' := 46) dm_X2_copyOf_45 rfl rfl rfl rfl ?_
  refine me3 (pc' := 47) dm_X2_copyOf_46 (g_aald (v := .null) (lu (n := 2) (j := 4) hn rfl) rfl (by decide) rfl (Nat.le_of_ble_eq_true rfl)) rfl rfl rfl ?_
  refine me3 (pc' := 48) dm_X2_copyOf_47 (g_aastn (le_ (n := 2) (u := 100) (v := 25) (j := 2) hn rfl hv rfl) (se (n := 2) (u := 100) (v := 25) (j := 2) hn rfl hv _) rfl (by decide) (Nat.le_of_ble_eq_true rfl)) rfl rfl rfl ?_
  refine me1 (pc' := 49) dm_X2_copyOf_48 rfl rfl rfl rfl ?_
  refine me3 (pc' := 52) dm_X2_copyOf_49 (g_get (v := .ref 130) (le_ (n := 2) (u := 100) (v := 25) (j := 0) hn rfl hv rfl) rfl rfl (Nat.le_of_ble_eq_true rfl)) rfl rfl rfl ?_
  refine me1 (pc' := 53) dm_X2_copyOf_52 rfl rfl rfl rfl ?_
  refine me1 (pc' := 54) dm_X2_copyOf_53 rfl rfl rfl rfl ?_
  refine me3 (pc' := 57) dm_X2_copyOf_54 (g_get (v := .ref 7) (lu (n := 2) (j := 2) hn rfl) rfl rfl (Nat.le_of_ble_eq_true rfl)) rfl rfl rfl ?_
  refine me1 (pc' := 58) dm_X2_copyOf_57 rfl rfl rfl rfl ?_
  refine me3 (pc' := 59) dm_X2_copyOf_58 (g_lald (v := (0 : Int64)) (lu (n := 2) (j := 5) hn rfl) rfl (by decide) rfl (Nat.le_of_ble_eq_true rfl)) rfl rfl rfl ?_
  refine me3 (pc' := 60) dm_X2_copyOf_59 (g_last (le_ (n := 2) (u := 100) (v := 25) (j := 3) hn rfl hv rfl) (se (n := 2) (u := 100) (v := 25) (j := 3) hn rfl hv _) rfl (by decide) (Nat.le_of_ble_eq_true rfl)) rfl rfl rfl ?_
  refine me1 (pc' := 61) dm_X2_copyOf_60 rfl rfl rfl rfl ?_
  refine me3 (pc' := 64) dm_X2_copyOf_61 (g_get (v := .ref 131) (le_ (n := 2) (u := 100) (v := 25) (j := 0) hn rfl hv rfl) rfl rfl (Nat.le_of_ble_eq_true rfl)) rfl rfl rfl ?_
  refine me1 (pc' := 65) dm_X2_copyOf_64 rfl rfl rfl rfl ?_
  refine me1 (pc' := 66) dm_X2_copyOf_65 rfl rfl rfl rfl ?_
  refine me3 (pc' := 69) dm_X2_copyOf_66 (g_get (v := .ref 8) (lu (n := 2) (j := 2) hn rfl) rfl rfl (Nat.le_of_ble_eq_true rfl)) rfl rfl rfl ?_
  refine me1 (pc' := 70) dm_X2_copyOf_69 rfl rfl rfl rfl ?_
  refine me3 (pc' := 71) dm_X2_copyOf_70 (g_aald (v := .null) (lu (n := 2) (j := 6) hn rfl) rfl (by decide) rfl (Nat.le_of_ble_eq_true rfl)) rfl rfl rfl ?_
  refine me3 (pc' := 72) dm_X2_copyOf_71 (g_aastn (le_ (n := 2) (u := 100) (v := 25) (j := 4) hn rfl hv rfl) (se (n := 2) (u := 100) (v := 25) (j := 4) hn rfl hv _) rfl (by decide) (Nat.le_of_ble_eq_true rfl)) rfl rfl rfl ?_
  refine me1 (pc' := 75) (L' := [(2, .int (12 : Int32)), (0, .ref 127), (1, .ref 4)]) dm_X2_copyOf_72 rfl rfl rfl rfl ?_
  refine me2 (pc' := 18) dm_X2_copyOf_75 rfl rfl rfl ?_
  refine me1 (pc' := 19) dm_X2_copyOf_18 rfl rfl rfl rfl ?_
  refine me0 (pc' := 21) (S' := .int (40 : Int32) :: _) dm_X2_copyOf_19 rfl rfl rfl rfl ?_
  refine me_2f (pc' := 24) dm_X2_copyOf_21 rfl (by decide) rfl ?_
  refine me1 (pc' := 25) dm_X2_copyOf_24 rfl rfl rfl rfl ?_
  refine me3 (pc' := 28) dm_X2_copyOf_25 (g_get (v := .ref 128) (le_ (n := 2) (u := 100) (v := 25) (j := 0) hn rfl hv rfl) rfl rfl (Nat.le_of_ble_eq_true rfl)) rfl rfl rfl ?_
  refine me1 (pc' := 29) dm_X2_copyOf_28 rfl rfl rfl rfl ?_
  refine me1 (pc' := 30) dm_X2_copyOf_29 rfl rfl rfl rfl ?_
  refine me3 (pc' := 33) dm_X2_copyOf_30 (g_get (v := .ref 5) (lu (n := 2) (j := 2) hn rfl) rfl rfl (Nat.le_of_ble_eq_true rfl)) rfl rfl rfl ?_
  refine me1 (pc' := 34) dm_X2_copyOf_33 rfl rfl rfl rfl ?_
  refine me3 (pc' := 35) dm_X2_copyOf_34 (g_lald (v := (0 : Int64)) (lu (n := 2) (j := 3) hn rfl) rfl (by decide) rfl (Nat.le_of_ble_eq_true rfl)) rfl rfl rfl ?_
  refine me3 (pc' := 36) dm_X2_copyOf_35 (g_last (le_ (n := 2) (u := 100) (v := 25) (j := 1) hn rfl hv rfl) (se (n := 2) (u := 100) (v := 25) (j := 1) hn rfl hv _) rfl (by decide) (Nat.le_of_ble_eq_true rfl)) rfl rfl rfl ?_
  refine me1 (pc' := 37) dm_X2_copyOf_36 rfl rfl rfl rfl ?_
  refine me3 (pc' := 40) dm_X2_copyOf_37 (g_get (v := .ref 129) (le_ (n := 2) (u := 100) (v := 25) (j := 0) hn rfl hv rfl) rfl rfl (Nat.le_of_ble_eq_true rfl)) rfl rfl rfl ?_
  refine me1 (pc' := 41) dm_X2_copyOf_40 rfl rfl rfl rfl ?_
  refine me1 (pc' := 42) dm_X2_copyOf_41 rfl rfl rfl rfl ?_
  refine me3 (pc' := 45) dm_X2_copyOf_42 (g_get (v := .ref 6) (lu (n := 2) (j := 2) hn rfl) rfl rfl (Nat.le_of_ble_eq_true rfl)) rfl rfl rfl ?_
  refine me1 (pc' := 46) dm_X2_copyOf_45 rfl rfl rfl rfl ?_
  refine me3 (pc' := 47) dm_X2_copyOf_46 (g_aald (v := .null) (lu (n := 2) (j := 4) hn rfl) rfl (by decide) rfl (Nat.le_of_ble_eq_true rfl)) rfl rfl rfl ?_
  refine me3 (pc' := 48) dm_X2_copyOf_47 (g_aastn (le_ (n := 2) (u := 100) (v := 25) (j := 2) hn rfl hv rfl) (se (n := 2) (u := 100) (v := 25) (j := 2) hn rfl hv _) rfl (by decide) (Nat.le_of_ble_eq_true rfl)) rfl rfl rfl ?_
  refine me1 (pc' := 49) dm_X2_copyOf_48 rfl rfl rfl rfl ?_
  refine me3 (pc' := 52) dm_X2_copyOf_49 (g_get (v := .ref 130) (le_ (n := 2) (u := 100) (v := 25) (j := 0) hn rfl hv rfl) rfl rfl (Nat.le_of_ble_eq_true rfl)) rfl rfl rfl ?_
  refine me1 (pc' := 53) dm_X2_copyOf_52 rfl rfl rfl rfl ?_
  refine me1 (pc' := 54) dm_X2_copyOf_53 rfl rfl rfl rfl ?_
  refine me3 (pc' := 57) dm_X2_copyOf_54 (g_get (v := .ref 7) (lu (n := 2) (j := 2) hn rfl) rfl rfl (Nat.le_of_ble_eq_true rfl)) rfl rfl rfl ?_
  refine me1 (pc' := 58) dm_X2_copyOf_57 rfl rfl rfl rfl ?_
  refine me3 (pc' := 59) dm_X2_copyOf_58 (g_lald (v := (0 : Int64)) (lu (n := 2) (j := 5) hn rfl) rfl (by decide) rfl (Nat.le_of_ble_eq_true rfl)) rfl rfl rfl ?_
  refine me3 (pc' := 60) dm_X2_copyOf_59 (g_last (le_ (n := 2) (u := 100) (v := 25) (j := 3) hn rfl hv rfl) (se (n := 2) (u := 100) (v := 25) (j := 3) hn rfl hv _) rfl (by decide) (Nat.le_of_ble_eq_true rfl)) rfl rfl rfl ?_
  refine me1 (pc' := 61) dm_X2_copyOf_60 rfl rfl rfl rfl ?_
  refine me3 (pc' := 64) dm_X2_copyOf_61 (g_get (v := .ref 131) (le_ (n := 2) (u := 100) (v := 25) (j := 0) hn rfl hv rfl) rfl rfl (Nat.le_of_ble_eq_true rfl)) rfl rfl rfl ?_
  refine me1 (pc' := 65) dm_X2_copyOf_64 rfl rfl rfl rfl ?_
  refine me1 (pc' := 66) dm_X2_copyOf_65 rfl rfl rfl rfl ?_
  refine me3 (pc' := 69) dm_X2_copyOf_66 (g_get (v := .ref 8) (lu (n := 2) (j := 2) hn rfl) rfl rfl (Nat.le_of_ble_eq_true rfl)) rfl rfl rfl ?_
  refine me1 (pc' := 70) dm_X2_copyOf_69 rfl rfl rfl rfl ?_
  refine me3 (pc' := 71) dm_X2_copyOf_70 (g_aald (v := .null) (lu (n := 2) (j := 6) hn rfl) rfl (by decide) rfl (Nat.le_of_ble_eq_true rfl)) rfl rfl rfl ?_
  refine me3 (pc' := 72) dm_X2_copyOf_71 (g_aastn (le_ (n := 2) (u := 100) (v := 25) (j := 4) hn rfl hv rfl) (se (n := 2) (u := 100) (v := 25) (j := 4) hn rfl hv _) rfl (by decide) (Nat.le_of_ble_eq_true rfl)) rfl rfl rfl ?_
  refine me1 (pc' := 75) (L' := [(2, .int (13 : Int32)), (0, .ref 127), (1, .ref 4)]) dm_X2_copyOf_72 rfl rfl rfl rfl ?_
  refine me2 (pc' := 18) dm_X2_copyOf_75 rfl rfl rfl ?_
  refine me1 (pc' := 19) dm_X2_copyOf_18 rfl rfl rfl rfl ?_
  refine me0 (pc' := 21) (S' := .int (40 : Int32) :: _) dm_X2_copyOf_19 rfl rfl rfl rfl ?_
  refine me_2f (pc' := 24) dm_X2_copyOf_21 rfl (by decide) rfl ?_
  refine me1 (pc' := 25) dm_X2_copyOf_24 rfl rfl rfl rfl ?_
  refine me3 (pc' := 28) dm_X2_copyOf_25 (g_get (v := .ref 128) (le_ (n := 2) (u := 100) (v := 25) (j := 0) hn rfl hv rfl) rfl rfl (Nat.le_of_ble_eq_true rfl)) rfl rfl rfl ?_
  refine me1 (pc' := 29) dm_X2_copyOf_28 rfl rfl rfl rfl ?_
  refine me1 (pc' := 30) dm_X2_copyOf_29 rfl rfl rfl rfl ?_
  refine me3 (pc' := 33) dm_X2_copyOf_30 (g_get (v := .ref 5) (lu (n := 2) (j := 2) hn rfl) rfl rfl (Nat.le_of_ble_eq_true rfl)) rfl rfl rfl ?_
  refine me1 (pc' := 34) dm_X2_copyOf_33 rfl rfl rfl rfl ?_
  refine me3 (pc' := 35) dm_X2_copyOf_34 (g_lald (v := (0 : Int64)) (lu (n := 2) (j := 3) hn rfl) rfl (by decide) rfl (Nat.le_of_ble_eq_true rfl)) rfl rfl rfl ?_
  refine me3 (pc' := 36) dm_X2_copyOf_35 (g_last (le_ (n := 2) (u := 100) (v := 25) (j := 1) hn rfl hv rfl) (se (n := 2) (u := 100) (v := 25) (j := 1) hn rfl hv _) rfl (by decide) (Nat.le_of_ble_eq_true rfl)) rfl rfl rfl ?_
  refine me1 (pc' := 37) dm_X2_copyOf_36 rfl rfl rfl rfl ?_
  refine me3 (pc' := 40) dm_X2_copyOf_37 (g_get (v := .ref 129) (le_ (n := 2) (u := 100) (v := 25) (j := 0) hn rfl hv rfl) rfl rfl (Nat.le_of_ble_eq_true rfl)) rfl rfl rfl ?_
  refine me1 (pc' := 41) dm_X2_copyOf_40 rfl rfl rfl rfl ?_
  refine me1 (pc' := 42) dm_X2_copyOf_41 rfl rfl rfl rfl ?_
  refine me3 (pc' := 45) dm_X2_copyOf_42 (g_get (v := .ref 6) (lu (n := 2) (j := 2) hn rfl) rfl rfl (Nat.le_of_ble_eq_true rfl)) rfl rfl rfl ?_
  refine me1 (pc' := 46) dm_X2_copyOf_45 rfl rfl rfl rfl ?_
  refine me3 (pc' := 47) dm_X2_copyOf_46 (g_aald (v := .null) (lu (n := 2) (j := 4) hn rfl) rfl (by decide) rfl (Nat.le_of_ble_eq_true rfl)) rfl rfl rfl ?_
  refine me3 (pc' := 48) dm_X2_copyOf_47 (g_aastn (le_ (n := 2) (u := 100) (v := 25) (j := 2) hn rfl hv rfl) (se (n := 2) (u := 100) (v := 25) (j := 2) hn rfl hv _) rfl (by decide) (Nat.le_of_ble_eq_true rfl)) rfl rfl rfl ?_
  refine me1 (pc' := 49) dm_X2_copyOf_48 rfl rfl rfl rfl ?_
  refine me3 (pc' := 52) dm_X2_copyOf_49 (g_get (v := .ref 130) (le_ (n := 2) (u := 100) (v := 25) (j := 0) hn rfl hv rfl) rfl rfl (Nat.le_of_ble_eq_true rfl)) rfl rfl rfl ?_
  refine me1 (pc' := 53) dm_X2_copyOf_52 rfl rfl rfl rfl ?_
  refine me1 (pc' := 54) dm_X2_copyOf_53 rfl rfl rfl rfl ?_
  refine me3 (pc' := 57) dm_X2_copyOf_54 (g_get (v := .ref 7) (lu (n := 2) (j := 2) hn rfl) rfl rfl (Nat.le_of_ble_eq_true rfl)) rfl rfl rfl ?_
  refine me1 (pc' := 58) dm_X2_copyOf_57 rfl rfl rfl rfl ?_
  refine me3 (pc' := 59) dm_X2_copyOf_58 (g_lald (v := (0 : Int64)) (lu (n := 2) (j := 5) hn rfl) rfl (by decide) rfl (Nat.le_of_ble_eq_true rfl)) rfl rfl rfl ?_
  refine me3 (pc' := 60) dm_X2_copyOf_59 (g_last (le_ (n := 2) (u := 100) (v := 25) (j := 3) hn rfl hv rfl) (se (n := 2) (u := 100) (v := 25) (j := 3) hn rfl hv _) rfl (by decide) (Nat.le_of_ble_eq_true rfl)) rfl rfl rfl ?_
  refine me1 (pc' := 61) dm_X2_copyOf_60 rfl rfl rfl rfl ?_
  refine me3 (pc' := 64) dm_X2_copyOf_61 (g_get (v := .ref 131) (le_ (n := 2) (u := 100) (v := 25) (j := 0) hn rfl hv rfl) rfl rfl (Nat.le_of_ble_eq_true rfl)) rfl rfl rfl ?_
  refine me1 (pc' := 65) dm_X2_copyOf_64 rfl rfl rfl rfl ?_
  refine me1 (pc' := 66) dm_X2_copyOf_65 rfl rfl rfl rfl ?_
  refine me3 (pc' := 69) dm_X2_copyOf_66 (g_get (v := .ref 8) (lu (n := 2) (j := 2) hn rfl) rfl rfl (Nat.le_of_ble_eq_true rfl)) rfl rfl rfl ?_
  refine me1 (pc' := 70) dm_X2_copyOf_69 rfl rfl rfl rfl ?_
  refine me3 (pc' := 71) dm_X2_copyOf_70 (g_aald (v := .null) (lu (n := 2) (j := 6) hn rfl) rfl (by decide) rfl (Nat.le_of_ble_eq_true rfl)) rfl rfl rfl ?_
  refine me3 (pc' := 72) dm_X2_copyOf_71 (g_aastn (le_ (n := 2) (u := 100) (v := 25) (j := 4) hn rfl hv rfl) (se (n := 2) (u := 100) (v := 25) (j := 4) hn rfl hv _) rfl (by decide) (Nat.le_of_ble_eq_true rfl)) rfl rfl rfl ?_
  refine me1 (pc' := 75) (L' := [(2, .int (14 : Int32)), (0, .ref 127), (1, .ref 4)]) dm_X2_copyOf_72 rfl rfl rfl rfl ?_
  refine me2 (pc' := 18) dm_X2_copyOf_75 rfl rfl rfl ?_
  refine me1 (pc' := 19) dm_X2_copyOf_18 rfl rfl rfl rfl ?_
  refine me0 (pc' := 21) (S' := .int (40 : Int32) :: _) dm_X2_copyOf_19 rfl rfl rfl rfl ?_
  refine me_2f (pc' := 24) dm_X2_copyOf_21 rfl (by decide) rfl ?_
  refine me1 (pc' := 25) dm_X2_copyOf_24 rfl rfl rfl rfl ?_
  refine me3 (pc' := 28) dm_X2_copyOf_25 (g_get (v := .ref 128) (le_ (n := 2) (u := 100) (v := 25) (j := 0) hn rfl hv rfl) rfl rfl (Nat.le_of_ble_eq_true rfl)) rfl rfl rfl ?_
  refine me1 (pc' := 29) dm_X2_copyOf_28 rfl rfl rfl rfl ?_
  refine me1 (pc' := 30) dm_X2_copyOf_29 rfl rfl rfl rfl ?_
  refine me3 (pc' := 33) dm_X2_copyOf_30 (g_get (v := .ref 5) (lu (n := 2) (j := 2) hn rfl) rfl rfl (Nat.le_of_ble_eq_true rfl)) rfl rfl rfl ?_
  refine me1 (pc' := 34) dm_X2_copyOf_33 rfl rfl rfl rfl ?_
  refine me3 (pc' := 35) dm_X2_copyOf_34 (g_lald (v := (0 : Int64)) (lu (n := 2) (j := 3) hn rfl) rfl (by decide) rfl (Nat.le_of_ble_eq_true rfl)) rfl rfl rfl ?_
  refine me3 (pc' := 36) dm_X2_copyOf_35 (g_last (le_ (n := 2) (u := 100) (v := 25) (j := 1) hn rfl hv rfl) (se (n := 2) (u := 100) (v := 25) (j := 1) hn rfl hv _) rfl (by decide) (Nat.le_of_ble_eq_true rfl)) rfl rfl rfl ?_
  refine me1 (pc' := 37) dm_X2_copyOf_36 rfl rfl rfl rfl ?_
  refine me3 (pc' := 40) dm_X2_copyOf_37 (g_get (v := .ref 129) (le_ (n := 2) (u := 100) (v := 25) (j := 0) hn rfl hv rfl) rfl rfl (Nat.le_of_ble_eq_true rfl)) rfl rfl rfl ?_
  refine me1 (pc' := 41) dm_X2_copyOf_40 rfl rfl rfl rfl ?_
  refine me1 (pc' := 42) dm_X2_copyOf_41 rfl rfl rfl rfl ?_
  refine me3 (pc' := 45) dm_X2_copyOf_42 (g_get (v := .ref 6) (lu (n := 2) (j := 2) hn rfl) rfl rfl (Nat.le_of_ble_eq_true rfl)) rfl rfl rfl ?_
  refine me1 (pc' := 46) dm_X2_copyOf_45 rfl rfl rfl rfl ?_
  refine me3 (pc' := 47) dm_X2_copyOf_46 (g_aald (v := .null) (lu (n := 2) (j := 4) hn rfl) rfl (by decide) rfl (Nat.le_of_ble_eq_true rfl)) rfl rfl rfl ?_
  refine me3 (pc' := 48) dm_X2_copyOf_47 (g_aastn (le_ (n := 2) (u := 100) (v := 25) (j := 2) hn rfl hv rfl) (se (n := 2) (u := 100) (v := 25) (j := 2) hn rfl hv _) rfl (by decide) (Nat.le_of_ble_eq_true rfl)) rfl rfl rfl ?_
  refine me1 (pc' := 49) dm_X2_copyOf_48 rfl rfl rfl rfl ?_
  refine me3 (pc' := 52) dm_X2_copyOf_49 (g_get (v := .ref 130) (le_ (n := 2) (u := 100) (v := 25) (j := 0) hn rfl hv rfl) rfl rfl (Nat.le_of_ble_eq_true rfl)) rfl rfl rfl ?_
  refine me1 (pc' := 53) dm_X2_copyOf_52 rfl rfl rfl rfl ?_
  refine me1 (pc' := 54) dm_X2_copyOf_53 rfl rfl rfl rfl ?_
  refine me3 (pc' := 57) dm_X2_copyOf_54 (g_get (v := .ref 7) (lu (n := 2) (j := 2) hn rfl) rfl rfl (Nat.le_of_ble_eq_true rfl)) rfl rfl rfl ?_
  refine me1 (pc' := 58) dm_X2_copyOf_57 rfl rfl rfl rfl ?_
  refine me3 (pc' := 59) dm_X2_copyOf_58 (g_lald (v := (0 : Int64)) (lu (n := 2) (j := 5) hn rfl) rfl (by decide) rfl (Nat.le_of_ble_eq_true rfl)) rfl rfl rfl ?_
  refine me3 (pc' := 60) dm_X2_copyOf_59 (g_last (le_ (n := 2) (u := 100) (v := 25) (j := 3) hn rfl hv rfl) (se (n := 2) (u := 100) (v := 25) (j := 3) hn rfl hv _) rfl (by decide) (Nat.le_of_ble_eq_true rfl)) rfl rfl rfl ?_
  refine me1 (pc' := 61) dm_X2_copyOf_60 rfl rfl rfl rfl ?_
  refine me3 (pc' := 64) dm_X2_copyOf_61 (g_get (v := .ref 131) (le_ (n := 2) (u := 100) (v := 25) (j := 0) hn rfl hv rfl) rfl rfl (Nat.le_of_ble_eq_true rfl)) rfl rfl rfl ?_
  refine me1 (pc' := 65) dm_X2_copyOf_64 rfl rfl rfl rfl ?_
  refine me1 (pc' := 66) dm_X2_copyOf_65 rfl rfl rfl rfl ?_
  refine me3 (pc' := 69) dm_X2_copyOf_66 (g_get (v := .ref 8) (lu (n := 2) (j := 2) hn rfl) rfl rfl (Nat.le_of_ble_eq_true rfl)) rfl rfl rfl ?_
  refine me1 (pc' := 70) dm_X2_copyOf_69 rfl rfl rfl rfl ?_
  refine me3 (pc' := 71) dm_X2_copyOf_70 (g_aald (v := .null) (lu (n := 2) (j := 6) hn rfl) rfl (by decide) rfl (Nat.le_of_ble_eq_true rfl)) rfl rfl rfl ?_
  refine me3 (pc' := 72) dm_X2_copyOf_71 (g_aastn (le_ (n := 2) (u := 100) (v := 25) (j := 4) hn rfl hv rfl) (se (n := 2) (u := 100) (v := 25) (j := 4) hn rfl hv _) rfl (by decide) (Nat.le_of_ble_eq_true rfl)) rfl rfl rfl ?_
  refine me1 (pc' := 75) (L' := [(2, .int (15 : Int32)), (0, .ref 127), (1, .ref 4)]) dm_X2_copyOf_72 rfl rfl rfl rfl ?_
  refine me2 (pc' := 18) dm_X2_copyOf_75 rfl rfl rfl ?_
  refine me1 (pc' := 19) dm_X2_copyOf_18 rfl rfl rfl rfl ?_
  refine me0 (pc' := 21) (S' := .int (40 : Int32) :: _) dm_X2_copyOf_19 rfl rfl rfl rfl ?_
  refine me_2f (pc' := 24) dm_X2_copyOf_21 rfl (by decide) rfl ?_
  refine me1 (pc' := 25) dm_X2_copyOf_24 rfl rfl rfl rfl ?_
  refine me3 (pc' := 28) dm_X2_copyOf_25 (g_get (v := .ref 128) (le_ (n := 2) (u := 100) (v := 25) (j := 0) hn rfl hv rfl) rfl rfl (Nat.le_of_ble_eq_true rfl)) rfl rfl rfl ?_
  refine me1 (pc' := 29) dm_X2_copyOf_28 rfl rfl rfl rfl ?_
  refine me1 (pc' := 30) dm_X2_copyOf_29 rfl rfl rfl rfl ?_
  refine me3 (pc' := 33) dm_X2_copyOf_30 (g_get (v := .ref 5) (lu (n := 2) (j := 2) hn rfl) rfl rfl (Nat.le_of_ble_eq_true rfl)) rfl rfl rfl ?_
  refine me1 (pc' := 34) dm_X2_copyOf_33 rfl rfl rfl rfl ?_
  refine me3 (pc' := 35) dm_X2_copyOf_34 (g_lald (v := (0 : Int64)) (lu (n := 2) (j := 3) hn rfl) rfl (by decide) rfl (Nat.le_of_ble_eq_true rfl)) rfl rfl rfl ?_
  refine me3 (pc' := 36) dm_X2_copyOf_35 (g_last (le_ (n := 2) (u := 100) (v := 25) (j := 1) hn rfl hv rfl) (se (n := 2) (u := 100) (v := 25) (j := 1) hn rfl hv _) rfl (by decide) (Nat.le_of_ble_eq_true rfl)) rfl rfl rfl ?_
  refine me1 (pc' := 37) dm_X2_copyOf_36 rfl rfl rfl rfl ?_
  refine me3 (pc' := 40) dm_X2_copyOf_37 (g_get (v := .ref 129) (le_ (n := 2) (u := 100) (v := 25) (j := 0) hn rfl hv rfl) rfl rfl (Nat.le_of_ble_eq_true rfl)) rfl rfl rfl ?_
  refine me1 (pc' := 41) dm_X2_copyOf_40 rfl rfl rfl rfl ?_
  refine me1 (pc' := 42) dm_X2_copyOf_41 rfl rfl rfl rfl ?_
  refine me3 (pc' := 45) dm_X2_copyOf_42 (g_get (v := .ref 6) (lu (n := 2) (j := 2) hn rfl) rfl rfl (Nat.le_of_ble_eq_true rfl)) rfl rfl rfl ?_
  refine me1 (pc' := 46) dm_X2_copyOf_45 rfl rfl rfl rfl ?_
  refine me3 (pc' := 47) dm_X2_copyOf_46 (g_aald (v := .null) (lu (n := 2) (j := 4) hn rfl) rfl (by decide) rfl (Nat.le_of_ble_eq_true rfl)) rfl rfl rfl ?_
  refine me3 (pc' := 48) dm_X2_copyOf_47 (g_aastn (le_ (n := 2) (u := 100) (v := 25) (j := 2) hn rfl hv rfl) (se (n := 2) (u := 100) (v := 25) (j := 2) hn rfl hv _) rfl (by decide) (Nat.le_of_ble_eq_true rfl)) rfl rfl rfl ?_
  refine me1 (pc' := 49) dm_X2_copyOf_48 rfl rfl rfl rfl ?_
  refine me3 (pc' := 52) dm_X2_copyOf_49 (g_get (v := .ref 130) (le_ (n := 2) (u := 100) (v := 25) (j := 0) hn rfl hv rfl) rfl rfl (Nat.le_of_ble_eq_true rfl)) rfl rfl rfl ?_
  refine me1 (pc' := 53) dm_X2_copyOf_52 rfl rfl rfl rfl ?_
  refine me1 (pc' := 54) dm_X2_copyOf_53 rfl rfl rfl rfl ?_
  refine me3 (pc' := 57) dm_X2_copyOf_54 (g_get (v := .ref 7) (lu (n := 2) (j := 2) hn rfl) rfl rfl (Nat.le_of_ble_eq_true rfl)) rfl rfl rfl ?_
  refine me1 (pc' := 58) dm_X2_copyOf_57 rfl rfl rfl rfl ?_
  refine me3 (pc' := 59) dm_X2_copyOf_58 (g_lald (v := (0 : Int64)) (lu (n := 2) (j := 5) hn rfl) rfl (by decide) rfl (Nat.le_of_ble_eq_true rfl)) rfl rfl rfl ?_
  refine me3 (pc' := 60) dm_X2_copyOf_59 (g_last (le_ (n := 2) (u := 100) (v := 25) (j := 3) hn rfl hv rfl) (se (n := 2) (u := 100) (v := 25) (j := 3) hn rfl hv _) rfl (by decide) (Nat.le_of_ble_eq_true rfl)) rfl rfl rfl ?_
  refine me1 (pc' := 61) dm_X2_copyOf_60 rfl rfl rfl rfl ?_
  refine me3 (pc' := 64) dm_X2_copyOf_61 (g_get (v := .ref 131) (le_ (n := 2) (u := 100) (v := 25) (j := 0) hn rfl hv rfl) rfl rfl (Nat.le_of_ble_eq_true rfl)) rfl rfl rfl ?_
  refine me1 (pc' := 65) dm_X2_copyOf_64 rfl rfl rfl rfl ?_
  refine me1 (pc' := 66) dm_X2_copyOf_65 rfl rfl rfl rfl ?_
  refine me3 (pc' := 69) dm_X2_copyOf_66 (g_get (v := .ref 8) (lu (n := 2) (j := 2) hn rfl) rfl rfl (Nat.le_of_ble_eq_true rfl)) rfl rfl rfl ?_
  refine me1 (pc' := 70) dm_X2_copyOf_69 rfl rfl rfl rfl ?_
  refine me3 (pc' := 71) dm_X2_copyOf_70 (g_aald (v := .null) (lu (n := 2) (j := 6) hn rfl) rfl (by decide) rfl (Nat.le_of_ble_eq_true rfl)) rfl rfl rfl ?_
  refine me3 (pc' := 72) dm_X2_copyOf_71 (g_aastn (le_ (n := 2) (u := 100) (v := 25) (j := 4) hn rfl hv rfl) (se (n := 2) (u := 100) (v := 25) (j := 4) hn rfl hv _) rfl (by decide) (Nat.le_of_ble_eq_true rfl)) rfl rfl rfl ?_
  refine me1 (pc' := 75) (L' := [(2, .int (16 : Int32)), (0, .ref 127), (1, .ref 4)]) dm_X2_copyOf_72 rfl rfl rfl rfl ?_
  refine me2 (pc' := 18) dm_X2_copyOf_75 rfl rfl rfl ?_
  refine me1 (pc' := 19) dm_X2_copyOf_18 rfl rfl rfl rfl ?_
  refine me0 (pc' := 21) (S' := .int (40 : Int32) :: _) dm_X2_copyOf_19 rfl rfl rfl rfl ?_
  refine me_2f (pc' := 24) dm_X2_copyOf_21 rfl (by decide) rfl ?_
  refine me1 (pc' := 25) dm_X2_copyOf_24 rfl rfl rfl rfl ?_
  refine me3 (pc' := 28) dm_X2_copyOf_25 (g_get (v := .ref 128) (le_ (n := 2) (u := 100) (v := 25) (j := 0) hn rfl hv rfl) rfl rfl (Nat.le_of_ble_eq_true rfl)) rfl rfl rfl ?_
  refine me1 (pc' := 29) dm_X2_copyOf_28 rfl rfl rfl rfl ?_
  refine me1 (pc' := 30) dm_X2_copyOf_29 rfl rfl rfl rfl ?_
  refine me3 (pc' := 33) dm_X2_copyOf_30 (g_get (v := .ref 5) (lu (n := 2) (j := 2) hn rfl) rfl rfl (Nat.le_of_ble_eq_true rfl)) rfl rfl rfl ?_
  refine me1 (pc' := 34) dm_X2_copyOf_33 rfl rfl rfl rfl ?_
  refine me3 (pc' := 35) dm_X2_copyOf_34 (g_lald (v := (0 : Int64)) (lu (n := 2) (j := 3) hn rfl) rfl (by decide) rfl (Nat.le_of_ble_eq_true rfl)) rfl rfl rfl ?_
  refine me3 (pc' := 36) dm_X2_copyOf_35 (g_last (le_ (n := 2) (u := 100) (v := 25) (j := 1) hn rfl hv rfl) (se (n := 2) (u := 100) (v := 25) (j := 1) hn rfl hv _) rfl (by decide) (Nat.le_of_ble_eq_true rfl)) rfl rfl rfl ?_
  refine me1 (pc' := 37) dm_X2_copyOf_36 rfl rfl rfl rfl ?_
  refine me3 (pc' := 40) dm_X2_copyOf_37 (g_get (v := .ref 129) (le_ (n := 2) (u := 100) (v := 25) (j := 0) hn rfl hv rfl) rfl rfl (Nat.le_of_ble_eq_true rfl)) rfl rfl rfl ?_
  refine me1 (pc' := 41) dm_X2_copyOf_40 rfl rfl rfl rfl ?_
  refine me1 (pc' := 42) dm_X2_copyOf_41 rfl rfl rfl rfl ?_
  refine me3 (pc' := 45) dm_X2_copyOf_42 (g_get (v := .ref 6) (lu (n := 2) (j := 2) hn rfl) rfl rfl (Nat.le_of_ble_eq_true rfl)) rfl rfl rfl ?_
  refine me1 (pc' := 46) dm_X2_copyOf_45 rfl rfl rfl rfl ?_
  refine me3 (pc' := 47) dm_X2_copyOf_46 (g_aald (v := .null) (lu (n := 2) (j := 4) hn rfl) rfl (by decide) rfl (Nat.le_of_ble_eq_true rfl)) rfl rfl rfl ?_
  refine me3 (pc' := 48) dm_X2_copyOf_47 (g_aastn (le_ (n := 2) (u := 100) (v := 25) (j := 2) hn rfl hv rfl) (se (n := 2) (u := 100) (v := 25) (j := 2) hn rfl hv _) rfl (by decide) (Nat.le_of_ble_eq_true rfl)) rfl rfl rfl ?_
  refine me1 (pc' := 49) dm_X2_copyOf_48 rfl rfl rfl rfl ?_
  refine me3 (pc' := 52) dm_X2_copyOf_49 (g_get (v := .ref 130) (le_ (n := 2) (u := 100) (v := 25) (j := 0) hn rfl hv rfl) rfl rfl (Nat.le_of_ble_eq_true rfl)) rfl rfl rfl ?_
  refine me1 (pc' := 53) dm_X2_copyOf_52 rfl rfl rfl rfl ?_
  refine me1 (pc' := 54) dm_X2_copyOf_53 rfl rfl rfl rfl ?_
  refine me3 (pc' := 57) dm_X2_copyOf_54 (g_get (v := .ref 7) (lu (n := 2) (j := 2) hn rfl) rfl rfl (Nat.le_of_ble_eq_true rfl)) rfl rfl rfl ?_
  refine me1 (pc' := 58) dm_X2_copyOf_57 rfl rfl rfl rfl ?_
  refine me3 (pc' := 59) dm_X2_copyOf_58 (g_lald (v := (0 : Int64)) (lu (n := 2) (j := 5) hn rfl) rfl (by decide) rfl (Nat.le_of_ble_eq_true rfl)) rfl rfl rfl ?_
  refine me3 (pc' := 60) dm_X2_copyOf_59 (g_last (le_ (n := 2) (u := 100) (v := 25) (j := 3) hn rfl hv rfl) (se (n := 2) (u := 100) (v := 25) (j := 3) hn rfl hv _) rfl (by decide) (Nat.le_of_ble_eq_true rfl)) rfl rfl rfl ?_
  refine me1 (pc' := 61) dm_X2_copyOf_60 rfl rfl rfl rfl ?_
  refine me3 (pc' := 64) dm_X2_copyOf_61 (g_get (v := .ref 131) (le_ (n := 2) (u := 100) (v := 25) (j := 0) hn rfl hv rfl) rfl rfl (Nat.le_of_ble_eq_true rfl)) rfl rfl rfl ?_
  refine me1 (pc' := 65) dm_X2_copyOf_64 rfl rfl rfl rfl ?_
  refine me1 (pc' := 66) dm_X2_copyOf_65 rfl rfl rfl rfl ?_
  refine me3 (pc' := 69) dm_X2_copyOf_66 (g_get (v := .ref 8) (lu (n := 2) (j := 2) hn rfl) rfl rfl (Nat.le_of_ble_eq_true rfl)) rfl rfl rfl ?_
  refine me1 (pc' := 70) dm_X2_copyOf_69 rfl rfl rfl rfl ?_
  refine me3 (pc' := 71) dm_X2_copyOf_70 (g_aald (v := .null) (lu (n := 2) (j := 6) hn rfl) rfl (by decide) rfl (Nat.le_of_ble_eq_true rfl)) rfl rfl rfl ?_
  refine me3 (pc' := 72) dm_X2_copyOf_71 (g_aastn (le_ (n := 2) (u := 100) (v := 25) (j := 4) hn rfl hv rfl) (se (n := 2) (u := 100) (v := 25) (j := 4) hn rfl hv _) rfl (by decide) (Nat.le_of_ble_eq_true rfl)) rfl rfl rfl ?_
  refine me1 (pc' := 75) (L' := [(2, .int (17 : Int32)), (0, .ref 127), (1, .ref 4)]) dm_X2_copyOf_72 rfl rfl rfl rfl ?_
  refine me2 (pc' := 18) dm_X2_copyOf_75 rfl rfl rfl ?_
  refine me1 (pc' := 19) dm_X2_copyOf_18 rfl rfl rfl rfl ?_
  refine me0 (pc' := 21) (S' := .int (40 : Int32) :: _) dm_X2_copyOf_19 rfl rfl rfl rfl ?_
  refine me_2f (pc' := 24) dm_X2_copyOf_21 rfl (by decide) rfl ?_
  refine me1 (pc' := 25) dm_X2_copyOf_24 rfl rfl rfl rfl ?_
  refine me3 (pc' := 28) dm_X2_copyOf_25 (g_get (v := .ref 128) (le_ (n := 2) (u := 100) (v := 25) (j := 0) hn rfl hv rfl) rfl rfl (Nat.le_of_ble_eq_true rfl)) rfl rfl rfl ?_
  refine me1 (pc' := 29) dm_X2_copyOf_28 rfl rfl rfl rfl ?_
  refine me1 (pc' := 30) dm_X2_copyOf_29 rfl rfl rfl rfl ?_
  refine me3 (pc' := 33) dm_X2_copyOf_30 (g_get (v := .ref 5) (lu (n := 2) (j := 2) hn rfl) rfl rfl (Nat.le_of_ble_eq_true rfl)) rfl rfl rfl ?_
  refine me1 (pc' := 34) dm_X2_copyOf_33 rfl rfl rfl rfl ?_
  refine me3 (pc' := 35) dm_X2_copyOf_34 (g_lald (v := (0 : Int64)) (lu (n := 2) (j := 3) hn rfl) rfl (by decide) rfl (Nat.le_of_ble_eq_true rfl)) rfl rfl rfl ?_
  refine me3 (pc' := 36) dm_X2_copyOf_35 (g_last (le_ (n := 2) (u := 100) (v := 25) (j := 1) hn rfl hv rfl) (se (n := 2) (u := 100) (v := 25) (j := 1) hn rfl hv _) rfl (by decide) (Nat.le_of_ble_eq_true rfl)) rfl rfl rfl ?_
  refine me1 (pc' := 37) dm_X2_copyOf_36 rfl rfl rfl rfl ?_
  refine me3 (pc' := 40) dm_X2_copyOf_37 (g_get (v := .ref 129) (le_ (n := 2) (u := 100) (v := 25) (j := 0) hn rfl hv rfl) rfl rfl (Nat.le_of_ble_eq_true rfl)) rfl rfl rfl ?_
  refine me1 (pc' := 41) dm_X2_copyOf_40 rfl rfl rfl rfl ?_
  refine me1 (pc' := 42) dm_X2_copyOf_41 rfl rfl rfl rfl ?_
  refine me3 (pc' := 45) dm_X2_copyOf_42 (g_get (v := .ref 6) (lu (n := 2) (j := 2) hn rfl) rfl rfl (Nat.le_of_ble_eq_true rfl)) rfl rfl rfl ?_
  refine me1 (pc' := 46) dm_X2_copyOf_45 rfl rfl rfl rfl ?_
  refine me3 (pc' := 47) dm_X2_copyOf_46 (g_aald (v := .null) (lu (n := 2) (j := 4) hn rfl) rfl (by decide) rfl (Nat.le_of_ble_eq_true rfl)) rfl rfl rfl ?_
  refine me3 (pc' := 48) dm_X2_copyOf_47 (g_aastn (le_ (n := 2) (u := 100) (v := 25) (j := 2) hn rfl hv rfl) (se (n := 2) (u := 100) (v := 25) (j := 2) hn rfl hv _) rfl (by decide) (Nat.le_of_ble_eq_true rfl)) rfl rfl rfl ?_
  refine me1 (pc' := 49) dm_X2_copyOf_48 rfl rfl rfl rfl ?_
  refine me3 (pc' := 52) dm_X2_copyOf_49 (g_get (v := .ref 130) (le_ (n := 2) (u := 100) (v := 25) (j := 0) hn rfl hv rfl) rfl rfl (Nat.le_of_ble_eq_true rfl)) rfl rfl rfl ?_
  refine me1 (pc' := 53) dm_X2_copyOf_52 rfl rfl rfl rfl ?_
  refine me1 (pc' := 54) dm_X2_copyOf_53 rfl rfl rfl rfl ?_
  refine me3 (pc' := 57) dm_X2_copyOf_54 (g_get (v := .ref 7) (lu (n := 2) (j := 2) hn rfl) rfl rfl (Nat.le_of_ble_eq_true rfl)) rfl rfl rfl ?_
  refine me1 (pc' := 58) dm_X2_copyOf_57 rfl rfl rfl rfl ?_
  refine me3 (pc' := 59) dm_X2_copyOf_58 (g_lald (v := (0 : Int64)) (lu (n := 2) (j := 5) hn rfl) rfl (by decide) rfl (Nat.le_of_ble_eq_true rfl)) rfl rfl rfl ?_
  refine me3 (pc' := 60) dm_X2_copyOf_59 (g_last (le_ (n := 2) (u := 100) (v := 25) (j := 3) hn rfl hv rfl) (se (n := 2) (u := 100) (v := 25) (j := 3) hn rfl hv _) rfl (by decide) (Nat.le_of_ble_eq_true rfl)) rfl rfl rfl ?_
  refine me1 (pc' := 61) dm_X2_copyOf_60 rfl rfl rfl rfl ?_
  refine me3 (pc' := 64) dm_X2_copyOf_61 (g_get (v := .ref 131) (le_ (n := 2) (u := 100) (v := 25) (j := 0) hn rfl hv rfl) rfl rfl (Nat.le_of_ble_eq_true rfl)) rfl rfl rfl ?_
  refine me1 (pc' := 65) dm_X2_copyOf_64 rfl rfl rfl rfl ?_
  refine me1 (pc' := 66) dm_X2_copyOf_65 rfl rfl rfl rfl ?_
  refine me3 (pc' := 69) dm_X2_copyOf_66 (g_get (v := .ref 8) (lu (n := 2) (j := 2) hn rfl) rfl rfl (Nat.le_of_ble_eq_true rfl)) rfl rfl rfl ?_
  refine me1 (pc' := 70) dm_X2_copyOf_69 rfl rfl rfl rfl ?_
  refine me3 (pc' := 71) dm_X2_copyOf_70 (g_aald (v := .null) (lu (n := 2) (j := 6) hn rfl) rfl (by decide) rfl (Nat.le_of_ble_eq_true rfl)) rfl rfl rfl ?_
  refine me3 (pc' := 72) dm_X2_copyOf_71 (g_aastn (le_ (n := 2) (u := 100) (v := 25) (j := 4) hn rfl hv rfl) (se (n := 2) (u := 100) (v := 25) (j := 4) hn rfl hv _) rfl (by decide) (Nat.le_of_ble_eq_true rfl)) rfl rfl rfl ?_
  refine me1 (pc' := 75) (L' := [(2, .int (18 : Int32)), (0, .ref 127), (1, .ref 4)]) dm_X2_copyOf_72 rfl rfl rfl rfl ?_
  refine me2 (pc' := 18) dm_X2_copyOf_75 rfl rfl rfl ?_
  refine me1 (pc' := 19) dm_X2_copyOf_18 rfl rfl rfl rfl ?_
  refine me0 (pc' := 21) (S' := .int (40 : Int32) :: _) dm_X2_copyOf_19 rfl rfl rfl rfl ?_
  refine me_2f (pc' := 24) dm_X2_copyOf_21 rfl (by decide) rfl ?_
  refine me1 (pc' := 25) dm_X2_copyOf_24 rfl rfl rfl rfl ?_
  refine me3 (pc' := 28) dm_X2_copyOf_25 (g_get (v := .ref 128) (le_ (n := 2) (u := 100) (v := 25) (j := 0) hn rfl hv rfl) rfl rfl (Nat.le_of_ble_eq_true rfl)) rfl rfl rfl ?_
  refine me1 (pc' := 29) dm_X2_copyOf_28 rfl rfl rfl rfl ?_
  refine me1 (pc' := 30) dm_X2_copyOf_29 rfl rfl rfl rfl ?_
  refine me3 (pc' := 33) dm_X2_copyOf_30 (g_get (v := .ref 5) (lu (n := 2) (j := 2) hn rfl) rfl rfl (Nat.le_of_ble_eq_true rfl)) rfl rfl rfl ?_
  refine me1 (pc' := 34) dm_X2_copyOf_33 rfl rfl rfl rfl ?_
  refine me3 (pc' := 35) dm_X2_copyOf_34 (g_lald (v := (0 : Int64)) (lu (n := 2) (j := 3) hn rfl) rfl (by decide) rfl (Nat.le_of_ble_eq_true rfl)) rfl rfl rfl ?_
  refine me3 (pc' := 36) dm_X2_copyOf_35 (g_last (le_ (n := 2) (u := 100) (v := 25) (j := 1) hn rfl hv rfl) (se (n := 2) (u := 100) (v := 25) (j := 1) hn rfl hv _) rfl (by decide) (Nat.le_of_ble_eq_true rfl)) rfl rfl rfl ?_
  refine me1 (pc' := 37) dm_X2_copyOf_36 rfl rfl rfl rfl ?_
  refine me3 (pc' := 40) dm_X2_copyOf_37 (g_get (v := .ref 129) (le_ (n := 2) (u := 100) (v := 25) (j := 0) hn rfl hv rfl) rfl rfl (Nat.le_of_ble_eq_true rfl)) rfl rfl rfl ?_
  refine me1 (pc' := 41) dm_X2_copyOf_40 rfl rfl rfl rfl ?_
  refine me1 (pc' := 42) dm_X2_copyOf_41 rfl rfl rfl rfl ?_
  refine me3 (pc' := 45) dm_X2_copyOf_42 (g_get (v := .ref 6) (lu (n := 2) (j := 2) hn rfl) rfl rfl (Nat.le_of_ble_eq_true rfl)) rfl rfl rfl ?_
  refine me1 (pc' := 46) dm_X2_copyOf_45 rfl rfl rfl rfl ?_
  refine me3 (pc' := 47) dm_X2_copyOf_46 (g_aald (v := .null) (lu (n := 2) (j := 4) hn rfl) rfl (by decide) rfl (Nat.le_of_ble_eq_true rfl)) rfl rfl rfl ?_
  refine me3 (pc' := 48) dm_X2_copyOf_47 (g_aastn (le_ (n := 2) (u := 100) (v := 25) (j := 2) hn rfl hv rfl) (se (n := 2) (u := 100) (v := 25) (j := 2) hn rfl hv _) rfl (by decide) (Nat.le_of_ble_eq_true rfl)) rfl rfl rfl ?_
  refine me1 (pc' := 49) dm_X2_copyOf_48 rfl rfl rfl rfl ?_
  refine me3 (pc' := 52) dm_X2_copyOf_49 (g_get (v := .ref 130) (le_ (n := 2) (u := 100) (v := 25) (j := 0) hn rfl hv rfl) rfl rfl (Nat.le_of_ble_eq_true rfl)) rfl rfl rfl ?_
  refine me1 (pc' := 53) dm_X2_copyOf_52 rfl rfl rfl rfl ?_
  refine me1 (pc' := 54) dm_X2_copyOf_53 rfl rfl rfl rfl ?_
  refine me3 (pc' := 57) dm_X2_copyOf_54 (g_get (v := .ref 7) (lu (n := 2) (j := 2) hn rfl) rfl rfl (Nat.le_of_ble_eq_true rfl)) rfl rfl rfl ?_
  refine me1 (pc' := 58) dm_X2_copyOf_57 rfl rfl rfl rfl ?_
  refine me3 (pc' := 59) dm_X2_copyOf_58 (g_lald (v := (0 : Int64)) (lu (n := 2) (j := 5) hn rfl) rfl (by decide) rfl (Nat.le_of_ble_eq_true rfl)) rfl rfl rfl ?_
  refine me3 (pc' := 60) dm_X2_copyOf_59 (g_last (le_ (n := 2) (u := 100) (v := 25) (j := 3) hn rfl hv rfl) (se (n := 2) (u := 100) (v := 25) (j := 3) hn rfl hv _) rfl (by decide) (Nat.le_of_ble_eq_true rfl)) rfl rfl rfl ?_
  refine me1 (pc' := 61) dm_X2_copyOf_60 rfl rfl rfl rfl ?_
  refine me3 (pc' := 64) dm_X2_copyOf_61 (g_get (v := .ref 131) (le_ (n := 2) (u := 100) (v := 25) (j := 0) hn rfl hv rfl) rfl rfl (Nat.le_of_ble_eq_true rfl)) rfl rfl rfl ?_
  refine me1 (pc' := 65) dm_X2_copyOf_64 rfl rfl rfl rfl ?_
  refine me1 (pc' := 66) dm_X2_copyOf_65 rfl rfl rfl rfl ?_
  refine me3 (pc' := 69) dm_X2_copyOf_66 (g_get (v := .ref 8) (lu (n := 2) (j := 2) hn rfl) rfl rfl (Nat.le_of_ble_eq_true rfl)) rfl rfl rfl ?_
  refine me1 (pc' := 70) dm_X2_copyOf_69 rfl rfl rfl rfl ?_
  refine me3 (pc' := 71) dm_X2_copyOf_70 (g_aald (v := .null) (lu (n := 2) (j := 6) hn rfl) rfl (by decide) rfl (Nat.le_of_ble_eq_true rfl)) rfl rfl rfl ?_
  refine me3 (pc' := 72) dm_X2_copyOf_71 (g_aastn (le_ (n := 2) (u := 100) (v := 25) (j := 4) hn rfl hv rfl) (se (n := 2) (u := 100) (v := 25) (j := 4) hn rfl hv _) rfl (by decide) (Nat.le_of_ble_eq_true rfl)) rfl rfl rfl ?_
  refine me1 (pc' := 75) (L' := [(2, .int (19 : Int32)), (0, .ref 127), (1, .ref 4)]) dm_X2_copyOf_72 rfl rfl rfl rfl ?_
  refine me2 (pc' := 18) dm_X2_copyOf_75 rfl rfl rfl ?_
  refine me1 (pc' := 19) dm_X2_copyOf_18 rfl rfl rfl rfl ?_
  refine me0 (pc' := 21) (S' := .int (40 : Int32) :: _) dm_X2_copyOf_19 rfl rfl rfl rfl ?_
  refine me_2f (pc' := 24) dm_X2_copyOf_21 rfl (by decide) rfl ?_
  refine me1 (pc' := 25) dm_X2_copyOf_24 rfl rfl rfl rfl ?_
  refine me3 (pc' := 28) dm_X2_copyOf_25 (g_get (v := .ref 128) (le_ (n := 2) (u := 100) (v := 25) (j := 0) hn rfl hv rfl) rfl rfl (Nat.le_of_ble_eq_true rfl)) rfl rfl rfl ?_
  refine me1 (pc' := 29) dm_X2_copyOf_28 rfl rfl rfl rfl ?_
  refine me1 (pc' := 30) dm_X2_copyOf_29 rfl rfl rfl rfl ?_
  refine me3 (pc' := 33) dm_X2_copyOf_30 (g_get (v := .ref 5) (lu (n := 2) (j := 2) hn rfl) rfl rfl (Nat.le_of_ble_eq_true rfl)) rfl rfl rfl ?_
  refine me1 (pc' := 34) dm_X2_copyOf_33 rfl rfl rfl rfl ?_
  refine me3 (pc' := 35) dm_X2_copyOf_34 (g_lald (v := (0 : Int64)) (lu (n := 2) (j := 3) hn rfl) rfl (by decide) rfl (Nat.le_of_ble_eq_true rfl)) rfl rfl rfl ?_
  refine me3 (pc' := 36) dm_X2_copyOf_35 (g_last (le_ (n := 2) (u := 100) (v := 25) (j := 1) hn rfl hv rfl) (se (n := 2) (u := 100) (v := 25) (j := 1) hn rfl hv _) rfl (by decide) (Nat.le_of_ble_eq_true rfl)) rfl rfl rfl ?_
  refine me1 (pc' := 37) dm_X2_copyOf_36 rfl rfl rfl rfl ?_
  refine me3 (pc' := 40) dm_X2_copyOf_37 (g_get (v := .ref 129) (le_ (n := 2) (u := 100) (v := 25) (j := 0) hn rfl hv rfl) rfl rfl (Nat.le_of_ble_eq_true rfl)) rfl rfl rfl ?_
  refine me1 (pc' := 41) dm_X2_copyOf_40 rfl rfl rfl rfl ?_
  refine me1 (pc' := 42) dm_X2_copyOf_41 rfl rfl rfl rfl ?_
  refine me3 (pc' := 45) dm_X2_copyOf_42 (g_get (v := .ref 6) (lu (n := 2) (j := 2) hn rfl) rfl rfl (Nat.le_of_ble_eq_true rfl)) rfl rfl rfl ?_
  refine me1 (pc' := 46) dm_X2_copyOf_45 rfl rfl rfl rfl ?_
  refine me3 (pc' := 47) dm_X2_copyOf_46 (g_aald (v := .null) (lu (n := 2) (j := 4) hn rfl) rfl (by decide) rfl (Nat.le_of_ble_eq_true rfl)) rfl rfl rfl ?_
  refine me3 (pc' := 48) dm_X2_copyOf_47 (g_aastn (le_ (n := 2) (u := 100) (v := 25) (j := 2) hn rfl hv rfl) (se (n := 2) (u := 100) (v := 25) (j := 2) hn rfl hv _) rfl (by decide) (Nat.le_of_ble_eq_true rfl)) rfl rfl rfl ?_
  refine me1 (pc' := 49) dm_X2_copyOf_48 rfl rfl rfl rfl ?_
  refine me3 (pc' := 52) dm_X2_copyOf_49 (g_get (v := .ref 130) (le_ (n := 2) (u := 100) (v := 25) (j := 0) hn rfl hv rfl) rfl rfl (Nat.le_of_ble_eq_true rfl)) rfl rfl rfl ?_
  refine me1 (pc' := 53) dm_X2_copyOf_52 rfl rfl rfl rfl ?_
  refine me1 (pc' := 54) dm_X2_copyOf_53 rfl rfl rfl rfl ?_
  refine me3 (pc' := 57) dm_X2_copyOf_54 (g_get (v := .ref 7) (lu (n := 2) (j := 2) hn rfl) rfl rfl (Nat.le_of_ble_eq_true rfl)) rfl rfl rfl ?_
  refine me1 (pc' := 58) dm_X2_copyOf_57 rfl rfl rfl rfl ?_
  refine me3 (pc' := 59) dm_X2_copyOf_58 (g_lald (v := (0 : Int64)) (lu (n := 2) (j := 5) hn rfl) rfl (by decide) rfl (Nat.le_of_ble_eq_true rfl)) rfl rfl rfl ?_
  refine me3 (pc' := 60) dm_X2_copyOf_59 (g_last (le_ (n := 2) (u := 100) (v := 25) (j := 3) hn rfl hv rfl) (se (n := 2) (u := 100) (v := 25) (j := 3) hn rfl hv _) rfl (by decide) (Nat.le_of_ble_eq_true rfl)) rfl rfl rfl ?_
  refine me1 (pc' := 61) dm_X2_copyOf_60 rfl rfl rfl rfl ?_
  refine me3 (pc' := 64) dm_X2_copyOf_61 (g_get (v := .ref 131) (le_ (n := 2) (u := 100) (v := 25) (j := 0) hn rfl hv rfl) rfl rfl (Nat.le_of_ble_eq_true rfl)) rfl rfl rfl ?_
  refine me1 (pc' := 65) dm_X2_copyOf_64 rfl rfl rfl rfl ?_
  refine me1 (pc' := 66) dm_X2_copyOf_65 rfl rfl rfl rfl ?_
  refine me3 (pc' := 69) dm_X2_copyOf_66 (g_get (v := .ref 8) (lu (n := 2) (j := 2) hn rfl) rfl rfl (Nat.le_of_ble_eq_true rfl)) rfl rfl rfl ?_
  refine me1 (pc' := 70) dm_X2_copyOf_69 rfl rfl rfl rfl ?_
  refine me3 (pc' := 71) dm_X2_copyOf_70 (g_aald (v := .null) (lu (n := 2) (j := 6) hn rfl) rfl (by decide) rfl (Nat.le_of_ble_eq_true rfl)) rfl rfl rfl ?_
  refine me3 (pc' := 72) dm_X2_copyOf_71 (g_aastn (le_ (n := 2) (u := 100) (v := 25) (j := 4) hn rfl hv rfl) (se (n := 2) (u := 100) (v := 25) (j := 4) hn rfl hv _) rfl (by decide) (Nat.le_of_ble_eq_true rfl)) rfl rfl rfl ?_
  refine me1 (pc' := 75) (L' := [(2, .int (20 : Int32)), (0, .ref 127), (1, .ref 4)]) dm_X2_copyOf_72 rfl rfl rfl rfl ?_
  refine me2 (pc' := 18) dm_X2_copyOf_75 rfl rfl rfl ?_
  refine me1 (pc' := 19) dm_X2_copyOf_18 rfl rfl rfl rfl ?_
  refine me0 (pc' := 21) (S' := .int (40 : Int32) :: _) dm_X2_copyOf_19 rfl rfl rfl rfl ?_
  refine me_2f (pc' := 24) dm_X2_copyOf_21 rfl (by decide) rfl ?_
  refine me1 (pc' := 25) dm_X2_copyOf_24 rfl rfl rfl rfl ?_
  refine me3 (pc' := 28) dm_X2_copyOf_25 (g_get (v := .ref 128) (le_ (n := 2) (u := 100) (v := 25) (j := 0) hn rfl hv rfl) rfl rfl (Nat.le_of_ble_eq_true rfl)) rfl rfl rfl ?_
  refine me1 (pc' := 29) dm_X2_copyOf_28 rfl rfl rfl rfl ?_
  refine me1 (pc' := 30) dm_X2_copyOf_29 rfl rfl rfl rfl ?_
  refine me3 (pc' := 33) dm_X2_copyOf_30 (g_get (v := .ref 5) (lu (n := 2) (j := 2) hn rfl) rfl rfl (Nat.le_of_ble_eq_true rfl)) rfl rfl rfl ?_
  refine me1 (pc' := 34) dm_X2_copyOf_33 rfl rfl rfl rfl ?_
  refine me3 (pc' := 35) dm_X2_copyOf_34 (g_lald (v := (0 : Int64)) (lu (n := 2) (j := 3) hn rfl) rfl (by decide) rfl (Nat.le_of_ble_eq_true rfl)) rfl rfl rfl ?_
  refine me3 (pc' := 36) dm_X2_copyOf_35 (g_last (le_ (n := 2) (u := 100) (v := 25) (j := 1) hn rfl hv rfl) (se (n := 2) (u := 100) (v := 25) (j := 1) hn rfl hv _) rfl (by decide) (Nat.le_of_ble_eq_true rfl)) rfl rfl rfl ?_
  refine me1 (pc' := 37) dm_X2_copyOf_36 rfl rfl rfl rfl ?_
  refine me3 (pc' := 40) dm_X2_copyOf_37 (g_get (v := .ref 129) (le_ (n := 2) (u := 100) (v := 25) (j := 0) hn rfl hv rfl) rfl rfl (Nat.le_of_ble_eq_true rfl)) rfl rfl rfl ?_
  refine me1 (pc' := 41) dm_X2_copyOf_40 rfl rfl rfl rfl ?_
  refine me1 (pc' := 42) dm_X2_copyOf_41 rfl rfl rfl rfl ?_
  refine me3 (pc' := 45) dm_X2_copyOf_42 (g_get (v := .ref 6) (lu (n := 2) (j := 2) hn rfl) rfl rfl (Nat.le_of_ble_eq_true rfl)) rfl rfl rfl ?_
  refine me1 (pc' := 46) dm_X2_copyOf_45 rfl rfl rfl rfl ?_
  refine me3 (pc' := 47) dm_X2_copyOf_46 (g_aald (v := .null) (lu (n := 2) (j := 4) hn rfl) rfl (by decide) rfl (Nat.le_of_ble_eq_true rfl)) rfl rfl rfl ?_
  refine me3 (pc' := 48) dm_X2_copyOf_47 (g_aastn (le_ (n := 2) (u := 100) (v := 25) (j := 2) hn rfl hv rfl) (se (n := 2) (u := 100) (v := 25) (j := 2) hn rfl hv _) rfl (by decide) (Nat.le_of_ble_eq_true rfl)) rfl rfl rfl ?_
  refine me1 (pc' := 49) dm_X2_copyOf_48 rfl rfl rfl rfl ?_
  refine me3 (pc' := 52) dm_X2_copyOf_49 (g_get (v := .ref 130) (le_ (n := 2) (u := 100) (v := 25) (j := 0) hn rfl hv rfl) rfl rfl (Nat.le_of_ble_eq_true rfl)) rfl rfl rfl ?_
  refine me1 (pc' := 53) dm_X2_copyOf_52 rfl rfl rfl rfl ?_
  refine me1 (pc' := 54) dm_X2_copyOf_53 rfl rfl rfl rfl ?_
  refine me3 (pc' := 57) dm_X2_copyOf_54 (g_get (v := .ref 7) (lu (n := 2) (j := 2) hn rfl) rfl rfl (Nat.le_of_ble_eq_true rfl)) rfl rfl rfl ?_
  refine me1 (pc' := 58) dm_X2_copyOf_57 rfl rfl rfl rfl ?_
  refine me3 (pc' := 59) dm_X2_copyOf_58 (g_lald (v := (0 : Int64)) (lu (n := 2) (j := 5) hn rfl) rfl (by decide) rfl (Nat.le_of_ble_eq_true rfl)) rfl rfl rfl ?_
  refine me3 (pc' := 60) dm_X2_copyOf_59 (g_last (le_ (n := 2) (u := 100) (v := 25) (j := 3) hn rfl hv rfl) (se (n := 2) (u := 100) (v := 25) (j := 3) hn rfl hv _) rfl (by decide) (Nat.le_of_ble_eq_true rfl)) rfl rfl rfl ?_
  refine me1 (pc' := 61) dm_X2_copyOf_60 rfl rfl rfl rfl ?_
  refine me3 (pc' := 64) dm_X2_copyOf_61 (g_get (v := .ref 131) (le_ (n := 2) (u := 100) (v := 25) (j := 0) hn rfl hv rfl) rfl rfl (Nat.le_of_ble_eq_true rfl)) rfl rfl rfl ?_
  refine me1 (pc' := 65) dm_X2_copyOf_64 rfl rfl rfl rfl ?_
  refine me1 (pc' := 66) dm_X2_copyOf_65 rfl rfl rfl rfl ?_
  refine me3 (pc' := 69) dm_X2_copyOf_66 (g_get (v := .ref 8) (lu (n := 2) (j := 2) hn rfl) rfl rfl (Nat.le_of_ble_eq_true rfl)) rfl rfl rfl ?_
  refine me1 (pc' := 70) dm_X2_copyOf_69 rfl rfl rfl rfl ?_
  refine me3 (pc' := 71) dm_X2_copyOf_70 (g_aald (v := .null) (lu (n := 2) (j := 6) hn rfl) rfl (by decide) rfl (Nat.le_of_ble_eq_true rfl)) rfl rfl rfl ?_
  refine me3 (pc' := 72) dm_X2_copyOf_71 (g_aastn (le_ (n := 2) (u := 100) (v := 25) (j := 4) hn rfl hv rfl) (se (n := 2) (u := 100) (v := 25) (j := 4) hn rfl hv _) rfl (by decide) (Nat.le_of_ble_eq_true rfl)) rfl rfl rfl ?_
  refine me1 (pc' := 75) (L' := [(2, .int (21 : Int32)), (0, .ref 127), (1, .ref 4)]) dm_X2_copyOf_72 rfl rfl rfl rfl ?_
  refine me2 (pc' := 18) dm_X2_copyOf_75 rfl rfl rfl ?_
  refine me1 (pc' := 19) dm_X2_copyOf_18 rfl rfl rfl rfl ?_
  refine me0 (pc' := 21) (S' := .int (40 : Int32) :: _) dm_X2_copyOf_19 rfl rfl rfl rfl ?_
  refine me_2f (pc' := 24) dm_X2_copyOf_21 rfl (by decide) rfl ?_
  refine me1 (pc' := 25) dm_X2_copyOf_24 rfl rfl rfl rfl ?_
  refine me3 (pc' := 28) dm_X2_copyOf_25 (g_get (v := .ref 128) (le_ (n := 2) (u := 100) (v := 25) (j := 0) hn rfl hv rfl) rfl rfl (Nat.le_of_ble_eq_true rfl)) rfl rfl rfl ?_
  refine me1 (pc' := 29) dm_X2_copyOf_28 rfl rfl rfl rfl ?_
  refine me1 (pc' := 30) dm_X2_copyOf_29 rfl rfl rfl rfl ?_
  refine me3 (pc' := 33) dm_X2_copyOf_30 (g_get (v := .ref 5) (lu (n := 2) (j := 2) hn rfl) rfl rfl (Nat.le_of_ble_eq_true rfl)) rfl rfl rfl ?_
  refine me1 (pc' := 34) dm_X2_copyOf_33 rfl rfl rfl rfl ?_
  refine me3 (pc' := 35) dm_X2_copyOf_34 (g_lald (v := (0 : Int64)) (lu (n := 2) (j := 3) hn rfl) rfl (by decide) rfl (Nat.le_of_ble_eq_true rfl)) rfl rfl rfl ?_
  refine me3 (pc' := 36) dm_X2_copyOf_35 (g_last (le_ (n := 2) (u := 100) (v := 25) (j := 1) hn rfl hv rfl) (se (n := 2) (u := 100) (v := 25) (j := 1) hn rfl hv _) rfl (by decide) (Nat.le_of_ble_eq_true rfl)) rfl rfl rfl ?_
  refine me1 (pc' := 37) dm_X2_copyOf_36 rfl rfl rfl rfl ?_
  refine me3 (pc' := 40) dm_X2_copyOf_37 (g_get (v := .ref 129) (le_ (n := 2) (u := 100) (v := 25) (j := 0) hn rfl hv rfl) rfl rfl (Nat.le_of_ble_eq_true rfl)) rfl rfl rfl ?_
  refine me1 (pc' := 41) dm_X2_copyOf_40 rfl rfl rfl rfl ?_
  refine me1 (pc' := 42) dm_X2_copyOf_41 rfl rfl rfl rfl ?_
  refine me3 (pc' := 45) dm_X2_copyOf_42 (g_get (v := .ref 6) (lu (n := 2) (j := 2) hn rfl) rfl rfl (Nat.le_of_ble_eq_true rfl)) rfl rfl rfl ?_
  refine me1 (pc' := 46) dm_X2_copyOf_45 rfl rfl rfl rfl ?_
  refine me3 (pc' := 47) dm_X2_copyOf_46 (g_aald (v := .null) (lu (n := 2) (j := 4) hn rfl) rfl (by decide) rfl (Nat.le_of_ble_eq_true rfl)) rfl rfl rfl ?_
  refine me3 (pc' := 48) dm_X2_copyOf_47 (g_aastn (le_ (n := 2) (u := 100) (v := 25) (j := 2) hn rfl hv rfl) (se (n := 2) (u := 100) (v := 25) (j := 2) hn rfl hv _) rfl (by decide) (Nat.le_of_ble_eq_true rfl)) rfl rfl rfl ?_
  refine me1 (pc' := 49) dm_X2_copyOf_48 rfl rfl rfl rfl ?_
  refine me3 (pc' := 52) dm_X2_copyOf_49 (g_get (v := .ref 130) (le_ (n := 2) (u := 100) (v := 25) (j := 0) hn rfl hv rfl) rfl rfl (Nat.le_of_ble_eq_true rfl)) rfl rfl rfl ?_
  refine me1 (pc' := 53) dm_X2_copyOf_52 rfl rfl rfl rfl ?_
  refine me1 (pc' := 54) dm_X2_copyOf_53 rfl rfl rfl rfl ?_
  refine me3 (pc' := 57) dm_X2_copyOf_54 (g_get (v := .ref 7) (lu (n := 2) (j := 2) hn rfl) rfl rfl (Nat.le_of_ble_eq_true rfl)) rfl rfl rfl ?_
  refine me1 (pc' := 58) dm_X2_copyOf_57 rfl rfl rfl rfl ?_
  refine me3 (pc' := 59) dm_X2_copyOf_58 (g_lald (v := (0 : Int64)) (lu (n := 2) (j := 5) hn rfl) rfl (by decide) rfl (Nat.le_of_ble_eq_true rfl)) rfl rfl rfl ?_
  refine me3 (pc' := 60) dm_X2_copyOf_59 (g_last (le_ (n := 2) (u := 100) (v := 25) (j := 3) hn rfl hv rfl) (se (n := 2) (u := 100) (v := 25) (j := 3) hn rfl hv _) rfl (by decide) (Nat.le_of_ble_eq_true rfl)) rfl rfl rfl ?_
  refine me1 (pc' := 61) dm_X2_copyOf_60 rfl rfl rfl rfl ?_
  refine me3 (pc' := 64) dm_X2_copyOf_61 (g_get (v := .ref 131) (le_ (n := 2) (u := 100) (v := 25) (j := 0) hn rfl hv rfl) rfl rfl (Nat.le_of_ble_eq_true rfl)) rfl rfl rfl ?_
  refine me1 (pc' := 65) dm_X2_copyOf_64 rfl rfl rfl rfl ?_
  refine me1 (pc' := 66) dm_X2_copyOf_65 rfl rfl rfl rfl ?_
  refine me3 (pc' := 69) dm_X2_copyOf_66 (g_get (v := .ref 8) (lu (n := 2) (j := 2) hn rfl) rfl rfl (Nat.le_of_ble_eq_true rfl)) rfl rfl rfl ?_
  refine me1 (pc' := 70) dm_X2_copyOf_69 rfl rfl rfl rfl ?_
  refine me3 (pc' := 71) dm_X2_copyOf_70 (g_aald (v := .null) (lu (n := 2) (j := 6) hn rfl) rfl (by decide) rfl (Nat.le_of_ble_eq_true rfl)) rfl rfl rfl ?_
  refine me3 (pc' := 72) dm_X2_copyOf_71 (g_aastn (le_ (n := 2) (u := 100) (v := 25) (j := 4) hn rfl hv rfl) (se (n := 2) (u := 100) (v := 25) (j := 4) hn rfl hv _) rfl (by decide) (Nat.le_of_ble_eq_true rfl)) rfl rfl rfl ?_
  refine me1 (pc' := 75) (L' := [(2, .int (22 : Int32)), (0, .ref 127), (1, .ref 4)]) dm_X2_copyOf_72 rfl rfl rfl rfl ?_
  refine me2 (pc' := 18) dm_X2_copyOf_75 rfl rfl rfl ?_
  refine me1 (pc' := 19) dm_X2_copyOf_18 rfl rfl rfl rfl ?_
  refine me0 (pc' := 21) (S' := .int (40 : Int32) :: _) dm_X2_copyOf_19 rfl rfl rfl rfl ?_
  refine me_2f (pc' := 24) dm_X2_copyOf_21 rfl (by decide) rfl ?_
  refine me1 (pc' := 25) dm_X2_copyOf_24 rfl rfl rfl rfl ?_
  refine me3 (pc' := 28) dm_X2_copyOf_25 (g_get (v := .ref 128) (le_ (n := 2) (u := 100) (v := 25) (j := 0) hn rfl hv rfl) rfl rfl (Nat.le_of_ble_eq_true rfl)) rfl rfl rfl ?_
  refine me1 (pc' := 29) dm_X2_copyOf_28 rfl rfl rfl rfl ?_
  refine me1 (pc' := 30) dm_X2_copyOf_29 rfl rfl rfl rfl ?_
  refine me3 (pc' := 33) dm_X2_copyOf_30 (g_get (v := .ref 5) (lu (n := 2) (j := 2) hn rfl) rfl rfl (Nat.le_of_ble_eq_true rfl)) rfl rfl rfl ?_
  refine me1 (pc' := 34) dm_X2_copyOf_33 rfl rfl rfl rfl ?_
  refine me3 (pc' := 35) dm_X2_copyOf_34 (g_lald (v := (0 : Int64)) (lu (n := 2) (j := 3) hn rfl) rfl (by decide) rfl (Nat.le_of_ble_eq_true rfl)) rfl rfl rfl ?_
  refine me3 (pc' := 36) dm_X2_copyOf_35 (g_last (le_ (n := 2) (u := 100) (v := 25) (j := 1) hn rfl hv rfl) (se (n := 2) (u := 100) (v := 25) (j := 1) hn rfl hv _) rfl (by decide) (Nat.le_of_ble_eq_true rfl)) rfl rfl rfl ?_
  refine me1 (pc' := 37) dm_X2_copyOf_36 rfl rfl rfl rfl ?_
  refine me3 (pc' := 40) dm_X2_copyOf_37 (g_get (v := .ref 129) (le_ (n := 2) (u := 100) (v := 25) (j := 0) hn rfl hv rfl) rfl rfl (Nat.le_of_ble_eq_true rfl)) rfl rfl rfl ?_
  refine me1 (pc' := 41) dm_X2_copyOf_40 rfl rfl rfl rfl ?_
  refine me1 (pc' := 42) dm_X2_copyOf_41 rfl rfl rfl rfl ?_
  refine me3 (pc' := 45) dm_X2_copyOf_42 (g_get (v := .ref 6) (lu (n := 2) (j := 2) hn rfl) rfl rfl (Nat.le_of_ble_eq_true rfl)) rfl rfl rfl ?_
  refine me1 (pc' := 46) dm_X2_copyOf_45 rfl rfl rfl rfl ?_
  refine me3 (pc' := 47) dm_X2_copyOf_46 (g_aald (v := .null) (lu (n := 2) (j := 4) hn rfl) rfl (by decide) rfl (Nat.le_of_ble_eq_true rfl)) rfl rfl rfl ?_
  refine me3 (pc' := 48) dm_X2_copyOf_47 (g_aastn (le_ (n := 2) (u := 100) (v := 25) (j := 2) hn rfl hv rfl) (se (n := 2) (u := 100) (v := 25) (j := 2) hn rfl hv _) rfl (by decide) (Nat.le_of_ble_eq_true rfl)) rfl rfl rfl ?_
  refine me1 (pc' := 49) dm_X2_copyOf_48 rfl rfl rfl rfl ?_
  refine me3 (pc' := 52) dm_X2_copyOf_49 (g_get (v := .ref 130) (le_ (n := 2) (u := 100) (v := 25) (j := 0) hn rfl hv rfl) rfl rfl (Nat.le_of_ble_eq_true rfl)) rfl rfl rfl ?_
  refine me1 (pc' := 53) dm_X2_copyOf_52 rfl rfl rfl rfl ?_
  refine me1 (pc' := 54) dm_X2_copyOf_53 rfl rfl rfl rfl ?_
  refine me3 (pc' := 57) dm_X2_copyOf_54 (g_get (v := .ref 7) (lu (n := 2) (j := 2) hn rfl) rfl rfl (Nat.le_of_ble_eq_true rfl)) rfl rfl rfl ?_
  refine me1 (pc' := 58) dm_X2_copyOf_57 rfl rfl rfl rfl ?_
  refine me3 (pc' := 59) dm_X2_copyOf_58 (g_lald (v := (0 : Int64)) (lu (n := 2) (j := 5) hn rfl) rfl (by decide) rfl (Nat.le_of_ble_eq_true rfl)) rfl rfl rfl ?_
  refine me3 (pc' := 60) dm_X2_copyOf_59 (g_last (le_ (n := 2) (u := 100) (v := 25) (j := 3) hn rfl hv rfl) (se (n := 2) (u := 100) (v := 25) (j := 3) hn rfl hv _) rfl (by decide) (Nat.le_of_ble_eq_true rfl)) rfl rfl rfl ?_
  refine me1 (pc' := 61) dm_X2_copyOf_60 rfl rfl rfl rfl ?_
  refine me3 (pc' := 64) dm_X2_copyOf_61 (g_get (v := .ref 131) (le_ (n := 2) (u := 100) (v := 25) (j := 0) hn rfl hv rfl) rfl rfl (Nat.le_of_ble_eq_true rfl)) rfl rfl rfl ?_
  refine me1 (pc' := 65) dm_X2_copyOf_64 rfl rfl rfl rfl ?_
  refine me1 (pc' := 66) dm_X2_copyOf_65 rfl rfl rfl rfl ?_
  refine me3 (pc' := 69) dm_X2_copyOf_66 (g_get (v := .ref 8) (lu (n := 2) (j := 2) hn rfl) rfl rfl (Nat.le_of_ble_eq_true rfl)) rfl rfl rfl ?_
  refine me1 (pc' := 70) dm_X2_copyOf_69 rfl rfl rfl rfl ?_
  refine me3 (pc' := 71) dm_X2_copyOf_70 (g_aald (v := .null) (lu (n := 2) (j := 6) hn rfl) rfl (by decide) rfl (Nat.le_of_ble_eq_true rfl)) rfl rfl rfl ?_
  refine me3 (pc' := 72) dm_X2_copyOf_71 (g_aastn (le_ (n := 2) (u := 100) (v := 25) (j := 4) hn rfl hv rfl) (se (n := 2) (u := 100) (v := 25) (j := 4) hn rfl hv _) rfl (by decide) (Nat.le_of_ble_eq_true rfl)) rfl rfl rfl ?_
  refine me1 (pc' := 75) (L' := [(2, .int (23 : Int32)), (0, .ref 127), (1, .ref 4)]) dm_X2_copyOf_72 rfl rfl rfl rfl ?_
  refine me2 (pc' := 18) dm_X2_copyOf_75 rfl rfl rfl ?_
  refine me1 (pc' := 19) dm_X2_copyOf_18 rfl rfl rfl rfl ?_
  refine me0 (pc' := 21) (S' := .int (40 : Int32) :: _) dm_X2_copyOf_19 rfl rfl rfl rfl ?_
  refine me_2f (pc' := 24) dm_X2_copyOf_21 rfl (by decide) rfl ?_
  refine me1 (pc' := 25) dm_X2_copyOf_24 rfl rfl rfl rfl ?_
  refine me3 (pc' := 28) dm_X2_copyOf_25 (g_get (v := .ref 128) (le_ (n := 2) (u := 100) (v := 25) (j := 0) hn rfl hv rfl) rfl rfl (Nat.le_of_ble_eq_true rfl)) rfl rfl rfl ?_
  refine me1 (pc' := 29) dm_X2_copyOf_28 rfl rfl rfl rfl ?_
  refine me1 (pc' := 30) dm_X2_copyOf_29 rfl rfl rfl rfl ?_
  refine me3 (pc' := 33) dm_X2_copyOf_30 (g_get (v := .ref 5) (lu (n := 2) (j := 2) hn rfl) rfl rfl (Nat.le_of_ble_eq_true rfl)) rfl rfl rfl ?_
  refine me1 (pc' := 34) dm_X2_copyOf_33 rfl rfl rfl rfl ?_
  refine me3 (pc' := 35) dm_X2_copyOf_34 (g_lald (v := (0 : Int64)) (lu (n := 2) (j := 3) hn rfl) rfl (by decide) rfl (Nat.le_of_ble_eq_true rfl)) rfl rfl rfl ?_
  refine me3 (pc' := 36) dm_X2_copyOf_35 (g_last (le_ (n := 2) (u := 100) (v := 25) (j := 1) hn rfl hv rfl) (se (n := 2) (u := 100) (v := 25) (j := 1) hn rfl hv _) rfl (by decide) (Nat.le_of_ble_eq_true rfl)) rfl rfl rfl ?_
  refine me1 (pc' := 37) dm_X2_copyOf_36 rfl rfl rfl rfl ?_
  refine me3 (pc' := 40) dm_X2_copyOf_37 (g_get (v := .ref 129) (le_ (n := 2) (u := 100) (v := 25) (j := 0) hn rfl hv rfl) rfl rfl (Nat.le_of_ble_eq_true rfl)) rfl rfl rfl ?_
  refine me1 (pc' := 41) dm_X2_copyOf_40 rfl rfl rfl rfl ?_
  refine me1 (pc' := 42) dm_X2_copyOf_41 rfl rfl rfl rfl ?_
  refine me3 (pc' := 45) dm_X2_copyOf_42 (g_get (v := .ref 6) (lu (n := 2) (j := 2) hn rfl) rfl rfl (Nat.le_of_ble_eq_true rfl)) rfl rfl rfl ?_
  refine me1 (pc' := 46) dm_X2_copyOf_45 rfl rfl rfl rfl ?_
  refine me3 (pc' := 47) dm_X2_copyOf_46 (g_aald (v := .null) (lu (n := 2) (j := 4) hn rfl) rfl (by decide) rfl (Nat.le_of_ble_eq_true rfl)) rfl rfl rfl ?_
  refine me3 (pc' := 48) dm_X2_copyOf_47 (g_aastn (le_ (n := 2) (u := 100) (v := 25) (j := 2) hn rfl hv rfl) (se (n := 2) (u := 100) (v := 25) (j := 2) hn rfl hv _) rfl (by decide) (Nat.le_of_ble_eq_true rfl)) rfl rfl rfl ?_
  refine me1 (pc' := 49) dm_X2_copyOf_48 rfl rfl rfl rfl ?_
  refine me3 (pc' := 52) dm_X2_copyOf_49 (g_get (v := .ref 130) (le_ (n := 2) (u := 100) (v := 25) (j := 0) hn rfl hv rfl) rfl rfl (Nat.le_of_ble_eq_true rfl)) rfl rfl rfl ?_
  refine me1 (pc' := 53) dm_X2_copyOf_52 rfl rfl rfl rfl ?_
  refine me1 (pc' := 54) dm_X2_copyOf_53 rfl rfl rfl rfl ?_
  refine me3 (pc' := 57) dm_X2_copyOf_54 (g_get (v := .ref 7) (lu (n := 2) (j := 2) hn rfl) rfl rfl (Nat.le_of_ble_eq_true rfl)) rfl rfl rfl ?_
  refine me1 (pc' := 58) dm_X2_copyOf_57 rfl rfl rfl rfl ?_
  refine me3 (pc' := 59) dm_X2_copyOf_58 (g_lald (v := (0 : Int64)) (lu (n := 2) (j := 5) hn rfl) rfl (by decide) rfl (Nat.le_of_ble_eq_true rfl)) rfl rfl rfl ?_
  refine me3 (pc' := 60) dm_X2_copyOf_59 (g_last (le_ (n := 2) (u := 100) (v := 25) (j := 3) hn rfl hv rfl) (se (n := 2) (u := 100) (v := 25) (j := 3) hn rfl hv _) rfl (by decide) (Nat.le_of_ble_eq_true rfl)) rfl rfl rfl ?_
  refine me1 (pc' := 61) dm_X2_copyOf_60 rfl rfl rfl rfl ?_
  refine me3 (pc' := 64) dm_X2_copyOf_61 (g_get (v := .ref 131) (le_ (n := 2) (u := 100) (v := 25) (j := 0) hn rfl hv rfl) rfl rfl (Nat.le_of_ble_eq_true rfl)) rfl rfl rfl ?_
  refine me1 (pc' := 65) dm_X2_copyOf_64 rfl rfl rfl rfl ?_
  refine me1 (pc' := 66) dm_X2_copyOf_65 rfl rfl rfl rfl ?_
  refine me3 (pc' := 69) dm_X2_copyOf_66 (g_get (v := .ref 8) (lu (n := 2) (j := 2) hn rfl) rfl rfl (Nat.le_of_ble_eq_true rfl)) rfl rfl rfl ?_
  refine me1 (pc' := 70) dm_X2_copyOf_69 rfl rfl rfl rfl ?_
  refine me3 (pc' := 71) dm_X2_copyOf_70 (g_aald (v := .null) (lu (n := 2) (j := 6) hn rfl) rfl (by decide) rfl (Nat.le_of_ble_eq_true rfl)) rfl rfl rfl ?_
  refine me3 (pc' := 72) dm_X2_copyOf_71 (g_aastn (le_ (n := 2) (u := 100) (v := 25) (j := 4) hn rfl hv rfl) (se (n := 2) (u := 100) (v := 25) (j := 4) hn rfl hv _) rfl (by decide) (Nat.le_of_ble_eq_true rfl)) rfl rfl rfl ?_
  refine me1 (pc' := 75) (L' := [(2, .int (24 : Int32)), (0, .ref 127), (1, .ref 4)]) dm_X2_copyOf_72 rfl rfl rfl rfl ?_
  refine me2 (pc' := 18) dm_X2_copyOf_75 rfl rfl rfl ?_
  refine me1 (pc' := 19) dm_X2_copyOf_18 rfl rfl rfl rfl ?_
  refine me0 (pc' := 21) (S' := .int (40 : Int32) :: _) dm_X2_copyOf_19 rfl rfl rfl rfl ?_
  refine me_2f (pc' := 24) dm_X2_copyOf_21 rfl (by decide) rfl ?_
  refine me1 (pc' := 25) dm_X2_copyOf_24 rfl rfl rfl rfl ?_
  refine me3 (pc' := 28) dm_X2_copyOf_25 (g_get (v := .ref 128) (le_ (n := 2) (u := 100) (v := 25) (j := 0) hn rfl hv rfl) rfl rfl (Nat.le_of_ble_eq_true rfl)) rfl rfl rfl ?_
  refine me1 (pc' := 29) dm_X2_copyOf_28 rfl rfl rfl rfl ?_
  refine me1 (pc' := 30) dm_X2_copyOf_29 rfl rfl rfl rfl ?_
  refine me3 (pc' := 33) dm_X2_copyOf_30 (g_get (v := .ref 5) (lu (n := 2) (j := 2) hn rfl) rfl rfl (Nat.le_of_ble_eq_true rfl)) rfl rfl rfl ?_
  refine me1 (pc' := 34) dm_X2_copyOf_33 rfl rfl rfl rfl ?_
  refine me3 (pc' := 35) dm_X2_copyOf_34 (g_lald (v := (0 : Int64)) (lu (n := 2) (j := 3) hn rfl) rfl (by decide) rfl (Nat.le_of_ble_eq_true rfl)) rfl rfl rfl ?_
  refine me3 (pc' := 36) dm_X2_copyOf_35 (g_last (le_ (n := 2) (u := 100) (v := 25) (j := 1) hn rfl hv rfl) (se (n := 2) (u := 100) (v := 25) (j := 1) hn rfl hv _) rfl (by decide) (Nat.le_of_ble_eq_true rfl)) rfl rfl rfl ?_
  refine me1 (pc' := 37) dm_X2_copyOf_36 rfl rfl rfl rfl ?_
  refine me3 (pc' := 40) dm_X2_copyOf_37 (g_get (v := .ref 129) (le_ (n := 2) (u := 100) (v := 25) (j := 0) hn rfl hv rfl) rfl rfl (Nat.le_of_ble_eq_true rfl)) rfl rfl rfl ?_
  refine me1 (pc' := 41) dm_X2_copyOf_40 rfl rfl rfl rfl ?_
  refine me1 (pc' := 42) dm_X2_copyOf_41 rfl rfl rfl rfl ?_
  refine me3 (pc' := 45) dm_X2_copyOf_42 (g_get (v := .ref 6) (lu (n := 2) (j := 2) hn rfl) rfl rfl (Nat.le_of_ble_eq_true rfl)) rfl rfl rfl ?_
  refine me1 (pc' := 46) dm_X2_copyOf_45 rfl rfl rfl rfl ?_
  refine me3 (pc' := 47) dm_X2_copyOf_46 (g_aald (v := .null) (lu (n := 2) (j := 4) hn rfl) rfl (by decide) rfl (Nat.le_of_ble_eq_true rfl)) rfl rfl rfl ?_
  refine me3 (pc' := 48) dm_X2_copyOf_47 (g_aastn (le_ (n := 2) (u := 100) (v := 25) (j := 2) hn rfl hv rfl) (se (n := 2) (u := 100) (v := 25) (j := 2) hn rfl hv _) rfl (by decide) (Nat.le_of_ble_eq_true rfl)) rfl rfl rfl ?_
  refine me1 (pc' := 49) dm_X2_copyOf_48 rfl rfl rfl rfl ?_
  refine me3 (pc' := 52) dm_X2_copyOf_49 (g_get (v := .ref 130) (le_ (n := 2) (u := 100) (v := 25) (j := 0) hn rfl hv rfl) rfl rfl (Nat.le_of_ble_eq_true rfl)) rfl rfl rfl ?_
  refine me1 (pc' := 53) dm_X2_copyOf_52 rfl rfl rfl rfl ?_
  refine me1 (pc' := 54) dm_X2_copyOf_53 rfl rfl rfl rfl ?_
  refine me3 (pc' := 57) dm_X2_copyOf_54 (g_get (v := .ref 7) (lu (n := 2) (j := 2) hn rfl) rfl rfl (Nat.le_of_ble_eq_true rfl)) rfl rfl rfl ?_
  refine me1 (pc' := 58) dm_X2_copyOf_57 rfl rfl rfl rfl ?_
  refine me3 (pc' := 59) dm_X2_copyOf_58 (g_lald (v := (0 : Int64)) (lu (n := 2) (j := 5) hn rfl) rfl (by decide) rfl (Nat.le_of_ble_eq_true rfl)) rfl rfl rfl ?_
  refine me3 (pc' := 60) dm_X2_copyOf_59 (g_last (le_ (n := 2) (u := 100) (v := 25) (j := 3) hn rfl hv rfl) (se (n := 2) (u := 100) (v := 25) (j := 3) hn rfl hv _) rfl (by decide) (Nat.le_of_ble_eq_true rfl)) rfl rfl rfl ?_
  refine me1 (pc' := 61) dm_X2_copyOf_60 rfl rfl rfl rfl ?_
  refine me3 (pc' := 64) dm_X2_copyOf_61 (g_get (v := .ref 131) (le_ (n := 2) (u := 100) (v := 25) (j := 0) hn rfl hv rfl) rfl rfl (Nat.le_of_ble_eq_true rfl)) rfl rfl rfl ?_
  refine me1 (pc' := 65) dm_X2_copyOf_64 rfl rfl rfl rfl ?_
  refine me1 (pc' := 66) dm_X2_copyOf_65 rfl rfl rfl rfl ?_
  refine me3 (pc' := 69) dm_X2_copyOf_66 (g_get (v := .ref 8) (lu (n := 2) (j := 2) hn rfl) rfl rfl (Nat.le_of_ble_eq_true rfl)) rfl rfl rfl ?_
  refine me1 (pc' := 70) dm_X2_copyOf_69 rfl rfl rfl rfl ?_
  refine me3 (pc' := 71) dm_X2_copyOf_70 (g_aald (v := .null) (lu (n := 2) (j := 6) hn rfl) rfl (by decide) rfl (Nat.le_of_ble_eq_true rfl)) rfl rfl rfl ?_
  refine me3 (pc' := 72) dm_X2_copyOf_71 (g_aastn (le_ (n := 2) (u := 100) (v := 25) (j := 4) hn rfl hv rfl) (se (n := 2) (u := 100) (v := 25) (j := 4) hn rfl hv _) rfl (by decide) (Nat.le_of_ble_eq_true rfl)) rfl rfl rfl ?_
  refine me1 (pc' := 75) (L' := [(2, .int (25 : Int32)), (0, .ref 127), (1, .ref 4)]) dm_X2_copyOf_72 rfl rfl rfl rfl ?_
  refine me2 (pc' := 18) dm_X2_copyOf_75 rfl rfl rfl ?_
  refine me1 (pc' := 19) dm_X2_copyOf_18 rfl rfl rfl rfl ?_
  refine me0 (pc' := 21) (S' := .int (40 : Int32) :: _) dm_X2_copyOf_19 rfl rfl rfl rfl ?_
  refine me_2f (pc' := 24) dm_X2_copyOf_21 rfl (by decide) rfl ?_
  refine me1 (pc' := 25) dm_X2_copyOf_24 rfl rfl rfl rfl ?_
  refine me3 (pc' := 28) dm_X2_copyOf_25 (g_get (v := .ref 128) (le_ (n := 2) (u := 100) (v := 25) (j := 0) hn rfl hv rfl) rfl rfl (Nat.le_of_ble_eq_true rfl)) rfl rfl rfl ?_
  refine me1 (pc' := 29) dm_X2_copyOf_28 rfl rfl rfl rfl ?_
  refine me1 (pc' := 30) dm_X2_copyOf_29 rfl rfl rfl rfl ?_
  refine me3 (pc' := 33) dm_X2_copyOf_30 (g_get (v := .ref 5) (lu (n := 2) (j := 2) hn rfl) rfl rfl (Nat.le_of_ble_eq_true rfl)) rfl rfl rfl ?_
  refine me1 (pc' := 34) dm_X2_copyOf_33 rfl rfl rfl rfl ?_
  refine me3 (pc' := 35) dm_X2_copyOf_34 (g_lald (v := (0 : Int64)) (lu (n := 2) (j := 3) hn rfl) rfl (by decide) rfl (Nat.le_of_ble_eq_true rfl)) rfl rfl rfl ?_
  refine me3 (pc' := 36) dm_X2_copyOf_35 (g_last (le_ (n := 2) (u := 100) (v := 25) (j := 1) hn rfl hv rfl) (se (n := 2) (u := 100) (v := 25) (j := 1) hn rfl hv _) rfl (by decide) (Nat.le_of_ble_eq_true rfl)) rfl rfl rfl ?_
  refine me1 (pc' := 37) dm_X2_copyOf_36 rfl rfl rfl rfl ?_
  refine me3 (pc' := 40) dm_X2_copyOf_37 (g_get (v := .ref 129) (le_ (n := 2) (u := 100) (v := 25) (j := 0) hn rfl hv rfl) rfl rfl (Nat.le_of_ble_eq_true rfl)) rfl rfl rfl ?_
  refine me1 (pc' := 41) dm_X2_copyOf_40 rfl rfl rfl rfl ?_
  refine me1 (pc' := 42) dm_X2_copyOf_41 rfl rfl rfl rfl ?_
  refine me3 (pc' := 45) dm_X2_copyOf_42 (g_get (v := .ref 6) (lu (n := 2) (j := 2) hn rfl) rfl rfl (Nat.le_of_ble_eq_true rfl)) rfl rfl rfl ?_
  refine me1 (pc' := 46) dm_X2_copyOf_45 rfl rfl rfl rfl ?_
  refine me3 (pc' := 47) dm_X2_copyOf_46 (g_aald (v := .null) (lu (n := 2) (j := 4) hn rfl) rfl (by decide) rfl (Nat.le_of_ble_eq_true rfl)) rfl rfl rfl ?_
  refine me3 (pc' := 48) dm_X2_copyOf_47 (g_aastn (le_ (n := 2) (u := 100) (v := 25) (j := 2) hn rfl hv rfl) (se (n := 2) (u := 100) (v := 25) (j := 2) hn rfl hv _) rfl (by decide) (Nat.le_of_ble_eq_true rfl)) rfl rfl rfl ?_
  refine me1 (pc' := 49) dm_X2_copyOf_48 rfl rfl rfl rfl ?_
  refine me3 (pc' := 52) dm_X2_copyOf_49 (g_get (v := .ref 130) (le_ (n := 2) (u := 100) (v := 25) (j := 0) hn rfl hv rfl) rfl rfl (Nat.le_of_ble_eq_true rfl)) rfl rfl rfl ?_
  refine me1 (pc' := 53) dm_X2_copyOf_52 rfl rfl rfl rfl ?_
  refine me1 (pc' := 54) dm_X2_copyOf_53 rfl rfl rfl rfl ?_
  refine me3 (pc' := 57) dm_X2_copyOf_54 (g_get (v := .ref 7) (lu (n := 2) (j := 2) hn rfl) rfl rfl (Nat.le_of_ble_eq_true rfl)) rfl rfl rfl ?_
  refine me1 (pc' := 58) dm_X2_copyOf_57 rfl rfl rfl rfl ?_
  refine me3 (pc' := 59) dm_X2_copyOf_58 (g_lald (v := (0 : Int64)) (lu (n := 2) (j := 5) hn rfl) rfl (by decide) rfl (Nat.le_of_ble_eq_true rfl)) rfl rfl rfl ?_
  refine me3 (pc' := 60) dm_X2_copyOf_59 (g_last (le_ (n := 2) (u := 100) (v := 25) (j := 3) hn rfl hv rfl) (se (n := 2) (u := 100) (v := 25) (j := 3) hn rfl hv _) rfl (by decide) (Nat.le_of_ble_eq_true rfl)) rfl rfl rfl ?_
  refine me1 (pc' := 61) dm_X2_copyOf_60 rfl rfl rfl rfl ?_
  refine me3 (pc' := 64) dm_X2_copyOf_61 (g_get (v := .ref 131) (le_ (n := 2) (u := 100) (v := 25) (j := 0) hn rfl hv rfl) rfl rfl (Nat.le_of_ble_eq_true rfl)) rfl rfl rfl ?_
  refine me1 (pc' := 65) dm_X2_copyOf_64 rfl rfl rfl rfl ?_
  refine me1 (pc' := 66) dm_X2_copyOf_65 rfl rfl rfl rfl ?_
  refine me3 (pc' := 69) dm_X2_copyOf_66 (g_get (v := .ref 8) (lu (n := 2) (j := 2) hn rfl) rfl rfl (Nat.le_of_ble_eq_true rfl)) rfl rfl rfl ?_
  refine me1 (pc' := 70) dm_X2_copyOf_69 rfl rfl rfl rfl ?_
  refine me3 (pc' := 71) dm_X2_copyOf_70 (g_aald (v := .null) (lu (n := 2) (j := 6) hn rfl) rfl (by decide) rfl (Nat.le_of_ble_eq_true rfl)) rfl rfl rfl ?_
  refine me3 (pc' := 72) dm_X2_copyOf_71 (g_aastn (le_ (n := 2) (u := 100) (v := 25) (j := 4) hn rfl hv rfl) (se (n := 2) (u := 100) (v := 25) (j := 4) hn rfl hv _) rfl (by decide) (Nat.le_of_ble_eq_true rfl)) rfl rfl rfl ?_
  refine me1 (pc' := 75) (L' := [(2, .int (26 : Int32)), (0, .ref 127), (1, .ref 4)]) dm_X2_copyOf_72 rfl rfl rfl rfl ?_
  refine me2 (pc' := 18) dm_X2_copyOf_75 rfl rfl rfl ?_
  refine me1 (pc' := 19) dm_X2_copyOf_18 rfl rfl rfl rfl ?_
  refine me0 (pc' := 21) (S' := .int (40 : Int32) :: _) dm_X2_copyOf_19 rfl rfl rfl rfl ?_
  refine me_2f (pc' := 24) dm_X2_copyOf_21 rfl (by decide) rfl ?_
  refine me1 (pc' := 25) dm_X2_copyOf_24 rfl rfl rfl rfl ?_
  refine me3 (pc' := 28) dm_X2_copyOf_25 (g_get (v := .ref 128) (le_ (n := 2) (u := 100) (v := 25) (j := 0) hn rfl hv rfl) rfl rfl (Nat.le_of_ble_eq_true rfl)) rfl rfl rfl ?_
  refine me1 (pc' := 29) dm_X2_copyOf_28 rfl rfl rfl rfl ?_
  refine me1 (pc' := 30) dm_X2_copyOf_29 rfl rfl rfl rfl ?_
  refine me3 (pc' := 33) dm_X2_copyOf_30 (g_get (v := .ref 5) (lu (n := 2) (j := 2) hn rfl) rfl rfl (Nat.le_of_ble_eq_true rfl)) rfl rfl rfl ?_
  refine me1 (pc' := 34) dm_X2_copyOf_33 rfl rfl rfl rfl ?_
  refine me3 (pc' := 35) dm_X2_copyOf_34 (g_lald (v := (0 : Int64)) (lu (n := 2) (j := 3) hn rfl) rfl (by decide) rfl (Nat.le_of_ble_eq_true rfl)) rfl rfl rfl ?_
  refine me3 (pc' := 36) dm_X2_copyOf_35 (g_last (le_ (n := 2) (u := 100) (v := 25) (j := 1) hn rfl hv rfl) (se (n := 2) (u := 100) (v := 25) (j := 1) hn rfl hv _) rfl (by decide) (Nat.le_of_ble_eq_true rfl)) rfl rfl rfl ?_
  refine me1 (pc' := 37) dm_X2_copyOf_36 rfl rfl rfl rfl ?_
  refine me3 (pc' := 40) dm_X2_copyOf_37 (g_get (v := .ref 129) (le_ (n := 2) (u := 100) (v := 25) (j := 0) hn rfl hv rfl) rfl rfl (Nat.le_of_ble_eq_true rfl)) rfl rfl rfl ?_
  refine me1 (pc' := 41) dm_X2_copyOf_40 rfl rfl rfl rfl ?_
  refine me1 (pc' := 42) dm_X2_copyOf_41 rfl rfl rfl rfl ?_
  refine me3 (pc' := 45) dm_X2_copyOf_42 (g_get (v := .ref 6) (lu (n := 2) (j := 2) hn rfl) rfl rfl (Nat.le_of_ble_eq_true rfl)) rfl rfl rfl ?_
  refine me1 (pc' := 46) dm_X2_copyOf_45 rfl rfl rfl rfl ?_
  refine me3 (pc' := 47) dm_X2_copyOf_46 (g_aald (v := .null) (lu (n := 2) (j := 4) hn rfl) rfl (by decide) rfl (Nat.le_of_ble_eq_true rfl)) rfl rfl rfl ?_
  refine me3 (pc' := 48) dm_X2_copyOf_47 (g_aastn (le_ (n := 2) (u := 100) (v := 25) (j := 2) hn rfl hv rfl) (se (n := 2) (u := 100) (v := 25) (j := 2) hn rfl hv _) rfl (by decide) (Nat.le_of_ble_eq_true rfl)) rfl rfl rfl ?_
  refine me1 (pc' := 49) dm_X2_copyOf_48 rfl rfl rfl rfl ?_
  refine me3 (pc' := 52) dm_X2_copyOf_49 (g_get (v := .ref 130) (le_ (n := 2) (u := 100) (v := 25) (j := 0) hn rfl hv rfl) rfl rfl (Nat.le_of_ble_eq_true rfl)) rfl rfl rfl ?_
  refine me1 (pc' := 53) dm_X2_copyOf_52 rfl rfl rfl rfl ?_
  refine me1 (pc' := 54) dm_X2_copyOf_53 rfl rfl rfl rfl ?_
  refine me3 (pc' := 57) dm_X2_copyOf_54 (g_get (v := .ref 7) (lu (n := 2) (j := 2) hn rfl) rfl rfl (Nat.le_of_ble_eq_true rfl)) rfl rfl rfl ?_
  refine me1 (pc' := 58) dm_X2_copyOf_57 rfl rfl rfl rfl ?_
  refine me3 (pc' := 59) dm_X2_copyOf_58 (g_lald (v := (0 : Int64)) (lu (n := 2) (j := 5) hn rfl) rfl (by decide) rfl (Nat.le_of_ble_eq_true rfl)) rfl rfl rfl ?_
  refine me3 (pc' := 60) dm_X2_copyOf_59 (g_last (le_ (n := 2) (u := 100) (v := 25) (j := 3) hn rfl hv rfl) (se (n := 2) (u := 100) (v := 25) (j := 3) hn rfl hv _) rfl (by decide) (Nat.le_of_ble_eq_true rfl)) rfl rfl rfl ?_
  refine me1 (pc' := 61) dm_X2_copyOf_60 rfl rfl rfl rfl ?_
  refine me3 (pc' := 64) dm_X2_copyOf_61 (g_get (v := .ref 131) (le_ (n := 2) (u := 100) (v := 25) (j := 0) hn rfl hv rfl) rfl rfl (Nat.le_of_ble_eq_true rfl)) rfl rfl rfl ?_
  refine me1 (pc' := 65) dm_X2_copyOf_64 rfl rfl rfl rfl ?_
  refine me1 (pc' := 66) dm_X2_copyOf_65 rfl rfl rfl rfl ?_
  refine me3 (pc' := 69) dm_X2_copyOf_66 (g_get (v := .ref 8) (lu (n := 2) (j := 2) hn rfl) rfl rfl (Nat.le_of_ble_eq_true rfl)) rfl rfl rfl ?_
  refine me1 (pc' := 70) dm_X2_copyOf_69 rfl rfl rfl rfl ?_
  refine me3 (pc' := 71) dm_X2_copyOf_70 (g_aald (v := .null) (lu (n := 2) (j := 6) hn rfl) rfl (by decide) rfl (Nat.le_of_ble_eq_true rfl)) rfl rfl rfl ?_
  refine me3 (pc' := 72) dm_X2_copyOf_71 (g_aastn (le_ (n := 2) (u := 100) (v := 25) (j := 4) hn rfl hv rfl) (se (n := 2) (u := 100) (v := 25) (j := 4) hn rfl hv _) rfl (by decide) (Nat.le_of_ble_eq_true rfl)) rfl rfl rfl ?_
  refine me1 (pc' := 75) (L' := [(2, .int (27 : Int32)), (0, .ref 127), (1, .ref 4)]) dm_X2_copyOf_72 rfl rfl rfl rfl ?_
  refine me2 (pc' := 18) dm_X2_copyOf_75 rfl rfl rfl ?_
  refine me1 (pc' := 19) dm_X2_copyOf_18 rfl rfl rfl rfl ?_
  refine me0 (pc' := 21) (S' := .int (40 : Int32) :: _) dm_X2_copyOf_19 rfl rfl rfl rfl ?_
  refine me_2f (pc' := 24) dm_X2_copyOf_21 rfl (by decide) rfl ?_
  refine me1 (pc' := 25) dm_X2_copyOf_24 rfl rfl rfl rfl ?_
  refine me3 (pc' := 28) dm_X2_copyOf_25 (g_get (v := .ref 128) (le_ (n := 2) (u := 100) (v := 25) (j := 0) hn rfl hv rfl) rfl rfl (Nat.le_of_ble_eq_true rfl)) rfl rfl rfl ?_
  refine me1 (pc' := 29) dm_X2_copyOf_28 rfl rfl rfl rfl ?_
  refine me1 (pc' := 30) dm_X2_copyOf_29 rfl rfl rfl rfl ?_
  refine me3 (pc' := 33) dm_X2_copyOf_30 (g_get (v := .ref 5) (lu (n := 2) (j := 2) hn rfl) rfl rfl (Nat.le_of_ble_eq_true rfl)) rfl rfl rfl ?_
  refine me1 (pc' := 34) dm_X2_copyOf_33 rfl rfl rfl rfl ?_
  refine me3 (pc' := 35) dm_X2_copyOf_34 (g_lald (v := (0 : Int64)) (lu (n := 2) (j := 3) hn rfl) rfl (by decide) rfl (Nat.le_of_ble_eq_true rfl)) rfl rfl rfl ?_
  refine me3 (pc' := 36) dm_X2_copyOf_35 (g_last (le_ (n := 2) (u := 100) (v := 25) (j := 1) hn rfl hv rfl) (se (n := 2) (u := 100) (v := 25) (j := 1) hn rfl hv _) rfl (by decide) (Nat.le_of_ble_eq_true rfl)) rfl rfl rfl ?_
  refine me1 (pc' := 37) dm_X2_copyOf_36 rfl rfl rfl rfl ?_
  refine me3 (pc' := 40) dm_X2_copyOf_37 (g_get (v := .ref 129) (le_ (n := 2) (u := 100) (v := 25) (j := 0) hn rfl hv rfl) rfl rfl (Nat.le_of_ble_eq_true rfl)) rfl rfl rfl ?_
  refine me1 (pc' := 41) dm_X2_copyOf_40 rfl rfl rfl rfl ?_
  refine me1 (pc' := 42) dm_X2_copyOf_41 rfl rfl rfl rfl ?_
  refine me3 (pc' := 45) dm_X2_copyOf_42 (g_get (v := .ref 6) (lu (n := 2) (j := 2) hn rfl) rfl rfl (Nat.le_of_ble_eq_true rfl)) rfl rfl rfl ?_
  refine me1 (pc' := 46) dm_X2_copyOf_45 rfl rfl rfl rfl ?_
  refine me3 (pc' := 47) dm_X2_copyOf_46 (g_aald (v := .null) (lu (n := 2) (j := 4) hn rfl) rfl (by decide) rfl (Nat.le_of_ble_eq_true rfl)) rfl rfl rfl ?_
  refine me3 (pc' := 48) dm_X2_copyOf_47 (g_aastn (le_ (n := 2) (u := 100) (v := 25) (j := 2) hn rfl hv rfl) (se (n := 2) (u := 100) (v := 25) (j := 2) hn rfl hv _) rfl (by decide) (Nat.le_of_ble_eq_true rfl)) rfl rfl rfl ?_
  refine me1 (pc' := 49) dm_X2_copyOf_48 rfl rfl rfl rfl ?_
  refine me3 (pc' := 52) dm_X2_copyOf_49 (g_get (v := .ref 130) (le_ (n := 2) (u := 100) (v := 25) (j := 0) hn rfl hv rfl) rfl rfl (Nat.le_of_ble_eq_true rfl)) rfl rfl rfl ?_
  refine me1 (pc' := 53) dm_X2_copyOf_52 rfl rfl rfl rfl ?_
  refine me1 (pc' := 54) dm_X2_copyOf_53 rfl rfl rfl rfl ?_
  refine me3 (pc' := 57) dm_X2_copyOf_54 (g_get (v := .ref 7) (lu (n := 2) (j := 2) hn rfl) rfl rfl (Nat.le_of_ble_eq_true rfl)) rfl rfl rfl ?_
  refine me1 (pc' := 58) dm_X2_copyOf_57 rfl rfl rfl rfl ?_
  refine me3 (pc' := 59) dm_X2_copyOf_58 (g_lald (v := (0 : Int64)) (lu (n := 2) (j := 5) hn rfl) rfl (by decide) rfl (Nat.le_of_ble_eq_true rfl)) rfl rfl rfl ?_
  refine me3 (pc' := 60) dm_X2_copyOf_59 (g_last (le_ (n := 2) (u := 100) (v := 25) (j := 3) hn rfl hv rfl) (se (n := 2) (u := 100) (v := 25) (j := 3) hn rfl hv _) rfl (by decide) (Nat.le_of_ble_eq_true rfl)) rfl rfl rfl ?_
  refine me1 (pc' := 61) dm_X2_copyOf_60 rfl rfl rfl rfl ?_
  refine me3 (pc' := 64) dm_X2_copyOf_61 (g_get (v := .ref 131) (le_ (n := 2) (u := 100) (v := 25) (j := 0) hn rfl hv rfl) rfl rfl (Nat.le_of_ble_eq_true rfl)) rfl rfl rfl ?_
  refine me1 (pc' := 65) dm_X2_copyOf_64 rfl rfl rfl rfl ?_
  refine me1 (pc' := 66) dm_X2_copyOf_65 rfl rfl rfl rfl ?_
  refine me3 (pc' := 69) dm_X2_copyOf_66 (g_get (v := .ref 8) (lu (n := 2) (j := 2) hn rfl) rfl rfl (Nat.le_of_ble_eq_true rfl)) rfl rfl rfl ?_
  refine me1 (pc' := 70) dm_X2_copyOf_69 rfl rfl rfl rfl ?_
  refine me3 (pc' := 71) dm_X2_copyOf_70 (g_aald (v := .null) (lu (n := 2) (j := 6) hn rfl) rfl (by decide) rfl (Nat.le_of_ble_eq_true rfl)) rfl rfl rfl ?_
  refine me3 (pc' := 72) dm_X2_copyOf_71 (g_aastn (le_ (n := 2) (u := 100) (v := 25) (j := 4) hn rfl hv rfl) (se (n := 2) (u := 100) (v := 25) (j := 4) hn rfl hv _) rfl (by decide) (Nat.le_of_ble_eq_true rfl)) rfl rfl rfl ?_
  refine me1 (pc' := 75) (L' := [(2, .int (28 : Int32)), (0, .ref 127), (1, .ref 4)]) dm_X2_copyOf_72 rfl rfl rfl rfl ?_
  refine me2 (pc' := 18) dm_X2_copyOf_75 rfl rfl rfl ?_
  refine me1 (pc' := 19) dm_X2_copyOf_18 rfl rfl rfl rfl ?_
  refine me0 (pc' := 21) (S' := .int (40 : Int32) :: _) dm_X2_copyOf_19 rfl rfl rfl rfl ?_
  refine me_2f (pc' := 24) dm_X2_copyOf_21 rfl (by decide) rfl ?_
  refine me1 (pc' := 25) dm_X2_copyOf_24 rfl rfl rfl rfl ?_
  refine me3 (pc' := 28) dm_X2_copyOf_25 (g_get (v := .ref 128) (le_ (n := 2) (u := 100) (v := 25) (j := 0) hn rfl hv rfl) rfl rfl (Nat.le_of_ble_eq_true rfl)) rfl rfl rfl ?_
  refine me1 (pc' := 29) dm_X2_copyOf_28 rfl rfl rfl rfl ?_
  refine me1 (pc' := 30) dm_X2_copyOf_29 rfl rfl rfl rfl ?_
  refine me3 (pc' := 33) dm_X2_copyOf_30 (g_get (v := .ref 5) (lu (n := 2) (j := 2) hn rfl) rfl rfl (Nat.le_of_ble_eq_true rfl)) rfl rfl rfl ?_
  refine me1 (pc' := 34) dm_X2_copyOf_33 rfl rfl rfl rfl ?_
  refine me3 (pc' := 35) dm_X2_copyOf_34 (g_lald (v := (0 : Int64)) (lu (n := 2) (j := 3) hn rfl) rfl (by decide) rfl (Nat.le_of_ble_eq_true rfl)) rfl rfl rfl ?_
  refine me3 (pc' := 36) dm_X2_copyOf_35 (g_last (le_ (n := 2) (u := 100) (v := 25) (j := 1) hn rfl hv rfl) (se (n := 2) (u := 100) (v := 25) (j := 1) hn rfl hv _) rfl (by decide) (Nat.le_of_ble_eq_true rfl)) rfl rfl rfl ?_
  refine me1 (pc' := 37) dm_X2_copyOf_36 rfl rfl rfl rfl ?_
  refine me3 (pc' := 40) dm_X2_copyOf_37 (g_get (v := .ref 129) (le_ (n := 2) (u := 100) (v := 25) (j := 0) hn rfl hv rfl) rfl rfl (Nat.le_of_ble_eq_true rfl)) rfl rfl rfl ?_
  refine me1 (pc' := 41) dm_X2_copyOf_40 rfl rfl rfl rfl ?_
  refine me1 (pc' := 42) dm_X2_copyOf_41 rfl rfl rfl rfl ?_
  refine me3 (pc' := 45) dm_X2_copyOf_42 (g_get (v := .ref 6) (lu (n := 2) (j := 2) hn rfl) rfl rfl (Nat.le_of_ble_eq_true rfl)) rfl rfl rfl ?_
  refine me1 (pc' := 46) dm_X2_copyOf_45 rfl rfl rfl rfl ?_
  refine me3 (pc' := 47) dm_X2_copyOf_46 (g_aald (v := .null) (lu (n := 2) (j := 4) hn rfl) rfl (by decide) rfl (Nat.le_of_ble_eq_true rfl)) rfl rfl rfl ?_
  refine me3 (pc' := 48) dm_X2_copyOf_47 (g_aastn (le_ (n := 2) (u := 100) (v := 25) (j := 2) hn rfl hv rfl) (se (n := 2) (u := 100) (v := 25) (j := 2) hn rfl hv _) rfl (by decide) (Nat.le_of_ble_eq_true rfl)) rfl rfl rfl ?_
  refine me1 (pc' := 49) dm_X2_copyOf_48 rfl rfl rfl rfl ?_
  refine me3 (pc' := 52) dm_X2_copyOf_49 (g_get (v := .ref 130) (le_ (n := 2) (u := 100) (v := 25) (j := 0) hn rfl hv rfl) rfl rfl (Nat.le_of_ble_eq_true rfl)) rfl rfl rfl ?_
  refine me1 (pc' := 53) dm_X2_copyOf_52 rfl rfl rfl rfl ?_
  refine me1 (pc' := 54) dm_X2_copyOf_53 rfl rfl rfl rfl ?_
  refine me3 (pc' := 57) dm_X2_copyOf_54 (g_get (v := .ref 7) (lu (n := 2) (j := 2) hn rfl) rfl rfl (Nat.le_of_ble_eq_true rfl)) rfl rfl rfl ?_
  refine me1 (pc' := 58) dm_X2_copyOf_57 rfl rfl rfl rfl ?_
  refine me3 (pc' := 59) dm_X2_copyOf_58 (g_lald (v := (0 : Int64)) (lu (n := 2) (j := 5) hn rfl) rfl (by decide) rfl (Nat.le_of_ble_eq_true rfl)) rfl rfl rfl ?_
  refine me3 (pc' := 60) dm_X2_copyOf_59 (g_last (le_ (n := 2) (u := 100) (v := 25) (j := 3) hn rfl hv rfl) (se (n := 2) (u := 100) (v := 25) (j := 3) hn rfl hv _) rfl (by decide) (Nat.le_of_ble_eq_true rfl)) rfl rfl rfl ?_
  refine me1 (pc' := 61) dm_X2_copyOf_60 rfl rfl rfl rfl ?_
  refine me3 (pc' := 64) dm_X2_copyOf_61 (g_get (v := .ref 131) (le_ (n := 2) (u := 100) (v := 25) (j := 0) hn rfl hv rfl) rfl rfl (Nat.le_of_ble_eq_true rfl)) rfl rfl rfl ?_
  refine me1 (pc' := 65) dm_X2_copyOf_64 rfl rfl rfl rfl ?_
  refine me1 (pc' := 66) dm_X2_copyOf_65 rfl rfl rfl rfl ?_
  refine me3 (pc' := 69) dm_X2_copyOf_66 (g_get (v := .ref 8) (lu (n := 2) (j := 2) hn rfl) rfl rfl (Nat.le_of_ble_eq_true rfl)) rfl rfl rfl ?_
  refine me1 (pc' := 70) dm_X2_copyOf_69 rfl rfl rfl rfl ?_
  refine me3 (pc' := 71) dm_X2_copyOf_70 (g_aald (v := .null) (lu (n := 2) (j := 6) hn rfl) rfl (by decide) rfl (Nat.le_of_ble_eq_true rfl)) rfl rfl rfl ?_
  refine me3 (pc' := 72) dm_X2_copyOf_71 (g_aastn (le_ (n := 2) (u := 100) (v := 25) (j := 4) hn rfl hv rfl) (se (n := 2) (u := 100) (v := 25) (j := 4) hn rfl hv _) rfl (by decide) (Nat.le_of_ble_eq_true rfl)) rfl rfl rfl ?_
  refine me1 (pc' := 75) (L' := [(2, .int (29 : Int32)), (0, .ref 127), (1, .ref 4)]) dm_X2_copyOf_72 rfl rfl rfl rfl ?_
  refine me2 (pc' := 18) dm_X2_copyOf_75 rfl rfl rfl ?_
  refine me1 (pc' := 19) dm_X2_copyOf_18 rfl rfl rfl rfl ?_
  refine me0 (pc' := 21) (S' := .int (40 : Int32) :: _) dm_X2_copyOf_19 rfl rfl rfl rfl ?_
  refine me_2f (pc' := 24) dm_X2_copyOf_21 rfl (by decide) rfl ?_
  refine me1 (pc' := 25) dm_X2_copyOf_24 rfl rfl rfl rfl ?_
  refine me3 (pc' := 28) dm_X2_copyOf_25 (g_get (v := .ref 128) (le_ (n := 2) (u := 100) (v := 25) (j := 0) hn rfl hv rfl) rfl rfl (Nat.le_of_ble_eq_true rfl)) rfl rfl rfl ?_
  refine me1 (pc' := 29) dm_X2_copyOf_28 rfl rfl rfl rfl ?_
  refine me1 (pc' := 30) dm_X2_copyOf_29 rfl rfl rfl rfl ?_
  refine me3 (pc' := 33) dm_X2_copyOf_30 (g_get (v := .ref 5) (lu (n := 2) (j := 2) hn rfl) rfl rfl (Nat.le_of_ble_eq_true rfl)) rfl rfl rfl ?_
  refine me1 (pc' := 34) dm_X2_copyOf_33 rfl rfl rfl rfl ?_
  refine me3 (pc' := 35) dm_X2_copyOf_34 (g_lald (v := (0 : Int64)) (lu (n := 2) (j := 3) hn rfl) rfl (by decide) rfl (Nat.le_of_ble_eq_true rfl)) rfl rfl rfl ?_
  refine me3 (pc' := 36) dm_X2_copyOf_35 (g_last (le_ (n := 2) (u := 100) (v := 25) (j := 1) hn rfl hv rfl) (se (n := 2) (u := 100) (v := 25) (j := 1) hn rfl hv _) rfl (by decide) (Nat.le_of_ble_eq_true rfl)) rfl rfl rfl ?_
  refine me1 (pc' := 37) dm_X2_copyOf_36 rfl rfl rfl rfl ?_
  refine me3 (pc' := 40) dm_X2_copyOf_37 (g_get (v := .ref 129) (le_ (n := 2) (u := 100) (v := 25) (j := 0) hn rfl hv rfl) rfl rfl (Nat.le_of_ble_eq_true rfl)) rfl rfl rfl ?_
  refine me1 (pc' := 41) dm_X2_copyOf_40 rfl rfl rfl rfl ?_
  refine me1 (pc' := 42) dm_X2_copyOf_41 rfl rfl rfl rfl ?_
  refine me3 (pc' := 45) dm_X2_copyOf_42 (g_get (v := .ref 6) (lu (n := 2) (j := 2) hn rfl) rfl rfl (Nat.le_of_ble_eq_true rfl)) rfl rfl rfl ?_
  refine me1 (pc' := 46) dm_X2_copyOf_45 rfl rfl rfl rfl ?_
  refine me3 (pc' := 47) dm_X2_copyOf_46 (g_aald (v := .null) (lu (n := 2) (j := 4) hn rfl) rfl (by decide) rfl (Nat.le_of_ble_eq_true rfl)) rfl rfl rfl ?_
  refine me3 (pc' := 48) dm_X2_copyOf_47 (g_aastn (le_ (n := 2) (u := 100) (v := 25) (j := 2) hn rfl hv rfl) (se (n := 2) (u := 100) (v := 25) (j := 2) hn rfl hv _) rfl (by decide) (Nat.le_of_ble_eq_true rfl)) rfl rfl rfl ?_
  refine me1 (pc' := 49) dm_X2_copyOf_48 rfl rfl rfl rfl ?_
  refine me3 (pc' := 52) dm_X2_copyOf_49 (g_get (v := .ref 130) (le_ (n := 2) (u := 100) (v := 25) (j := 0) hn rfl hv rfl) rfl rfl (Nat.le_of_ble_eq_true rfl)) rfl rfl rfl ?_
  refine me1 (pc' := 53) dm_X2_copyOf_52 rfl rfl rfl rfl ?_
  refine me1 (pc' := 54) dm_X2_copyOf_53 rfl rfl rfl rfl ?_
  refine me3 (pc' := 57) dm_X2_copyOf_54 (g_get (v := .ref 7) (lu (n := 2) (j := 2) hn rfl) rfl rfl (Nat.le_of_ble_eq_true rfl)) rfl rfl rfl ?_
  refine me1 (pc' := 58) dm_X2_copyOf_57 rfl rfl rfl rfl ?_
  refine me3 (pc' := 59) dm_X2_copyOf_58 (g_lald (v := (0 : Int64)) (lu (n := 2) (j := 5) hn rfl) rfl (by decide) rfl (Nat.le_of_ble_eq_true rfl)) rfl rfl rfl ?_
  refine me3 (pc' := 60) dm_X2_copyOf_59 (g_last (le_ (n := 2) (u := 100) (v := 25) (j := 3) hn rfl hv rfl) (se (n := 2) (u := 100) (v := 25) (j := 3) hn rfl hv _) rfl (by decide) (Nat.le_of_ble_eq_true rfl)) rfl rfl rfl ?_
  refine me1 (pc' := 61) dm_X2_copyOf_60 rfl rfl rfl rfl ?_
  refine me3 (pc' := 64) dm_X2_copyOf_61 (g_get (v := .ref 131) (le_ (n := 2) (u := 100) (v := 25) (j := 0) hn rfl hv rfl) rfl rfl (Nat.le_of_ble_eq_true rfl)) rfl rfl rfl ?_
  refine me1 (pc' := 65) dm_X2_copyOf_64 rfl rfl rfl rfl ?_
  refine me1 (pc' := 66) dm_X2_copyOf_65 rfl rfl rfl rfl ?_
  refine me3 (pc' := 69) dm_X2_copyOf_66 (g_get (v := .ref 8) (lu (n := 2) (j := 2) hn rfl) rfl rfl (Nat.le_of_ble_eq_true rfl)) rfl rfl rfl ?_
  refine me1 (pc' := 70) dm_X2_copyOf_69 rfl rfl rfl rfl ?_
  refine me3 (pc' := 71) dm_X2_copyOf_70 (g_aald (v := .null) (lu (n := 2) (j := 6) hn rfl) rfl (by decide) rfl (Nat.le_of_ble_eq_true rfl)) rfl rfl rfl ?_
  refine me3 (pc' := 72) dm_X2_copyOf_71 (g_aastn (le_ (n := 2) (u := 100) (v := 25) (j := 4) hn rfl hv rfl) (se (n := 2) (u := 100) (v := 25) (j := 4) hn rfl hv _) rfl (by decide) (Nat.le_of_ble_eq_true rfl)) rfl rfl rfl ?_
  refine me1 (pc' := 75) (L' := [(2, .int (30 : Int32)), (0, .ref 127), (1, .ref 4)]) dm_X2_copyOf_72 rfl rfl rfl rfl ?_
  refine me2 (pc' := 18) dm_X2_copyOf_75 rfl rfl rfl ?_
  refine me1 (pc' := 19) dm_X2_copyOf_18 rfl rfl rfl rfl ?_
  refine me0 (pc' := 21) (S' := .int (40 : Int32) :: _) dm_X2_copyOf_19 rfl rfl rfl rfl ?_
  refine me_2f (pc' := 24) dm_X2_copyOf_21 rfl (by decide) rfl ?_
  refine me1 (pc' := 25) dm_X2_copyOf_24 rfl rfl rfl rfl ?_
  refine me3 (pc' := 28) dm_X2_copyOf_25 (g_get (v := .ref 128) (le_ (n := 2) (u := 100) (v := 25) (j := 0) hn rfl hv rfl) rfl rfl (Nat.le_of_ble_eq_true rfl)) rfl rfl rfl ?_
  refine me1 (pc' := 29) dm_X2_copyOf_28 rfl rfl rfl rfl ?_
  refine me1 (pc' := 30) dm_X2_copyOf_29 rfl rfl rfl rfl ?_
  refine me3 (pc' := 33) dm_X2_copyOf_30 (g_get (v := .ref 5) (lu (n := 2) (j := 2) hn rfl) rfl rfl (Nat.le_of_ble_eq_true rfl)) rfl rfl rfl ?_
  refine me1 (pc' := 34) dm_X2_copyOf_33 rfl rfl rfl rfl ?_
  refine me3 (pc' := 35) dm_X2_copyOf_34 (g_lald (v := (0 : Int64)) (lu (n := 2) (j := 3) hn rfl) rfl (by decide) rfl (Nat.le_of_ble_eq_true rfl)) rfl rfl rfl ?_
  refine me3 (pc' := 36) dm_X2_copyOf_35 (g_last (le_ (n := 2) (u := 100) (v := 25) (j := 1) hn rfl hv rfl) (se (n := 2) (u := 100) (v := 25) (j := 1) hn rfl hv _) rfl (by decide) (Nat.le_of_ble_eq_true rfl)) rfl rfl rfl ?_
  refine me1 (pc' := 37) dm_X2_copyOf_36 rfl rfl rfl rfl ?_
  refine me3 (pc' := 40) dm_X2_copyOf_37 (g_get (v := .ref 129) (le_ (n := 2) (u := 100) (v := 25) (j := 0) hn rfl hv rfl) rfl rfl (Nat.le_of_ble_eq_true rfl)) rfl rfl rfl ?_
  refine me1 (pc' := 41) dm_X2_copyOf_40 rfl rfl rfl rfl ?_
  refine me1 (pc' := 42) dm_X2_copyOf_41 rfl rfl rfl rfl ?_
  refine me3 (pc' := 45) dm_X2_copyOf_42 (g_get (v := .ref 6) (lu (n := 2) (j := 2) hn rfl) rfl rfl (Nat.le_of_ble_eq_true rfl)) rfl rfl rfl ?_
  refine me1 (pc' := 46) dm_X2_copyOf_45 rfl rfl rfl rfl ?_
  refine me3 (pc' := 47) dm_X2_copyOf_46 (g_aald (v := .null) (lu (n := 2) (j := 4) hn rfl) rfl (by decide) rfl (Nat.le_of_ble_eq_true rfl)) rfl rfl rfl ?_
  refine me3 (pc' := 48) dm_X2_copyOf_47 (g_aastn (le_ (n := 2) (u := 100) (v := 25) (j := 2) hn rfl hv rfl) (se (n := 2) (u := 100) (v := 25) (j := 2) hn rfl hv _) rfl (by decide) (Nat.le_of_ble_eq_true rfl)) rfl rfl rfl ?_
  refine me1 (pc' := 49) dm_X2_copyOf_48 rfl rfl rfl rfl ?_
  refine me3 (pc' := 52) dm_X2_copyOf_49 (g_get (v := .ref 130) (le_ (n := 2) (u := 100) (v := 25) (j := 0) hn rfl hv rfl) rfl rfl (Nat.le_of_ble_eq_true rfl)) rfl rfl rfl ?_
  refine me1 (pc' := 53) dm_X2_copyOf_52 rfl rfl rfl rfl ?_
  refine me1 (pc' := 54) dm_X2_copyOf_53 rfl rfl rfl rfl ?_
  refine me3 (pc' := 57) dm_X2_copyOf_54 (g_get (v := .ref 7) (lu (n := 2) (j := 2) hn rfl) rfl rfl (Nat.le_of_ble_eq_true rfl)) rfl rfl rfl ?_
  refine me1 (pc' := 58) dm_X2_copyOf_57 rfl rfl rfl rfl ?_
  refine me3 (pc' := 59) dm_X2_copyOf_58 (g_lald (v := (0 : Int64)) (lu (n := 2) (j := 5) hn rfl) rfl (by decide) rfl (Nat.le_of_ble_eq_true rfl)) rfl rfl rfl ?_
  refine me3 (pc' := 60) dm_X2_copyOf_59 (g_last (le_ (n := 2) (u := 100) (v := 25) (j := 3) hn rfl hv rfl) (se (n := 2) (u := 100) (v := 25) (j := 3) hn rfl hv _) rfl (by decide) (Nat.le_of_ble_eq_true rfl)) rfl rfl rfl ?_
  refine me1 (pc' := 61) dm_X2_copyOf_60 rfl rfl rfl rfl ?_
  refine me3 (pc' := 64) dm_X2_copyOf_61 (g_get (v := .ref 131) (le_ (n := 2) (u := 100) (v := 25) (j := 0) hn rfl hv rfl) rfl rfl (Nat.le_of_ble_eq_true rfl)) rfl rfl rfl ?_
  refine me1 (pc' := 65) dm_X2_copyOf_64 rfl rfl rfl rfl ?_
  refine me1 (pc' := 66) dm_X2_copyOf_65 rfl rfl rfl rfl ?_
  refine me3 (pc' := 69) dm_X2_copyOf_66 (g_get (v := .ref 8) (lu (n := 2) (j := 2) hn rfl) rfl rfl (Nat.le_of_ble_eq_true rfl)) rfl rfl rfl ?_
  refine me1 (pc' := 70) dm_X2_copyOf_69 rfl rfl rfl rfl ?_
  refine me3 (pc' := 71) dm_X2_copyOf_70 (g_aald (v := .null) (lu (n := 2) (j := 6) hn rfl) rfl (by decide) rfl (Nat.le_of_ble_eq_true rfl)) rfl rfl rfl ?_
  refine me3 (pc' := 72) dm_X2_copyOf_71 (g_aastn (le_ (n := 2) (u := 100) (v := 25) (j := 4) hn rfl hv rfl) (se (n := 2) (u := 100) (v := 25) (j := 4) hn rfl hv _) rfl (by decide) (Nat.le_of_ble_eq_true rfl)) rfl rfl rfl ?_
  refine me1 (pc' := 75) (L' := [(2, .int (31 : Int32)), (0, .ref 127), (1, .ref 4)]) dm_X2_copyOf_72 rfl rfl rfl rfl ?_
  refine me2 (pc' := 18) dm_X2_copyOf_75 rfl rfl rfl ?_
  refine me1 (pc' := 19) dm_X2_copyOf_18 rfl rfl rfl rfl ?_
  refine me0 (pc' := 21) (S' := .int (40 : Int32) :: _) dm_X2_copyOf_19 rfl rfl rfl rfl ?_
  refine me_2f (pc' := 24) dm_X2_copyOf_21 rfl (by decide) rfl ?_
  refine me1 (pc' := 25) dm_X2_copyOf_24 rfl rfl rfl rfl ?_
  refine me3 (pc' := 28) dm_X2_copyOf_25 (g_get (v := .ref 128) (le_ (n := 2) (u := 100) (v := 25) (j := 0) hn rfl hv rfl) rfl rfl (Nat.le_of_ble_eq_true rfl)) rfl rfl rfl ?_
  refine me1 (pc' := 29) dm_X2_copyOf_28 rfl rfl rfl rfl ?_
  refine me1 (pc' := 30) dm_X2_copyOf_29 rfl rfl rfl rfl ?_
  refine me3 (pc' := 33) dm_X2_copyOf_30 (g_get (v := .ref 5) (lu (n := 2) (j := 2) hn rfl) rfl rfl (Nat.le_of_ble_eq_true rfl)) rfl rfl rfl ?_
  refine me1 (pc' := 34) dm_X2_copyOf_33 rfl rfl rfl rfl ?_
  refine me3 (pc' := 35) dm_X2_copyOf_34 (g_lald (v := (0 : Int64)) (lu (n := 2) (j := 3) hn rfl) rfl (by decide) rfl (Nat.le_of_ble_eq_true rfl)) rfl rfl rfl ?_
  refine me3 (pc' := 36) dm_X2_copyOf_35 (g_last (le_ (n := 2) (u := 100) (v := 25) (j := 1) hn rfl hv rfl) (se (n := 2) (u := 100) (v := 25) (j := 1) hn rfl hv _) rfl (by decide) (Nat.le_of_ble_eq_true rfl)) rfl rfl rfl ?_
  refine me1 (pc' := 37) dm_X2_copyOf_36 rfl rfl rfl rfl ?_
  refine me3 (pc' := 40) dm_X2_copyOf_37 (g_get (v := .ref 129) (le_ (n := 2) (u := 100) (v := 25) (j := 0) hn rfl hv rfl) rfl rfl (Nat.le_of_ble_eq_true rfl)) rfl rfl rfl ?_
  refine me1 (pc' := 41) dm_X2_copyOf_40 rfl rfl rfl rfl ?_
  refine me1 (pc' := 42) dm_X2_copyOf_41 rfl rfl rfl rfl ?_
  refine me3 (pc' := 45) dm_X2_copyOf_42 (g_get (v := .ref 6) (lu (n := 2) (j := 2) hn rfl) rfl rfl (Nat.le_of_ble_eq_true rfl)) rfl rfl rfl ?_
  refine me1 (pc' := 46) dm_X2_copyOf_45 rfl rfl rfl rfl ?_
  refine me3 (pc' := 47) dm_X2_copyOf_46 (g_aald (v := .null) (lu (n := 2) (j := 4) hn rfl) rfl (by decide) rfl (Nat.le_of_ble_eq_true rfl)) rfl rfl rfl ?_
  refine me3 (pc' := 48) dm_X2_copyOf_47 (g_aastn (le_ (n := 2) (u := 100) (v := 25) (j := 2) hn rfl hv rfl) (se (n := 2) (u := 100) (v := 25) (j := 2) hn rfl hv _) rfl (by decide) (Nat.le_of_ble_eq_true rfl)) rfl rfl rfl ?_
  refine me1 (pc' := 49) dm_X2_copyOf_48 rfl rfl rfl rfl ?_
  refine me3 (pc' := 52) dm_X2_copyOf_49 (g_get (v := .ref 130) (le_ (n := 2) (u := 100) (v := 25) (j := 0) hn rfl hv rfl) rfl rfl (Nat.le_of_ble_eq_true rfl)) rfl rfl rfl ?_
  refine me1 (pc' := 53) dm_X2_copyOf_52 rfl rfl rfl rfl ?_
  refine me1 (pc' := 54) dm_X2_copyOf_53 rfl rfl rfl rfl ?_
  refine me3 (pc' := 57) dm_X2_copyOf_54 (g_get (v := .ref 7) (lu (n := 2) (j := 2) hn rfl) rfl rfl (Nat.le_of_ble_eq_true rfl)) rfl rfl rfl ?_
  refine me1 (pc' := 58) dm_X2_copyOf_57 rfl rfl rfl rfl ?_
  refine me3 (pc' := 59) dm_X2_copyOf_58 (g_lald (v := (0 : Int64)) (lu (n := 2) (j := 5) hn rfl) rfl (by decide) rfl (Nat.le_of_ble_eq_true rfl)) rfl rfl rfl ?_
  refine me3 (pc' := 60) dm_X2_copyOf_59 (g_last (le_ (n := 2) (u := 100) (v := 25) (j := 3) hn rfl hv rfl) (se (n := 2) (u := 100) (v := 25) (j := 3) hn rfl hv _) rfl (by decide) (Nat.le_of_ble_eq_true rfl)) rfl rfl rfl ?_
  refine me1 (pc' := 61) dm_X2_copyOf_60 rfl rfl rfl rfl ?_
  refine me3 (pc' := 64) dm_X2_copyOf_61 (g_get (v := .ref 131) (le_ (n := 2) (u := 100) (v := 25) (j := 0) hn rfl hv rfl) rfl rfl (Nat.le_of_ble_eq_true rfl)) rfl rfl rfl ?_
  refine me1 (pc' := 65) dm_X2_copyOf_64 rfl rfl rfl rfl ?_
  refine me1 (pc' := 66) dm_X2_copyOf_65 rfl rfl rfl rfl ?_
  refine me3 (pc' := 69) dm_X2_copyOf_66 (g_get (v := .ref 8) (lu (n := 2) (j := 2) hn rfl) rfl rfl (Nat.le_of_ble_eq_true rfl)) rfl rfl rfl ?_
  refine me1 (pc' := 70) dm_X2_copyOf_69 rfl rfl rfl rfl ?_
  refine me3 (pc' := 71) dm_X2_copyOf_70 (g_aald (v := .null) (lu (n := 2) (j := 6) hn rfl) rfl (by decide) rfl (Nat.le_of_ble_eq_true rfl)) rfl rfl rfl ?_
  refine me3 (pc' := 72) dm_X2_copyOf_71 (g_aastn (le_ (n := 2) (u := 100) (v := 25) (j := 4) hn rfl hv rfl) (se (n := 2) (u := 100) (v := 25) (j := 4) hn rfl hv _) rfl (by decide) (Nat.le_of_ble_eq_true rfl)) rfl rfl rfl ?_
  refine me1 (pc' := 75) (L' := [(2, .int (32 : Int32)), (0, .ref 127), (1, .ref 4)]) dm_X2_copyOf_72 rfl rfl rfl rfl ?_
  refine me2 (pc' := 18) dm_X2_copyOf_75 rfl rfl rfl ?_
  refine me1 (pc' := 19) dm_X2_copyOf_18 rfl rfl rfl rfl ?_
  refine me0 (pc' := 21) (S' := .int (40 : Int32) :: _) dm_X2_copyOf_19 rfl rfl rfl rfl ?_
  refine me_2f (pc' := 24) dm_X2_copyOf_21 rfl (by decide) rfl ?_
  refine me1 (pc' := 25) dm_X2_copyOf_24 rfl rfl rfl rfl ?_
  refine me3 (pc' := 28) dm_X2_copyOf_25 (g_get (v := .ref 128) (le_ (n := 2) (u := 100) (v := 25) (j := 0) hn rfl hv rfl) rfl rfl (Nat.le_of_ble_eq_true rfl)) rfl rfl rfl ?_
  refine me1 (pc' := 29) dm_X2_copyOf_28 rfl rfl rfl rfl ?_
  refine me1 (pc' := 30) dm_X2_copyOf_29 rfl rfl rfl rfl ?_
  refine me3 (pc' := 33) dm_X2_copyOf_30 (g_get (v := .ref 5) (lu (n := 2) (j := 2) hn rfl) rfl rfl (Nat.le_of_ble_eq_true rfl)) rfl rfl rfl ?_
  refine me1 (pc' := 34) dm_X2_copyOf_33 rfl rfl rfl rfl ?_
  refine me3 (pc' := 35) dm_X2_copyOf_34 (g_lald (v := (0 : Int64)) (lu (n := 2) (j := 3) hn rfl) rfl (by decide) rfl (Nat.le_of_ble_eq_true rfl)) rfl rfl rfl ?_
  refine me3 (pc' := 36) dm_X2_copyOf_35 (g_last (le_ (n := 2) (u := 100) (v := 25) (j := 1) hn rfl hv rfl) (se (n := 2) (u := 100) (v := 25) (j := 1) hn rfl hv _) rfl (by decide) (Nat.le_of_ble_eq_true rfl)) rfl rfl rfl ?_
  refine me1 (pc' := 37) dm_X2_copyOf_36 rfl rfl rfl rfl ?_
  refine me3 (pc' := 40) dm_X2_copyOf_37 (g_get (v := .ref 129) (le_ (n := 2) (u := 100) (v := 25) (j := 0) hn rfl hv rfl) rfl rfl (Nat.le_of_ble_eq_true rfl)) rfl rfl rfl ?_
  refine me1 (pc' := 41) dm_X2_copyOf_40 rfl rfl rfl rfl ?_
  refine me1 (pc' := 42) dm_X2_copyOf_41 rfl rfl rfl rfl ?_
  refine me3 (pc' := 45) dm_X2_copyOf_42 (g_get (v := .ref 6) (lu (n := 2) (j := 2) hn rfl) rfl rfl (Nat.le_of_ble_eq_true rfl)) rfl rfl rfl ?_
  refine me1 (pc' := 46) dm_X2_copyOf_45 rfl rfl rfl rfl ?_
  refine me3 (pc' := 47) dm_X2_copyOf_46 (g_aald (v := .null) (lu (n := 2) (j := 4) hn rfl) rfl (by decide) rfl (Nat.le_of_ble_eq_true rfl)) rfl rfl rfl ?_
  refine me3 (pc' := 48) dm_X2_copyOf_47 (g_aastn (le_ (n := 2) (u := 100) (v := 25) (j := 2) hn rfl hv rfl) (se (n := 2) (u := 100) (v := 25) (j := 2) hn rfl hv _) rfl (by decide) (Nat.le_of_ble_eq_true rfl)) rfl rfl rfl ?_
  refine me1 (pc' := 49) dm_X2_copyOf_48 rfl rfl rfl rfl ?_
  refine me3 (pc' := 52) dm_X2_copyOf_49 (g_get (v := .ref 130) (le_ (n := 2) (u := 100) (v := 25) (j := 0) hn rfl hv rfl) rfl rfl (Nat.le_of_ble_eq_true rfl)) rfl rfl rfl ?_
  refine me1 (pc' := 53) dm_X2_copyOf_52 rfl rfl rfl rfl ?_
  refine me1 (pc' := 54) dm_X2_copyOf_53 rfl rfl rfl rfl ?_
  refine me3 (pc' := 57) dm_X2_copyOf_54 (g_get (v := .ref 7) (lu (n := 2) (j := 2) hn rfl) rfl rfl (Nat.le_of_ble_eq_true rfl)) rfl rfl rfl ?_
  refine me1 (pc' := 58) dm_X2_copyOf_57 rfl rfl rfl rfl ?_
  refine me3 (pc' := 59) dm_X2_copyOf_58 (g_lald (v := (0 : Int64)) (lu (n := 2) (j := 5) hn rfl) rfl (by decide) rfl (Nat.le_of_ble_eq_true rfl)) rfl rfl rfl ?_
  refine me3 (pc' := 60) dm_X2_copyOf_59 (g_last (le_ (n := 2) (u := 100) (v := 25) (j := 3) hn rfl hv rfl) (se (n := 2) (u := 100) (v := 25) (j := 3) hn rfl hv _) rfl (by decide) (Nat.le_of_ble_eq_true rfl)) rfl rfl rfl ?_
  refine me1 (pc' := 61) dm_X2_copyOf_60 rfl rfl rfl rfl ?_
  refine me3 (pc' := 64) dm_X2_copyOf_61 (g_get (v := .ref 131) (le_ (n := 2) (u := 100) (v := 25) (j := 0) hn rfl hv rfl) rfl rfl (Nat.le_of_ble_eq_true rfl)) rfl rfl rfl ?_
  refine me1 (pc' := 65) dm_X2_copyOf_64 rfl rfl rfl rfl ?_
  refine me1 (pc' := 66) dm_X2_copyOf_65 rfl rfl rfl rfl ?_
  refine me3 (pc' := 69) dm_X2_copyOf_66 (g_get (v := .ref 8) (lu (n := 2) (j := 2) hn rfl) rfl rfl (Nat.le_of_ble_eq_true rfl)) rfl rfl rfl ?_
  refine me1 (pc' := 70) dm_X2_copyOf_69 rfl rfl rfl rfl ?_
  refine me3 (pc' := 71) dm_X2_copyOf_70 (g_aald (v := .null) (lu (n := 2) (j := 6) hn rfl) rfl (by decide) rfl (Nat.le_of_ble_eq_true rfl)) rfl rfl rfl ?_
  refine me3 (pc' := 72) dm_X2_copyOf_71 (g_aastn (le_ (n := 2) (u := 100) (v := 25) (j := 4) hn rfl hv rfl) (se (n := 2) (u := 100) (v := 25) (j := 4) hn rfl hv _) rfl (by decide) (Nat.le_of_ble_eq_true rfl)) rfl rfl rfl ?_
  refine me1 (pc' := 75) (L' := [(2, .int (33 : Int32)), (0, .ref 127), (1, .ref 4)]) dm_X2_copyOf_72 rfl rfl rfl rfl ?_
  refine me2 (pc' := 18) dm_X2_copyOf_75 rfl rfl rfl ?_
  refine me1 (pc' := 19) dm_X2_copyOf_18 rfl rfl rfl rfl ?_
  refine me0 (pc' := 21) (S' := .int (40 : Int32) :: _) dm_X2_copyOf_19 rfl rfl rfl rfl ?_
  refine me_2f (pc' := 24) dm_X2_copyOf_21 rfl (by decide) rfl ?_
  refine me1 (pc' := 25) dm_X2_copyOf_24 rfl rfl rfl rfl ?_
  refine me3 (pc' := 28) dm_X2_copyOf_25 (g_get (v := .ref 128) (le_ (n := 2) (u := 100) (v := 25) (j := 0) hn rfl hv rfl) rfl rfl (Nat.le_of_ble_eq_true rfl)) rfl rfl rfl ?_
  refine me1 (pc' := 29) dm_X2_copyOf_28 rfl rfl rfl rfl ?_
  refine me1 (pc' := 30) dm_X2_copyOf_29 rfl rfl rfl rfl ?_
  refine me3 (pc' := 33) dm_X2_copyOf_30 (g_get (v := .ref 5) (lu (n := 2) (j := 2) hn rfl) rfl rfl (Nat.le_of_ble_eq_true rfl)) rfl rfl rfl ?_
  refine me1 (pc' := 34) dm_X2_copyOf_33 rfl rfl rfl rfl ?_
  refine me3 (pc' := 35) dm_X2_copyOf_34 (g_lald (v := (0 : Int64)) (lu (n := 2) (j := 3) hn rfl) rfl (by decide) rfl (Nat.le_of_ble_eq_true rfl)) rfl rfl rfl ?_
  refine me3 (pc' := 36) dm_X2_copyOf_35 (g_last (le_ (n := 2) (u := 100) (v := 25) (j := 1) hn rfl hv rfl) (se (n := 2) (u := 100) (v := 25) (j := 1) hn rfl hv _) rfl (by decide) (Nat.le_of_ble_eq_true rfl)) rfl rfl rfl ?_
  refine me1 (pc' := 37) dm_X2_copyOf_36 rfl rfl rfl rfl ?_
  refine me3 (pc' := 40) dm_X2_copyOf_37 (g_get (v := .ref 129) (le_ (n := 2) (u := 100) (v := 25) (j := 0) hn rfl hv rfl) rfl rfl (Nat.le_of_ble_eq_true rfl)) rfl rfl rfl ?_
  refine me1 (pc' := 41) dm_X2_copyOf_40 rfl rfl rfl rfl ?_
  refine me1 (pc' := 42) dm_X2_copyOf_41 rfl rfl rfl rfl ?_
  refine me3 (pc' := 45) dm_X2_copyOf_42 (g_get (v := .ref 6) (lu (n := 2) (j := 2) hn rfl) rfl rfl (Nat.le_of_ble_eq_true rfl)) rfl rfl rfl ?_
  refine me1 (pc' := 46) dm_X2_copyOf_45 rfl rfl rfl rfl ?_
  refine me3 (pc' := 47) dm_X2_copyOf_46 (g_aald (v := .null) (lu (n := 2) (j := 4) hn rfl) rfl (by decide) rfl (Nat.le_of_ble_eq_true rfl)) rfl rfl rfl ?_
  refine me3 (pc' := 48) dm_X2_copyOf_47 (g_aastn (le_ (n := 2) (u := 100) (v := 25) (j := 2) hn rfl hv rfl) (se (n := 2) (u := 100) (v := 25) (j := 2) hn rfl hv _) rfl (by decide) (Nat.le_of_ble_eq_true rfl)) rfl rfl rfl ?_
  refine me1 (pc' := 49) dm_X2_copyOf_48 rfl rfl rfl rfl ?_
  refine me3 (pc' := 52) dm_X2_copyOf_49 (g_get (v := .ref 130) (le_ (n := 2) (u := 100) (v := 25) (j := 0) hn rfl hv rfl) rfl rfl (Nat.le_of_ble_eq_true rfl)) rfl rfl rfl ?_
  refine me1 (pc' := 53) dm_X2_copyOf_52 rfl rfl rfl rfl ?_
  refine me1 (pc' := 54) dm_X2_copyOf_53 rfl rfl rfl rfl ?_
  refine me3 (pc' := 57) dm_X2_copyOf_54 (g_get (v := .ref 7) (lu (n := 2) (j := 2) hn rfl) rfl rfl (Nat.le_of_ble_eq_true rfl)) rfl rfl rfl ?_
  refine me1 (pc' := 58) dm_X2_copyOf_57 rfl rfl rfl rfl ?_
  refine me3 (pc' := 59) dm_X2_copyOf_58 (g_lald (v := (0 : Int64)) (lu (n := 2) (j := 5) hn rfl) rfl (by decide) rfl (Nat.le_of_ble_eq_true rfl)) rfl rfl rfl ?_
  refine me3 (pc' := 60) dm_X2_copyOf_59 (g_last (le_ (n := 2) (u := 100) (v := 25) (j := 3) hn rfl hv rfl) (se (n := 2) (u := 100) (v := 25) (j := 3) hn rfl hv _) rfl (by decide) (Nat.le_of_ble_eq_true rfl)) rfl rfl rfl ?_
  refine me1 (pc' := 61) dm_X2_copyOf_60 rfl rfl rfl rfl ?_
  refine me3 (pc' := 64) dm_X2_copyOf_61 (g_get (v := .ref 131) (le_ (n := 2) (u := 100) (v := 25) (j := 0) hn rfl hv rfl) rfl rfl (Nat.le_of_ble_eq_true rfl)) rfl rfl rfl ?_
  refine me1 (pc' := 65) dm_X2_copyOf_64 rfl rfl rfl rfl ?_
  refine me1 (pc' := 66) dm_X2_copyOf_65 rfl rfl rfl rfl ?_
  refine me3 (pc' := 69) dm_X2_copyOf_66 (g_get (v := .ref 8) (lu (n := 2) (j := 2) hn rfl) rfl rfl (Nat.le_of_ble_eq_true rfl)) rfl rfl rfl ?_
  refine me1 (pc' := 70) dm_X2_copyOf_69 rfl rfl rfl rfl ?_
  refine me3 (pc' := 71) dm_X2_copyOf_70 (g_aald (v := .null) (lu (n := 2) (j := 6) hn rfl) rfl (by decide) rfl (Nat.le_of_ble_eq_true rfl)) rfl rfl rfl ?_
  refine me3 (pc' := 72) dm_X2_copyOf_71 (g_aastn (le_ (n := 2) (u := 100) (v := 25) (j := 4) hn rfl hv rfl) (se (n := 2) (u := 100) (v := 25) (j := 4) hn rfl hv _) rfl (by decide) (Nat.le_of_ble_eq_true rfl)) rfl rfl rfl ?_
  refine me1 (pc' := 75) (L' := [(2, .int (34 : Int32)), (0, .ref 127), (1, .ref 4)]) dm_X2_copyOf_72 rfl rfl rfl rfl ?_
  refine me2 (pc' := 18) dm_X2_copyOf_75 rfl rfl rfl ?_
  refine me1 (pc' := 19) dm_X2_copyOf_18 rfl rfl rfl rfl ?_
  refine me0 (pc' := 21) (S' := .int (40 : Int32) :: _) dm_X2_copyOf_19 rfl rfl rfl rfl ?_
  refine me_2f (pc' := 24) dm_X2_copyOf_21 rfl (by decide) rfl ?_
  refine me1 (pc' := 25) dm_X2_copyOf_24 rfl rfl rfl rfl ?_
  refine me3 (pc' := 28) dm_X2_copyOf_25 (g_get (v := .ref 128) (le_ (n := 2) (u := 100) (v := 25) (j := 0) hn rfl hv rfl) rfl rfl (Nat.le_of_ble_eq_true rfl)) rfl rfl rfl ?_
  refine me1 (pc' := 29) dm_X2_copyOf_28 rfl rfl rfl rfl ?_
  refine me1 (pc' := 30) dm_X2_copyOf_29 rfl rfl rfl rfl ?_
  refine me3 (pc' := 33) dm_X2_copyOf_30 (g_get (v := .ref 5) (lu (n := 2) (j := 2) hn rfl) rfl rfl (Nat.le_of_ble_eq_true rfl)) rfl rfl rfl ?_
  refine me1 (pc' := 34) dm_X2_copyOf_33 rfl rfl rfl rfl ?_
  refine me3 (pc' := 35) dm_X2_copyOf_34 (g_lald (v := (0 : Int64)) (lu (n := 2) (j := 3) hn rfl) rfl (by decide) rfl (Nat.le_of_ble_eq_true rfl)) rfl rfl rfl ?_
  refine me3 (pc' := 36) dm_X2_copyOf_35 (g_last (le_ (n := 2) (u := 100) (v := 25) (j := 1) hn rfl hv rfl) (se (n := 2) (u := 100) (v := 25) (j := 1) hn rfl hv _) rfl (by decide) (Nat.le_of_ble_eq_true rfl)) rfl rfl rfl ?_
  refine me1 (pc' := 37) dm_X2_copyOf_36 rfl rfl rfl rfl ?_
  refine me3 (pc' := 40) dm_X2_copyOf_37 (g_get (v := .ref 129) (le_ (n := 2) (u := 100) (v := 25) (j := 0) hn rfl hv rfl) rfl rfl (Nat.le_of_ble_eq_true rfl)) rfl rfl rfl ?_
  refine me1 (pc' := 41) dm_X2_copyOf_40 rfl rfl rfl rfl ?_
  refine me1 (pc' := 42) dm_X2_copyOf_41 rfl rfl rfl rfl ?_
  refine me3 (pc' := 45) dm_X2_copyOf_42 (g_get (v := .ref 6) (lu (n := 2) (j := 2) hn rfl) rfl rfl (Nat.le_of_ble_eq_true rfl)) rfl rfl rfl ?_
  refine me1 (pc' := 46) dm_X2_copyOf_45 rfl rfl rfl rfl ?_
  refine me3 (pc' := 47) dm_X2_copyOf_46 (g_aald (v := .null) (lu (n := 2) (j := 4) hn rfl) rfl (by decide) rfl (Nat.le_of_ble_eq_true rfl)) rfl rfl rfl ?_
  refine me3 (pc' := 48) dm_X2_copyOf_47 (g_aastn (le_ (n := 2) (u := 100) (v := 25) (j := 2) hn rfl hv rfl) (se (n := 2) (u := 100) (v := 25) (j := 2) hn rfl hv _) rfl (by decide) (Nat.le_of_ble_eq_true rfl)) rfl rfl rfl ?_
  refine me1 (pc' := 49) dm_X2_copyOf_48 rfl rfl rfl rfl ?_
  refine me3 (pc' := 52) dm_X2_copyOf_49 (g_get (v := .ref 130) (le_ (n := 2) (u := 100) (v := 25) (j := 0) hn rfl hv rfl) rfl rfl (Nat.le_of_ble_eq_true rfl)) rfl rfl rfl ?_
  refine me1 (pc' := 53) dm_X2_copyOf_52 rfl rfl rfl rfl ?_
  refine me1 (pc' := 54) dm_X2_copyOf_53 rfl rfl rfl rfl ?_
  refine me3 (pc' := 57) dm_X2_copyOf_54 (g_get (v := .ref 7) (lu (n := 2) (j := 2) hn rfl) rfl rfl (Nat.le_of_ble_eq_true rfl)) rfl rfl rfl ?_
  refine me1 (pc' := 58) dm_X2_copyOf_57 rfl rfl rfl rfl ?_
  refine me3 (pc' := 59) dm_X2_copyOf_58 (g_lald (v := (0 : Int64)) (lu (n := 2) (j := 5) hn rfl) rfl (by decide) rfl (Nat.le_of_ble_eq_true rfl)) rfl rfl rfl ?_
  refine me3 (pc' := 60) dm_X2_copyOf_59 (g_last (le_ (n := 2) (u := 100) (v := 25) (j := 3) hn rfl hv rfl) (se (n := 2) (u := 100) (v := 25) (j := 3) hn rfl hv _) rfl (by decide) (Nat.le_of_ble_eq_true rfl)) rfl rfl rfl ?_
  refine me1 (pc' := 61) dm_X2_copyOf_60 rfl rfl rfl rfl ?_
  refine me3 (pc' := 64) dm_X2_copyOf_61 (g_get (v := .ref 131) (le_ (n := 2) (u := 100) (v := 25) (j := 0) hn rfl hv rfl) rfl rfl (Nat.le_of_ble_eq_true rfl)) rfl rfl rfl ?_
  refine me1 (pc' := 65) dm_X2_copyOf_64 rfl rfl rfl rfl ?_
  refine me1 (pc' := 66) dm_X2_copyOf_65 rfl rfl rfl rfl ?_
  refine me3 (pc' := 69) dm_X2_copyOf_66 (g_get (v := .ref 8) (lu (n := 2) (j := 2) hn rfl) rfl rfl (Nat.le_of_ble_eq_true rfl)) rfl rfl rfl ?_
  refine me1 (pc' := 70) dm_X2_copyOf_69 rfl rfl rfl rfl ?_
  refine me3 (pc' := 71) dm_X2_copyOf_70 (g_aald (v := .null) (lu (n := 2) (j := 6) hn rfl) rfl (by decide) rfl (Nat.le_of_ble_eq_true rfl)) rfl rfl rfl ?_
  refine me3 (pc' := 72) dm_X2_copyOf_71 (g_aastn (le_ (n := 2) (u := 100) (v := 25) (j := 4) hn rfl hv rfl) (se (n := 2) (u := 100) (v := 25) (j := 4) hn rfl hv _) rfl (by decide) (Nat.le_of_ble_eq_true rfl)) rfl rfl rfl ?_
  refine me1 (pc' := 75) (L' := [(2, .int (35 : Int32)), (0, .ref 127), (1, .ref 4)]) dm_X2_copyOf_72 rfl rfl rfl rfl ?_
  refine me2 (pc' := 18) dm_X2_copyOf_75 rfl rfl rfl ?_
  refine me1 (pc' := 19) dm_X2_copyOf_18 rfl rfl rfl rfl ?_
  refine me0 (pc' := 21) (S' := .int (40 : Int32) :: _) dm_X2_copyOf_19 rfl rfl rfl rfl ?_
  refine me_2f (pc' := 24) dm_X2_copyOf_21 rfl (by decide) rfl ?_
  refine me1 (pc' := 25) dm_X2_copyOf_24 rfl rfl rfl rfl ?_
  refine me3 (pc' := 28) dm_X2_copyOf_25 (g_get (v := .ref 128) (le_ (n := 2) (u := 100) (v := 25) (j := 0) hn rfl hv rfl) rfl rfl (Nat.le_of_ble_eq_true rfl)) rfl rfl rfl ?_
  refine me1 (pc' := 29) dm_X2_copyOf_28 rfl rfl rfl rfl ?_
  refine me1 (pc' := 30) dm_X2_copyOf_29 rfl rfl rfl rfl ?_
  refine me3 (pc' := 33) dm_X2_copyOf_30 (g_get (v := .ref 5) (lu (n := 2) (j := 2) hn rfl) rfl rfl (Nat.le_of_ble_eq_true rfl)) rfl rfl rfl ?_
  refine me1 (pc' := 34) dm_X2_copyOf_33 rfl rfl rfl rfl ?_
  refine me3 (pc' := 35) dm_X2_copyOf_34 (g_lald (v := (0 : Int64)) (lu (n := 2) (j := 3) hn rfl) rfl (by decide) rfl (Nat.le_of_ble_eq_true rfl)) rfl rfl rfl ?_
  refine me3 (pc' := 36) dm_X2_copyOf_35 (g_last (le_ (n := 2) (u := 100) (v := 25) (j := 1) hn rfl hv rfl) (se (n := 2) (u := 100) (v := 25) (j := 1) hn rfl hv _) rfl (by decide) (Nat.le_of_ble_eq_true rfl)) rfl rfl rfl ?_
  refine me1 (pc' := 37) dm_X2_copyOf_36 rfl rfl rfl rfl ?_
  refine me3 (pc' := 40) dm_X2_copyOf_37 (g_get (v := .ref 129) (le_ (n := 2) (u := 100) (v := 25) (j := 0) hn rfl hv rfl) rfl rfl (Nat.le_of_ble_eq_true rfl)) rfl rfl rfl ?_
  refine me1 (pc' := 41) dm_X2_copyOf_40 rfl rfl rfl rfl ?_
  refine me1 (pc' := 42) dm_X2_copyOf_41 rfl rfl rfl rfl ?_
  refine me3 (pc' := 45) dm_X2_copyOf_42 (g_get (v := .ref 6) (lu (n := 2) (j := 2) hn rfl) rfl rfl (Nat.le_of_ble_eq_true rfl)) rfl rfl rfl ?_
  refine me1 (pc' := 46) dm_X2_copyOf_45 rfl rfl rfl rfl ?_
  refine me3 (pc' := 47) dm_X2_copyOf_46 (g_aald (v := .null) (lu (n := 2) (j := 4) hn rfl) rfl (by decide) rfl (Nat.le_of_ble_eq_true rfl)) rfl rfl rfl ?_
  refine me3 (pc' := 48) dm_X2_copyOf_47 (g_aastn (le_ (n := 2) (u := 100) (v := 25) (j := 2) hn rfl hv rfl) (se (n := 2) (u := 100) (v := 25) (j := 2) hn rfl hv _) rfl (by decide) (Nat.le_of_ble_eq_true rfl)) rfl rfl rfl ?_
  refine me1 (pc' := 49) dm_X2_copyOf_48 rfl rfl rfl rfl ?_
  refine me3 (pc' := 52) dm_X2_copyOf_49 (g_get (v := .ref 130) (le_ (n := 2) (u := 100) (v := 25) (j := 0) hn rfl hv rfl) rfl rfl (Nat.le_of_ble_eq_true rfl)) rfl rfl rfl ?_
  refine me1 (pc' := 53) dm_X2_copyOf_52 rfl rfl rfl rfl ?_
  refine me1 (pc' := 54) dm_X2_copyOf_53 rfl rfl rfl rfl ?_
  refine me3 (pc' := 57) dm_X2_copyOf_54 (g_get (v := .ref 7) (lu (n := 2) (j := 2) hn rfl) rfl rfl (Nat.le_of_ble_eq_true rfl)) rfl rfl rfl ?_
  refine me1 (pc' := 58) dm_X2_copyOf_57 rfl rfl rfl rfl ?_
  refine me3 (pc' := 59) dm_X2_copyOf_58 (g_lald (v := (0 : Int64)) (lu (n := 2) (j := 5) hn rfl) rfl (by decide) rfl (Nat.le_of_ble_eq_true rfl)) rfl rfl rfl ?_
  refine me3 (pc' := 60) dm_X2_copyOf_59 (g_last (le_ (n := 2) (u := 100) (v := 25) (j := 3) hn rfl hv rfl) (se (n := 2) (u := 100) (v := 25) (j := 3) hn rfl hv _) rfl (by decide) (Nat.le_of_ble_eq_true rfl)) rfl rfl rfl ?_
  refine me1 (pc' := 61) dm_X2_copyOf_60 rfl rfl rfl rfl ?_
  refine me3 (pc' := 64) dm_X2_copyOf_61 (g_get (v := .ref 131) (le_ (n := 2) (u := 100) (v := 25) (j := 0) hn rfl hv rfl) rfl rfl (Nat.le_of_ble_eq_true rfl)) rfl rfl rfl ?_
  refine me1 (pc' := 65) dm_X2_copyOf_64 rfl rfl rfl rfl ?_
  refine me1 (pc' := 66) dm_X2_copyOf_65 rfl rfl rfl rfl ?_
  refine me3 (pc' := 69) dm_X2_copyOf_66 (g_get (v := .ref 8) (lu (n := 2) (j := 2) hn rfl) rfl rfl (Nat.le_of_ble_eq_true rfl)) rfl rfl rfl ?_
  refine me1 (pc' := 70) dm_X2_copyOf_69 rfl rfl rfl rfl ?_
  refine me3 (pc' := 71) dm_X2_copyOf_70 (g_aald (v := .null) (lu (n := 2) (j := 6) hn rfl) rfl (by decide) rfl (Nat.le_of_ble_eq_true rfl)) rfl rfl rfl ?_
  refine me3 (pc' := 72) dm_X2_copyOf_71 (g_aastn (le_ (n := 2) (u := 100) (v := 25) (j := 4) hn rfl hv rfl) (se (n := 2) (u := 100) (v := 25) (j := 4) hn rfl hv _) rfl (by decide) (Nat.le_of_ble_eq_true rfl)) rfl rfl rfl ?_
  refine me1 (pc' := 75) (L' := [(2, .int (36 : Int32)), (0, .ref 127), (1, .ref 4)]) dm_X2_copyOf_72 rfl rfl rfl rfl ?_
  refine me2 (pc' := 18) dm_X2_copyOf_75 rfl rfl rfl ?_
  refine me1 (pc' := 19) dm_X2_copyOf_18 rfl rfl rfl rfl ?_
  refine me0 (pc' := 21) (S' := .int (40 : Int32) :: _) dm_X2_copyOf_19 rfl rfl rfl rfl ?_
  refine me_2f (pc' := 24) dm_X2_copyOf_21 rfl (by decide) rfl ?_
  refine me1 (pc' := 25) dm_X2_copyOf_24 rfl rfl rfl rfl ?_
  refine me3 (pc' := 28) dm_X2_copyOf_25 (g_get (v := .ref 128) (le_ (n := 2) (u := 100) (v := 25) (j := 0) hn rfl hv rfl) rfl rfl (Nat.le_of_ble_eq_true rfl)) rfl rfl rfl ?_
  refine me1 (pc' := 29) dm_X2_copyOf_28 rfl rfl rfl rfl ?_
  refine me1 (pc' := 30) dm_X2_copyOf_29 rfl rfl rfl rfl ?_
  refine me3 (pc' := 33) dm_X2_copyOf_30 (g_get (v := .ref 5) (lu (n := 2) (j := 2) hn rfl) rfl rfl (Nat.le_of_ble_eq_true rfl)) rfl rfl rfl ?_
  refine me1 (pc' := 34) dm_X2_copyOf_33 rfl rfl rfl rfl ?_
  refine me3 (pc' := 35) dm_X2_copyOf_34 (g_lald (v := (0 : Int64)) (lu (n := 2) (j := 3) hn rfl) rfl (by decide) rfl (Nat.le_of_ble_eq_true rfl)) rfl rfl rfl ?_
  refine me3 (pc' := 36) dm_X2_copyOf_35 (g_last (le_ (n := 2) (u := 100) (v := 25) (j := 1) hn rfl hv rfl) (se (n := 2) (u := 100) (v := 25) (j := 1) hn rfl hv _) rfl (by decide) (Nat.le_of_ble_eq_true rfl)) rfl rfl rfl ?_
  refine me1 (pc' := 37) dm_X2_copyOf_36 rfl rfl rfl rfl ?_
  refine me3 (pc' := 40) dm_X2_copyOf_37 (g_get (v := .ref 129) (le_ (n := 2) (u := 100) (v := 25) (j := 0) hn rfl hv rfl) rfl rfl (Nat.le_of_ble_eq_true rfl)) rfl rfl rfl ?_
  refine me1 (pc' := 41) dm_X2_copyOf_40 rfl rfl rfl rfl ?_
  refine me1 (pc' := 42) dm_X2_copyOf_41 rfl rfl rfl rfl ?_
  refine me3 (pc' := 45) dm_X2_copyOf_42 (g_get (v := .ref 6) (lu (n := 2) (j := 2) hn rfl) rfl rfl (Nat.le_of_ble_eq_true rfl)) rfl rfl rfl ?_
  refine me1 (pc' := 46) dm_X2_copyOf_45 rfl rfl rfl rfl ?_
  refine me3 (pc' := 47) dm_X2_copyOf_46 (g_aald (v := .null) (lu (n := 2) (j := 4) hn rfl) rfl (by decide) rfl (Nat.le_of_ble_eq_true rfl)) rfl rfl rfl ?_
  refine me3 (pc' := 48) dm_X2_copyOf_47 (g_aastn (le_ (n := 2) (u := 100) (v := 25) (j := 2) hn rfl hv rfl) (se (n := 2) (u := 100) (v := 25) (j := 2) hn rfl hv _) rfl (by decide) (Nat.le_of_ble_eq_true rfl)) rfl rfl rfl ?_
  refine me1 (pc' := 49) dm_X2_copyOf_48 rfl rfl rfl rfl ?_
  refine me3 (pc' := 52) dm_X2_copyOf_49 (g_get (v := .ref 130) (le_ (n := 2) (u := 100) (v := 25) (j := 0) hn rfl hv rfl) rfl rfl (Nat.le_of_ble_eq_true rfl)) rfl rfl rfl ?_
  refine me1 (pc' := 53) dm_X2_copyOf_52 rfl rfl rfl rfl ?_
  refine me1 (pc' := 54) dm_X2_copyOf_53 rfl rfl rfl rfl ?_
  refine me3 (pc' := 57) dm_X2_copyOf_54 (g_get (v := .ref 7) (lu (n := 2) (j := 2) hn rfl) rfl rfl (Nat.le_of_ble_eq_true rfl)) rfl rfl rfl ?_
  refine me1 (pc' := 58) dm_X2_copyOf_57 rfl rfl rfl rfl ?_
  refine me3 (pc' := 59) dm_X2_copyOf_58 (g_lald (v := (0 : Int64)) (lu (n := 2) (j := 5) hn rfl) rfl (by decide) rfl (Nat.le_of_ble_eq_true rfl)) rfl rfl rfl ?_
  refine me3 (pc' := 60) dm_X2_copyOf_59 (g_last (le_ (n := 2) (u := 100) (v := 25) (j := 3) hn rfl hv rfl) (se (n := 2) (u := 100) (v := 25) (j := 3) hn rfl hv _) rfl (by decide) (Nat.le_of_ble_eq_true rfl)) rfl rfl rfl ?_
  refine me1 (pc' := 61) dm_X2_copyOf_60 rfl rfl rfl rfl ?_
  refine me3 (pc' := 64) dm_X2_copyOf_61 (g_get (v := .ref 131) (le_ (n := 2) (u := 100) (v := 25) (j := 0) hn rfl hv rfl) rfl rfl (Nat.le_of_ble_eq_true rfl)) rfl rfl rfl ?_
  refine me1 (pc' := 65) dm_X2_copyOf_64 rfl rfl rfl rfl ?_
  refine me1 (pc' := 66) dm_X2_copyOf_65 rfl rfl rfl rfl ?_
  refine me3 (pc' := 69) dm_X2_copyOf_66 (g_get (v := .ref 8) (lu (n := 2) (j := 2) hn rfl) rfl rfl (Nat.le_of_ble_eq_true rfl)) rfl rfl rfl ?_
  refine me1 (pc' := 70) dm_X2_copyOf_69 rfl rfl rfl rfl ?_
  refine me3 (pc' := 71) dm_X2_copyOf_70 (g_aald (v := .null) (lu (n := 2) (j := 6) hn rfl) rfl (by decide) rfl (Nat.le_of_ble_eq_true rfl)) rfl rfl rfl ?_
  refine me3 (pc' := 72) dm_X2_copyOf_71 (g_aastn (le_ (n := 2) (u := 100) (v := 25) (j := 4) hn rfl hv rfl) (se (n := 2) (u := 100) (v := 25) (j := 4) hn rfl hv _) rfl (by decide) (Nat.le_of_ble_eq_true rfl)) rfl rfl rfl ?_
  refine me1 (pc' := 75) (L' := [(2, .int (37 : Int32)), (0, .ref 127), (1, .ref 4)]) dm_X2_copyOf_72 rfl rfl rfl rfl ?_
  refine me2 (pc' := 18) dm_X2_copyOf_75 rfl rfl rfl ?_
  refine me1 (pc' := 19) dm_X2_copyOf_18 rfl rfl rfl rfl ?_
  refine me0 (pc' := 21) (S' := .int (40 : Int32) :: _) dm_X2_copyOf_19 rfl rfl rfl rfl ?_
  refine me_2f (pc' := 24) dm_X2_copyOf_21 rfl (by decide) rfl ?_
  refine me1 (pc' := 25) dm_X2_copyOf_24 rfl rfl rfl rfl ?_
  refine me3 (pc' := 28) dm_X2_copyOf_25 (g_get (v := .ref 128) (le_ (n := 2) (u := 100) (v := 25) (j := 0) hn rfl hv rfl) rfl rfl (Nat.le_of_ble_eq_true rfl)) rfl rfl rfl ?_
  refine me1 (pc' := 29) dm_X2_copyOf_28 rfl rfl rfl rfl ?_
  refine me1 (pc' := 30) dm_X2_copyOf_29 rfl rfl rfl rfl ?_
  refine me3 (pc' := 33) dm_X2_copyOf_30 (g_get (v := .ref 5) (lu (n := 2) (j := 2) hn rfl) rfl rfl (Nat.le_of_ble_eq_true rfl)) rfl rfl rfl ?_
  refine me1 (pc' := 34) dm_X2_copyOf_33 rfl rfl rfl rfl ?_
  refine me3 (pc' := 35) dm_X2_copyOf_34 (g_lald (v := (0 : Int64)) (lu (n := 2) (j := 3) hn rfl) rfl (by decide) rfl (Nat.le_of_ble_eq_true rfl)) rfl rfl rfl ?_
  refine me3 (pc' := 36) dm_X2_copyOf_35 (g_last (le_ (n := 2) (u := 100) (v := 25) (j := 1) hn rfl hv rfl) (se (n := 2) (u := 100) (v := 25) (j := 1) hn rfl hv _) rfl (by decide) (Nat.le_of_ble_eq_true rfl)) rfl rfl rfl ?_
  refine me1 (pc' := 37) dm_X2_copyOf_36 rfl rfl rfl rfl ?_
  refine me3 (pc' := 40) dm_X2_copyOf_37 (g_get (v := .ref 129) (le_ (n := 2) (u := 100) (v := 25) (j := 0) hn rfl hv rfl) rfl rfl (Nat.le_of_ble_eq_true rfl)) rfl rfl rfl ?_
  refine me1 (pc' := 41) dm_X2_copyOf_40 rfl rfl rfl rfl ?_
  refine me1 (pc' := 42) dm_X2_copyOf_41 rfl rfl rfl rfl ?_
  refine me3 (pc' := 45) dm_X2_copyOf_42 (g_get (v := .ref 6) (lu (n := 2) (j := 2) hn rfl) rfl rfl (Nat.le_of_ble_eq_true rfl)) rfl rfl rfl ?_
  refine me1 (pc' := 46) dm_X2_copyOf_45 rfl rfl rfl rfl ?_
  refine me3 (pc' := 47) dm_X2_copyOf_46 (g_aald (v := .null) (lu (n := 2) (j := 4) hn rfl) rfl (by decide) rfl (Nat.le_of_ble_eq_true rfl)) rfl rfl rfl ?_
  refine me3 (pc' := 48) dm_X2_copyOf_47 (g_aastn (le_ (n := 2) (u := 100) (v := 25) (j := 2) hn rfl hv rfl) (se (n := 2) (u := 100) (v := 25) (j := 2) hn rfl hv _) rfl (by decide) (Nat.le_of_ble_eq_true rfl)) rfl rfl rfl ?_
  refine me1 (pc' := 49) dm_X2_copyOf_48 rfl rfl rfl rfl ?_
  refine me3 (pc' := 52) dm_X2_copyOf_49 (g_get (v := .ref 130) (le_ (n := 2) (u := 100) (v := 25) (j := 0) hn rfl hv rfl) rfl rfl (Nat.le_of_ble_eq_true rfl)) rfl rfl rfl ?_
  refine me1 (pc' := 53) dm_X2_copyOf_52 rfl rfl rfl rfl ?_
  refine me1 (pc' := 54) dm_X2_copyOf_53 rfl rfl rfl rfl ?_
  refine me3 (pc' := 57) dm_X2_copyOf_54 (g_get (v := .ref 7) (lu (n := 2) (j := 2) hn rfl) rfl rfl (Nat.le_of_ble_eq_true rfl)) rfl rfl rfl ?_
  refine me1 (pc' := 58) dm_X2_copyOf_57 rfl rfl rfl rfl ?_
  refine me3 (pc' := 59) dm_X2_copyOf_58 (g_lald (v := (0 : Int64)) (lu (n := 2) (j := 5) hn rfl) rfl (by decide) rfl (Nat.le_of_ble_eq_true rfl)) rfl rfl rfl ?_
  refine me3 (pc' := 60) dm_X2_copyOf_59 (g_last (le_ (n := 2) (u := 100) (v := 25) (j := 3) hn rfl hv rfl) (se (n := 2) (u := 100) (v := 25) (j := 3) hn rfl hv _) rfl (by decide) (Nat.le_of_ble_eq_true rfl)) rfl rfl rfl ?_
  refine me1 (pc' := 61) dm_X2_copyOf_60 rfl rfl rfl rfl ?_
  refine me3 (pc' := 64) dm_X2_copyOf_61 (g_get (v := .ref 131) (le_ (n := 2) (u := 100) (v := 25) (j := 0) hn rfl hv rfl) rfl rfl (Nat.le_of_ble_eq_true rfl)) rfl rfl rfl ?_
  refine me1 (pc' := 65) dm_X2_copyOf_64 rfl rfl rfl rfl ?_
  refine me1 (pc' := 66) dm_X2_copyOf_65 rfl rfl rfl rfl ?_
  refine me3 (pc' := 69) dm_X2_copyOf_66 (g_get (v := .ref 8) (lu (n := 2) (j := 2) hn rfl) rfl rfl (Nat.le_of_ble_eq_true rfl)) rfl rfl rfl ?_
  refine me1 (pc' := 70) dm_X2_copyOf_69 rfl rfl rfl rfl ?_
  refine me3 (pc' := 71) dm_X2_copyOf_70 (g_aald (v := .null) (lu (n := 2) (j := 6) hn rfl) rfl (by decide) rfl (Nat.le_of_ble_eq_true rfl)) rfl rfl rfl ?_
  refine me3 (pc' := 72) dm_X2_copyOf_71 (g_aastn (le_ (n := 2) (u := 100) (v := 25) (j := 4) hn rfl hv rfl) (se (n := 2) (u := 100) (v := 25) (j := 4) hn rfl hv _) rfl (by decide) (Nat.le_of_ble_eq_true rfl)) rfl rfl rfl ?_
  refine me1 (pc' := 75) (L' := [(2, .int (38 : Int32)), (0, .ref 127), (1, .ref 4)]) dm_X2_copyOf_72 rfl rfl rfl rfl ?_
  refine me2 (pc' := 18) dm_X2_copyOf_75 rfl rfl rfl ?_
  refine me1 (pc' := 19) dm_X2_copyOf_18 rfl rfl rfl rfl ?_
  refine me0 (pc' := 21) (S' := .int (40 : Int32) :: _) dm_X2_copyOf_19 rfl rfl rfl rfl ?_
  refine me_2f (pc' := 24) dm_X2_copyOf_21 rfl (by decide) rfl ?_
  refine me1 (pc' := 25) dm_X2_copyOf_24 rfl rfl rfl rfl ?_
  refine me3 (pc' := 28) dm_X2_copyOf_25 (g_get (v := .ref 128) (le_ (n := 2) (u := 100) (v := 25) (j := 0) hn rfl hv rfl) rfl rfl (Nat.le_of_ble_eq_true rfl)) rfl rfl rfl ?_
  refine me1 (pc' := 29) dm_X2_copyOf_28 rfl rfl rfl rfl ?_
  refine me1 (pc' := 30) dm_X2_copyOf_29 rfl rfl rfl rfl ?_
  refine me3 (pc' := 33) dm_X2_copyOf_30 (g_get (v := .ref 5) (lu (n := 2) (j := 2) hn rfl) rfl rfl (Nat.le_of_ble_eq_true rfl)) rfl rfl rfl ?_
  refine me1 (pc' := 34) dm_X2_copyOf_33 rfl rfl rfl rfl ?_
  refine me3 (pc' := 35) dm_X2_copyOf_34 (g_lald (v := (0 : Int64)) (lu (n := 2) (j := 3) hn rfl) rfl (by decide) rfl (Nat.le_of_ble_eq_true rfl)) rfl rfl rfl ?_
  refine me3 (pc' := 36) dm_X2_copyOf_35 (g_last (le_ (n := 2) (u := 100) (v := 25) (j := 1) hn rfl hv rfl) (se (n := 2) (u := 100) (v := 25) (j := 1) hn rfl hv _) rfl (by decide) (Nat.le_of_ble_eq_true rfl)) rfl rfl rfl ?_
  refine me1 (pc' := 37) dm_X2_copyOf_36 rfl rfl rfl rfl ?_
  refine me3 (pc' := 40) dm_X2_copyOf_37 (g_get (v := .ref 129) (le_ (n := 2) (u := 100) (v := 25) (j := 0) hn rfl hv rfl) rfl rfl (Nat.le_of_ble_eq_true rfl)) rfl rfl rfl ?_
  refine me1 (pc' := 41) dm_X2_copyOf_40 rfl rfl rfl rfl ?_
  refine me1 (pc' := 42) dm_X2_copyOf_41 rfl rfl rfl rfl ?_
  refine me3 (pc' := 45) dm_X2_copyOf_42 (g_get (v := .ref 6) (lu (n := 2) (j := 2) hn rfl) rfl rfl (Nat.le_of_ble_eq_true rfl)) rfl rfl rfl ?_
  refine me1 (pc' := 46) dm_X2_copyOf_45 rfl rfl rfl rfl ?_
  refine me3 (pc' := 47) dm_X2_copyOf_46 (g_aald (v := .null) (lu (n := 2) (j := 4) hn rfl) rfl (by decide) rfl (Nat.le_of_ble_eq_true rfl)) rfl rfl rfl ?_
  refine me3 (pc' := 48) dm_X2_copyOf_47 (g_aastn (le_ (n := 2) (u := 100) (v := 25) (j := 2) hn rfl hv rfl) (se (n := 2) (u := 100) (v := 25) (j := 2) hn rfl hv _) rfl (by decide) (Nat.le_of_ble_eq_true rfl)) rfl rfl rfl ?_
  refine me1 (pc' := 49) dm_X2_copyOf_48 rfl rfl rfl rfl ?_
  refine me3 (pc' := 52) dm_X2_copyOf_49 (g_get (v := .ref 130) (le_ (n := 2) (u := 100) (v := 25) (j := 0) hn rfl hv rfl) rfl rfl (Nat.le_of_ble_eq_true rfl)) rfl rfl rfl ?_
  refine me1 (pc' := 53) dm_X2_copyOf_52 rfl rfl rfl rfl ?_
  refine me1 (pc' := 54) dm_X2_copyOf_53 rfl rfl rfl rfl ?_
  refine me3 (pc' := 57) dm_X2_copyOf_54 (g_get (v := .ref 7) (lu (n := 2) (j := 2) hn rfl) rfl rfl (Nat.le_of_ble_eq_true rfl)) rfl rfl rfl ?_
  refine me1 (pc' := 58) dm_X2_copyOf_57 rfl rfl rfl rfl ?_
  refine me3 (pc' := 59) dm_X2_copyOf_58 (g_lald (v := (0 : Int64)) (lu (n := 2) (j := 5) hn rfl) rfl (by decide) rfl (Nat.le_of_ble_eq_true rfl)) rfl rfl rfl ?_
  refine me3 (pc' := 60) dm_X2_copyOf_59 (g_last (le_ (n := 2) (u := 100) (v := 25) (j := 3) hn rfl hv rfl) (se (n := 2) (u := 100) (v := 25) (j := 3) hn rfl hv _) rfl (by decide) (Nat.le_of_ble_eq_true rfl)) rfl rfl rfl ?_
  refine me1 (pc' := 61) dm_X2_copyOf_60 rfl rfl rfl rfl ?_
  refine me3 (pc' := 64) dm_X2_copyOf_61 (g_get (v := .ref 131) (le_ (n := 2) (u := 100) (v := 25) (j := 0) hn rfl hv rfl) rfl rfl (Nat.le_of_ble_eq_true rfl)) rfl rfl rfl ?_
  refine me1 (pc' := 65) dm_X2_copyOf_64 rfl rfl rfl rfl ?_
  refine me1 (pc' := 66) dm_X2_copyOf_65 rfl rfl rfl rfl ?_
  refine me3 (pc' := 69) dm_X2_copyOf_66 (g_get (v := .ref 8) (lu (n := 2) (j := 2) hn rfl) rfl rfl (Nat.le_of_ble_eq_true rfl)) rfl rfl rfl ?_
  refine me1 (pc' := 70) dm_X2_copyOf_69 rfl rfl rfl rfl ?_
  refine me3 (pc' := 71) dm_X2_copyOf_70 (g_aald (v := .null) (lu (n := 2) (j := 6) hn rfl) rfl (by decide) rfl (Nat.le_of_ble_eq_true rfl)) rfl rfl rfl ?_
  refine me3 (pc' := 72) dm_X2_copyOf_71 (g_aastn (le_ (n := 2) (u := 100) (v := 25) (j := 4) hn rfl hv rfl) (se (n := 2) (u := 100) (v := 25) (j := 4) hn rfl hv _) rfl (by decide) (Nat.le_of_ble_eq_true rfl)) rfl rfl rfl ?_
  refine me1 (pc' := 75) (L' := [(2, .int (39 : Int32)), (0, .ref 127), (1, .ref 4)]) dm_X2_copyOf_72 rfl rfl rfl rfl ?_
  refine me2 (pc' := 18) dm_X2_copyOf_75 rfl rfl rfl ?_
  refine me1 (pc' := 19) dm_X2_copyOf_18 rfl rfl rfl rfl ?_
  refine me0 (pc' := 21) (S' := .int (40 : Int32) :: _) dm_X2_copyOf_19 rfl rfl rfl rfl ?_
  refine me_2f (pc' := 24) dm_X2_copyOf_21 rfl (by decide) rfl ?_
  refine me1 (pc' := 25) dm_X2_copyOf_24 rfl rfl rfl rfl ?_
  refine me3 (pc' := 28) dm_X2_copyOf_25 (g_get (v := .ref 128) (le_ (n := 2) (u := 100) (v := 25) (j := 0) hn rfl hv rfl) rfl rfl (Nat.le_of_ble_eq_true rfl)) rfl rfl rfl ?_
  refine me1 (pc' := 29) dm_X2_copyOf_28 rfl rfl rfl rfl ?_
  refine me1 (pc' := 30) dm_X2_copyOf_29 rfl rfl rfl rfl ?_
  refine me3 (pc' := 33) dm_X2_copyOf_30 (g_get (v := .ref 5) (lu (n := 2) (j := 2) hn rfl) rfl rfl (Nat.le_of_ble_eq_true rfl)) rfl rfl rfl ?_
  refine me1 (pc' := 34) dm_X2_copyOf_33 rfl rfl rfl rfl ?_
  refine me3 (pc' := 35) dm_X2_copyOf_34 (g_lald (v := (0 : Int64)) (lu (n := 2) (j := 3) hn rfl) rfl (by decide) rfl (Nat.le_of_ble_eq_true rfl)) rfl rfl rfl ?_
  refine me3 (pc' := 36) dm_X2_copyOf_35 (g_last (le_ (n := 2) (u := 100) (v := 25) (j := 1) hn rfl hv rfl) (se (n := 2) (u := 100) (v := 25) (j := 1) hn rfl hv _) rfl (by decide) (Nat.le_of_ble_eq_true rfl)) rfl rfl rfl ?_
  refine me1 (pc' := 37) dm_X2_copyOf_36 rfl rfl rfl rfl ?_
  refine me3 (pc' := 40) dm_X2_copyOf_37 (g_get (v := .ref 129) (le_ (n := 2) (u := 100) (v := 25) (j := 0) hn rfl hv rfl) rfl rfl (Nat.le_of_ble_eq_true rfl)) rfl rfl rfl ?_
  refine me1 (pc' := 41) dm_X2_copyOf_40 rfl rfl rfl rfl ?_
  refine me1 (pc' := 42) dm_X2_copyOf_41 rfl rfl rfl rfl ?_
  refine me3 (pc' := 45) dm_X2_copyOf_42 (g_get (v := .ref 6) (lu (n := 2) (j := 2) hn rfl) rfl rfl (Nat.le_of_ble_eq_true rfl)) rfl rfl rfl ?_
  refine me1 (pc' := 46) dm_X2_copyOf_45 rfl rfl rfl rfl ?_
  refine me3 (pc' := 47) dm_X2_copyOf_46 (g_aald (v := .null) (lu (n := 2) (j := 4) hn rfl) rfl (by decide) rfl (Nat.le_of_ble_eq_true rfl)) rfl rfl rfl ?_
  refine me3 (pc' := 48) dm_X2_copyOf_47 (g_aastn (le_ (n := 2) (u := 100) (v := 25) (j := 2) hn rfl hv rfl) (se (n := 2) (u := 100) (v := 25) (j := 2) hn rfl hv _) rfl (by decide) (Nat.le_of_ble_eq_true rfl)) rfl rfl rfl ?_
  refine me1 (pc' := 49) dm_X2_copyOf_48 rfl rfl rfl rfl ?_
  refine me3 (pc' := 52) dm_X2_copyOf_49 (g_get (v := .ref 130) (le_ (n := 2) (u := 100) (v := 25) (j := 0) hn rfl hv rfl) rfl rfl (Nat.le_of_ble_eq_true rfl)) rfl rfl rfl ?_
  refine me1 (pc' := 53) dm_X2_copyOf_52 rfl rfl rfl rfl ?_
  refine me1 (pc' := 54) dm_X2_copyOf_53 rfl rfl rfl rfl ?_
  refine me3 (pc' := 57) dm_X2_copyOf_54 (g_get (v := .ref 7) (lu (n := 2) (j := 2) hn rfl) rfl rfl (Nat.le_of_ble_eq_true rfl)) rfl rfl rfl ?_
  refine me1 (pc' := 58) dm_X2_copyOf_57 rfl rfl rfl rfl ?_
  refine me3 (pc' := 59) dm_X2_copyOf_58 (g_lald (v := (0 : Int64)) (lu (n := 2) (j := 5) hn rfl) rfl (by decide) rfl (Nat.le_of_ble_eq_true rfl)) rfl rfl rfl ?_
  refine me3 (pc' := 60) dm_X2_copyOf_59 (g_last (le_ (n := 2) (u := 100) (v := 25) (j := 3) hn rfl hv rfl) (se (n := 2) (u := 100) (v := 25) (j := 3) hn rfl hv _) rfl (by decide) (Nat.le_of_ble_eq_true rfl)) rfl rfl rfl ?_
  refine me1 (pc' := 61) dm_X2_copyOf_60 rfl rfl rfl rfl ?_
  refine me3 (pc' := 64) dm_X2_copyOf_61 (g_get (v := .ref 131) (le_ (n := 2) (u := 100) (v := 25) (j := 0) hn rfl hv rfl) rfl rfl (Nat.le_of_ble_eq_true rfl)) rfl rfl rfl ?_
  refine me1 (pc' := 65) dm_X2_copyOf_64 rfl rfl rfl rfl ?_
  refine me1 (pc' := 66) dm_X2_copyOf_65 rfl rfl rfl rfl ?_
  refine me3 (pc' := 69) dm_X2_copyOf_66 (g_get (v := .ref 8) (lu (n := 2) (j := 2) hn rfl) rfl rfl (Nat.le_of_ble_eq_true rfl)) rfl rfl rfl ?_
  refine me1 (pc' := 70) dm_X2_copyOf_69 rfl rfl rfl rfl ?_
  refine me3 (pc' := 71) dm_X2_copyOf_70 (g_aald (v := .null) (lu (n := 2) (j := 6) hn rfl) rfl (by decide) rfl (Nat.le_of_ble_eq_true rfl)) rfl rfl rfl ?_
  refine me3 (pc' := 72) dm_X2_copyOf_71 (g_aastn (le_ (n := 2) (u := 100) (v := 25) (j := 4) hn rfl hv rfl) (se (n := 2) (u := 100) (v := 25) (j := 4) hn rfl hv _) rfl (by decide) (Nat.le_of_ble_eq_true rfl)) rfl rfl rfl ?_
  refine me1 (pc' := 75) (L' := [(2, .int (40 : Int32)), (0, .ref 127), (1, .ref 4)]) dm_X2_copyOf_72 rfl rfl rfl rfl ?_
  refine me2 (pc' := 18) dm_X2_copyOf_75 rfl rfl rfl ?_
  refine me1 (pc' := 19) dm_X2_copyOf_18 rfl rfl rfl rfl ?_
  refine me0 (pc' := 21) (S' := .int (40 : Int32) :: _) dm_X2_copyOf_19 rfl rfl rfl rfl ?_
  refine me_2t (pc' := 78) dm_X2_copyOf_21 rfl rfl ?_
  refine me5 dm_X2_copyOf_78 rfl rfl rfl ?_
  refine me0 (pc' := 51) (S' := .int (1 : Int32) :: _) dm_X11_keep_50 rfl rfl rfl rfl ?_
  refine me5 dm_X11_keep_51 rfl rfl rfl ?_
  exact k _ _ rfl (Nat.le_of_ble_eq_true rfl) (Nat.le_of_ble_eq_true rfl) (Nat.le_of_ble_eq_true rfl)
set_option maxRecDepth 100000 in
set_option maxHeartbeats 40000000 in
theorem c_keep_v1 {xt : mj_X} {d : Nat} {h V : mj_H} (hn : h.length = 2) (hv : V.length = 25) {P : Option Value → mj_H → Prop}  (k : ∀ U D, U.length = 100 → mj_sl U ≤ 20000 → D.length ≤ 10 → mj_sl D ≤ 2000 → P (some (.int (1 : Int32))) (h ++ (U ++ (V ++ D)))) : pgE xt (d + 20) 11 2 false (Option.some FieldType.boolean) (mj_dec prog_1_method_15_code) 0 [(0, .ref 2), (1, .int (1 : Int32))] [] (h ++ (cT ++ (V ++ []))) P := by
  refine me1 (pc' := 1) dm_X11_keep_0 rfl rfl rfl rfl ?_
  refine me_1f (pc' := 4) dm_X11_keep_1 rfl (by decide) rfl ?_
  refine me1 (pc' := 5) dm_X11_keep_4 rfl rfl rfl rfl ?_
  refine me1 (pc' := 6) dm_X11_keep_5 rfl rfl rfl rfl ?_
  refine me3 (pc' := 9) dm_X11_keep_6 (g_get (v := .ref 15) (lu (n := 2) (j := 0) hn rfl) rfl rfl (Nat.le_of_ble_eq_true rfl)) rfl rfl rfl ?_
  refine me3 (pc' := 10) dm_X11_keep_9 (g_len (v := (4 : Int32)) (lu (n := 2) (j := 13) hn rfl) rfl rfl (Nat.le_of_ble_eq_true rfl)) rfl rfl rfl ?_
  refine me_2t (pc' := 15) dm_X11_keep_10 rfl rfl ?_
  refine me1 (pc' := 16) dm_X11_keep_15 rfl rfl rfl rfl ?_
  refine me3 (pc' := 19) dm_X11_keep_16 (g_get (v := .ref 15) (lu (n := 2) (j := 0) hn rfl) rfl rfl (Nat.le_of_ble_eq_true rfl)) rfl rfl rfl ?_
  refine me1 (pc' := 20) dm_X11_keep_19 rfl rfl rfl rfl ?_
  refine me3 (pc' := 21) dm_X11_keep_20 (g_aald (v := .null) (lu (n := 2) (j := 13) hn rfl) rfl (by decide) rfl (Nat.le_of_ble_eq_true rfl)) rfl rfl rfl ?_
  refine me2 (pc' := 24) dm_X11_keep_21 rfl rfl rfl ?_
  refine me1 (pc' := 25) dm_X11_keep_24 rfl rfl rfl rfl ?_
  refine me3 (pc' := 28) dm_X11_keep_25 (g_get (v := .ref 15) (lu (n := 2) (j := 0) hn rfl) rfl rfl (Nat.le_of_ble_eq_true rfl)) rfl rfl rfl ?_
  refine me1 (pc' := 29) dm_X11_keep_28 rfl rfl rfl rfl ?_
  refine me3 (pc' := 32) dm_X11_keep_29 (g_nw (a := 127) (ne_ (n := 2) (u := 100) (v := 25) (j := 0) hn rfl hv rfl) (ae _) rfl) rfl rfl rfl ?_
  refine me0 (pc' := 33) dm_X11_keep_32 rfl rfl rfl rfl ?_
  refine me4 (pc' := 36) (L0 := [(0, .ref 127)]) dm_X11_keep_33 rfl (g_invp (As := []) rfl rfl rfl) pm_X2_init rfl (Nat.le_of_ble_eq_true rfl) rfl rfl rfl ?_
  refine me1 (pc' := 1) dm_X2_init_0 rfl rfl rfl rfl ?_
  refine me4o (pc' := 4) dm_X2_init_1 rfl rfl (by omega) rfl rfl rfl ?_
  refine me1 (pc' := 5) dm_X2_init_4 rfl rfl rfl rfl ?_
  refine me0 (pc' := 7) (S' := .int (40 : Int32) :: _) dm_X2_init_5 rfl rfl rfl rfl ?_
  refine me3 (pc' := 9) dm_X2_init_7 (g_nwa (a := 128) (ne_ (n := 2) (u := 100) (v := 25) (j := 1) hn rfl hv rfl) (ae _) rfl (by decide)) rfl rfl rfl ?_
  refine me3 (pc' := 12) dm_X2_init_9 (g_put (fs' := [.ref 128, .null, .int (0 : Int32), .null, .null, .int (0 : Int32)]) (le_ (n := 2) (u := 100) (v := 25) (j := 0) hn rfl hv rfl) rfl (se (n := 2) (u := 100) (v := 25) (j := 0) hn rfl hv _) rfl (Nat.le_of_ble_eq_true rfl) rfl (by decide) (fun _ => rfl) (Nat.le_of_ble_eq_true rfl)) rfl rfl rfl ?_
  refine me1 (pc' := 13) dm_X2_init_12 rfl rfl rfl rfl ?_
  refine me0 (pc' := 15) (S' := .int (40 : Int32) :: _) dm_X2_init_13 rfl rfl rfl rfl ?_
  refine me3 (pc' := 18) dm_X2_init_15 (g_nwq (a := 129) (ne_ (n := 2) (u := 100) (v := 25) (j := 2) hn rfl hv rfl) (ae _) rfl (by decide)) rfl rfl rfl ?_
  refine me3 (pc' := 21) dm_X2_init_18 (g_put (fs' := [.ref 128, .ref 129, .int (0 : Int32), .null, .null, .int (0 : Int32)]) (le_ (n := 2) (u := 100) (v := 25) (j := 0) hn rfl hv rfl) rfl (se (n := 2) (u := 100) (v := 25) (j := 0) hn rfl hv _) rfl (Nat.le_of_ble_eq_true rfl) rfl (by decide) (fun _ => rfl) (Nat.le_of_ble_eq_true rfl)) rfl rfl rfl ?_
  refine me1 (pc' := 22) dm_X2_init_21 rfl rfl rfl rfl ?_
  refine me0 (pc' := 24) (S' := .int (40 : Int32) :: _) dm_X2_init_22 rfl rfl rfl rfl ?_
  refine me3 (pc' := 26) dm_X2_init_24 (g_nwa (a := 130) (ne_ (n := 2) (u := 100) (v := 25) (j := 3) hn rfl hv rfl) (ae _) rfl (by decide)) rfl rfl rfl ?_
  refine me3 (pc' := 29) dm_X2_init_26 (g_put (fs' := [.ref 128, .ref 129, .int (0 : Int32), .ref 130, .null, .int (0 : Int32)]) (le_ (n := 2) (u := 100) (v := 25) (j := 0) hn rfl hv rfl) rfl (se (n := 2) (u := 100) (v := 25) (j := 0) hn rfl hv _) rfl (Nat.le_of_ble_eq_true rfl) rfl (by decide) (fun _ => rfl) (Nat.le_of_ble_eq_true rfl)) rfl rfl rfl ?_
  refine me1 (pc' := 30) dm_X2_init_29 rfl rfl rfl rfl ?_
  refine me0 (pc' := 32) (S' := .int (40 : Int32) :: _) dm_X2_init_30 rfl rfl rfl rfl ?_
  refine me3 (pc' := 35) dm_X2_init_32 (g_nwq (a := 131) (ne_ (n := 2) (u := 100) (v := 25) (j := 4) hn rfl hv rfl) (ae _) rfl (by decide)) rfl rfl rfl ?_
  refine me3 (pc' := 38) dm_X2_init_35 (g_put (fs' := [.ref 128, .ref 129, .int (0 : Int32), .ref 130, .ref 131, .int (0 : Int32)]) (le_ (n := 2) (u := 100) (v := 25) (j := 0) hn rfl hv rfl) rfl (se (n := 2) (u := 100) (v := 25) (j := 0) hn rfl hv _) rfl (Nat.le_of_ble_eq_true rfl) rfl (by decide) (fun _ => rfl) (Nat.le_of_ble_eq_true rfl)) rfl rfl rfl ?_
  refine me5 dm_X2_init_38 rfl rfl rfl ?_
  refine me3 (pc' := 37) dm_X11_keep_36 (u_aastr (n := 2) (j := 13) hn rfl (le_ (n := 2) (u := 100) (v := 25) (j := 0) hn rfl hv rfl) rfl (by decide) rfl (Nat.le_of_ble_eq_true rfl) (Nat.le_of_ble_eq_true rfl)) rfl rfl rfl ?_
  refine me1 (pc' := 38) dm_X11_keep_37 rfl rfl rfl rfl ?_
  refine me3 (pc' := 41) dm_X11_keep_38 (g_get (v := .ref 15) (lu (n := 2) (j := 0) hn rfl) rfl rfl (Nat.le_of_ble_eq_true rfl)) rfl rfl rfl ?_
  refine me1 (pc' := 42) dm_X11_keep_41 rfl rfl rfl rfl ?_
  refine me3 (pc' := 43) dm_X11_keep_42 (g_aald (v := .ref 127) (lu (n := 2) (j := 13) hn rfl) rfl (by decide) rfl (Nat.le_of_ble_eq_true rfl)) rfl rfl rfl ?_
  refine me1 (pc' := 44) dm_X11_keep_43 rfl rfl rfl rfl ?_
  refine me3 (pc' := 47) dm_X11_keep_44 (g_get (v := .ref 4) (lu (n := 2) (j := 0) hn rfl) rfl rfl (Nat.le_of_ble_eq_true rfl)) rfl rfl rfl ?_
  refine me4 (pc' := 50) (L0 := [(0, .ref 127), (1, .ref 4)]) dm_X11_keep_47 rfl (g_inv (As := [.ref 4]) (le_ (n := 2) (u := 100) (v := 25) (j := 0) hn rfl hv rfl) rfl rfl rfl (Nat.le_of_ble_eq_true rfl)) pm_X2_copyOf rfl (Nat.le_of_ble_eq_true rfl) rfl rfl rfl ?_
  refine me1 (pc' := 1) dm_X2_copyOf_0 rfl rfl rfl rfl ?_
  refine me1 (pc' := 2) dm_X2_copyOf_1 rfl rfl rfl rfl ?_
  refine me3 (pc' := 5) dm_X2_copyOf_2 (g_get (v := .int (0 : Int32)) (lu (n := 2) (j := 2) hn rfl) rfl rfl (Nat.le_of_ble_eq_true rfl)) rfl rfl rfl ?_
  refine me3 (pc' := 8) dm_X2_copyOf_5 (g_put (fs' := [.ref 128, .ref 129, .int (0 : Int32), .ref 130, .ref 131, .int (0 : Int32)]) (le_ (n := 2) (u := 100) (v := 25) (j := 0) hn rfl hv rfl) rfl (se (n := 2) (u := 100) (v := 25) (j := 0) hn rfl hv _) rfl (Nat.le_of_ble_eq_true rfl) rfl (by decide) (fun z => by cases z) (Nat.le_of_ble_eq_true rfl)) rfl rfl rfl ?_
  refine me1 (pc' := 9) dm_X2_copyOf_8 rfl rfl rfl rfl ?_
  refine me1 (pc' := 10) dm_X2_copyOf_9 rfl rfl rfl rfl ?_
  refine me3 (pc' := 13) dm_X2_copyOf_10 (g_get (v := .int (0 : Int32)) (lu (n := 2) (j := 2) hn rfl) rfl rfl (Nat.le_of_ble_eq_true rfl)) rfl rfl rfl ?_
  refine me3 (pc' := 16) dm_X2_copyOf_13 (g_put (fs' := [.ref 128, .ref 129, .int (0 : Int32), .ref 130, .ref 131, .int (0 : Int32)]) (le_ (n := 2) (u := 100) (v := 25) (j := 0) hn rfl hv rfl) rfl (se (n := 2) (u := 100) (v := 25) (j := 0) hn rfl hv _) rfl (Nat.le_of_ble_eq_true rfl) rfl (by decide) (fun z => by cases z) (Nat.le_of_ble_eq_true rfl)) rfl rfl rfl ?_
  refine me0 (pc' := 17) (S' := .int (0 : Int32) :: _) dm_X2_copyOf_16 rfl rfl rfl rfl ?_
  refine me1 (pc' := 18) (L' := [(2, .int (0 : Int32)), (0, .ref 127), (1, .ref 4)]) dm_X2_copyOf_17 rfl rfl rfl rfl ?_
  refine me1 (pc' := 19) dm_X2_copyOf_18 rfl rfl rfl rfl ?_
  refine me0 (pc' := 21) (S' := .int (40 : Int32) :: _) dm_X2_copyOf_19 rfl rfl rfl rfl ?_
  refine me_2f (pc' := 24) dm_X2_copyOf_21 rfl (by decide) rfl ?_
  refine me1 (pc' := 25) dm_X2_copyOf_24 rfl rfl rfl rfl ?_
  refine me3 (pc' := 28) dm_X2_copyOf_25 (g_get (v := .ref 128) (le_ (n := 2) (u := 100) (v := 25) (j := 0) hn rfl hv rfl) rfl rfl (Nat.le_of_ble_eq_true rfl)) rfl rfl rfl ?_
  refine me1 (pc' := 29) dm_X2_copyOf_28 rfl rfl rfl rfl ?_
  refine me1 (pc' := 30) dm_X2_copyOf_29 rfl rfl rfl rfl ?_
  refine me3 (pc' := 33) dm_X2_copyOf_30 (g_get (v := .ref 5) (lu (n := 2) (j := 2) hn rfl) rfl rfl (Nat.le_of_ble_eq_true rfl)) rfl rfl rfl ?_
  refine me1 (pc' := 34) dm_X2_copyOf_33 rfl rfl rfl rfl ?_
  refine me3 (pc' := 35) dm_X2_copyOf_34 (g_lald (v := (0 : Int64)) (lu (n := 2) (j := 3) hn rfl) rfl (by decide) rfl (Nat.le_of_ble_eq_true rfl)) rfl rfl rfl ?_
  refine me3 (pc' := 36) dm_X2_copyOf_35 (g_last (le_ (n := 2) (u := 100) (v := 25) (j := 1) hn rfl hv rfl) (se (n := 2) (u := 100) (v := 25) (j := 1) hn rfl hv _) rfl (by decide) (Nat.le_of_ble_eq_true rfl)) rfl rfl rfl ?_
  refine me1 (pc' := 37) dm_X2_copyOf_36 rfl rfl rfl rfl ?_
  refine me3 (pc' := 40) dm_X2_copyOf_37 (g_get (v := .ref 129) (le_ (n := 2) (u := 100) (v := 25) (j := 0) hn rfl hv rfl) rfl rfl (Nat.le_of_ble_eq_true rfl)) rfl rfl rfl ?_
  refine me1 (pc' := 41) dm_X2_copyOf_40 rfl rfl rfl rfl ?_
  refine me1 (pc' := 42) dm_X2_copyOf_41 rfl rfl rfl rfl ?_
  refine me3 (pc' := 45) dm_X2_copyOf_42 (g_get (v := .ref 6) (lu (n := 2) (j := 2) hn rfl) rfl rfl (Nat.le_of_ble_eq_true rfl)) rfl rfl rfl ?_
  refine me1 (pc' := 46) dm_X2_copyOf_45 rfl rfl rfl rfl ?_
  refine me3 (pc' := 47) dm_X2_copyOf_46 (g_aald (v := .null) (lu (n := 2) (j := 4) hn rfl) rfl (by decide) rfl (Nat.le_of_ble_eq_true rfl)) rfl rfl rfl ?_
  refine me3 (pc' := 48) dm_X2_copyOf_47 (g_aastn (le_ (n := 2) (u := 100) (v := 25) (j := 2) hn rfl hv rfl) (se (n := 2) (u := 100) (v := 25) (j := 2) hn rfl hv _) rfl (by decide) (Nat.le_of_ble_eq_true rfl)) rfl rfl rfl ?_
  refine me1 (pc' := 49) dm_X2_copyOf_48 rfl rfl rfl rfl ?_
  refine me3 (pc' := 52) dm_X2_copyOf_49 (g_get (v := .ref 130) (le_ (n := 2) (u := 100) (v := 25) (j := 0) hn rfl hv rfl) rfl rfl (Nat.le_of_ble_eq_true rfl)) rfl rfl rfl ?_
  refine me1 (pc' := 53) dm_X2_copyOf_52 rfl rfl rfl rfl ?_
  refine me1 (pc' := 54) dm_X2_copyOf_53 rfl rfl rfl rfl ?_
  refine me3 (pc' := 57) dm_X2_copyOf_54 (g_get (v := .ref 7) (lu (n := 2) (j := 2) hn rfl) rfl rfl (Nat.le_of_ble_eq_true rfl)) rfl rfl rfl ?_
  refine me1 (pc' := 58) dm_X2_copyOf_57 rfl rfl rfl rfl ?_
  refine me3 (pc' := 59) dm_X2_copyOf_58 (g_lald (v := (0 : Int64)) (lu (n := 2) (j := 5) hn rfl) rfl (by decide) rfl (Nat.le_of_ble_eq_true rfl)) rfl rfl rfl ?_
  refine me3 (pc' := 60) dm_X2_copyOf_59 (g_last (le_ (n := 2) (u := 100) (v := 25) (j := 3) hn rfl hv rfl) (se (n := 2) (u := 100) (v := 25) (j := 3) hn rfl hv _) rfl (by decide) (Nat.le_of_ble_eq_true rfl)) rfl rfl rfl ?_
  refine me1 (pc' := 61) dm_X2_copyOf_60 rfl rfl rfl rfl ?_
  refine me3 (pc' := 64) dm_X2_copyOf_61 (g_get (v := .ref 131) (le_ (n := 2) (u := 100) (v := 25) (j := 0) hn rfl hv rfl) rfl rfl (Nat.le_of_ble_eq_true rfl)) rfl rfl rfl ?_
  refine me1 (pc' := 65) dm_X2_copyOf_64 rfl rfl rfl rfl ?_
  refine me1 (pc' := 66) dm_X2_copyOf_65 rfl rfl rfl rfl ?_
  refine me3 (pc' := 69) dm_X2_copyOf_66 (g_get (v := .ref 8) (lu (n := 2) (j := 2) hn rfl) rfl rfl (Nat.le_of_ble_eq_true rfl)) rfl rfl rfl ?_
  refine me1 (pc' := 70) dm_X2_copyOf_69 rfl rfl rfl rfl ?_
  refine me3 (pc' := 71) dm_X2_copyOf_70 (g_aald (v := .null) (lu (n := 2) (j := 6) hn rfl) rfl (by decide) rfl (Nat.le_of_ble_eq_true rfl)) rfl rfl rfl ?_
  refine me3 (pc' := 72) dm_X2_copyOf_71 (g_aastn (le_ (n := 2) (u := 100) (v := 25) (j := 4) hn rfl hv rfl) (se (n := 2) (u := 100) (v := 25) (j := 4) hn rfl hv _) rfl (by decide) (Nat.le_of_ble_eq_true rfl)) rfl rfl rfl ?_
  refine me1 (pc' := 75) (L' := [(2, .int (1 : Int32)), (0, .ref 127), (1, .ref 4)]) dm_X2_copyOf_72 rfl rfl rfl rfl ?_
  refine me2 (pc' := 18) dm_X2_copyOf_75 rfl rfl rfl ?_
  refine me1 (pc' := 19) dm_X2_copyOf_18 rfl rfl rfl rfl ?_
  refine me0 (pc' := 21) (S' := .int (40 : Int32) :: _) dm_X2_copyOf_19 rfl rfl rfl rfl ?_
  refine me_2f (pc' := 24) dm_X2_copyOf_21 rfl (by decide) rfl ?_
  refine me1 (pc' := 25) dm_X2_copyOf_24 rfl rfl rfl rfl ?_
  refine me3 (pc' := 28) dm_X2_copyOf_25 (g_get (v := .ref 128) (le_ (n := 2) (u := 100) (v := 25) (j := 0) hn rfl hv rfl) rfl rfl (Nat.le_of_ble_eq_true rfl)) rfl rfl rfl ?_
  refine me1 (pc' := 29) dm_X2_copyOf_28 rfl rfl rfl rfl ?_
  refine me1 (pc' := 30) dm_X2_copyOf_29 rfl rfl rfl rfl ?_
  refine me3 (pc' := 33) dm_X2_copyOf_30 (g_get (v := .ref 5) (lu (n := 2) (j := 2) hn rfl) rfl rfl (Nat.le_of_ble_eq_true rfl)) rfl rfl rfl ?_
  refine me1 (pc' := 34) dm_X2_copyOf_33 rfl rfl rfl rfl ?_
  refine me3 (pc' := 35) dm_X2_copyOf_34 (g_lald (v := (0 : Int64)) (lu (n := 2) (j := 3) hn rfl) rfl (by decide) rfl (Nat.le_of_ble_eq_true rfl)) rfl rfl rfl ?_
  refine me3 (pc' := 36) dm_X2_copyOf_35 (g_last (le_ (n := 2) (u := 100) (v := 25) (j := 1) hn rfl hv rfl) (se (n := 2) (u := 100) (v := 25) (j := 1) hn rfl hv _) rfl (by decide) (Nat.le_of_ble_eq_true rfl)) rfl rfl rfl ?_
  refine me1 (pc' := 37) dm_X2_copyOf_36 rfl rfl rfl rfl ?_
  refine me3 (pc' := 40) dm_X2_copyOf_37 (g_get (v := .ref 129) (le_ (n := 2) (u := 100) (v := 25) (j := 0) hn rfl hv rfl) rfl rfl (Nat.le_of_ble_eq_true rfl)) rfl rfl rfl ?_
  refine me1 (pc' := 41) dm_X2_copyOf_40 rfl rfl rfl rfl ?_
  refine me1 (pc' := 42) dm_X2_copyOf_41 rfl rfl rfl rfl ?_
  refine me3 (pc' := 45) dm_X2_copyOf_42 (g_get (v := .ref 6) (lu (n := 2) (j := 2) hn rfl) rfl rfl (Nat.le_of_ble_eq_true rfl)) rfl rfl rfl ?_
  refine me1 (pc' := 46) dm_X2_copyOf_45 rfl rfl rfl rfl ?_
  refine me3 (pc' := 47) dm_X2_copyOf_46 (g_aald (v := .null) (lu (n := 2) (j := 4) hn rfl) rfl (by decide) rfl (Nat.le_of_ble_eq_true rfl)) rfl rfl rfl ?_
  refine me3 (pc' := 48) dm_X2_copyOf_47 (g_aastn (le_ (n := 2) (u := 100) (v := 25) (j := 2) hn rfl hv rfl) (se (n := 2) (u := 100) (v := 25) (j := 2) hn rfl hv _) rfl (by decide) (Nat.le_of_ble_eq_true rfl)) rfl rfl rfl ?_
  refine me1 (pc' := 49) dm_X2_copyOf_48 rfl rfl rfl rfl ?_
  refine me3 (pc' := 52) dm_X2_copyOf_49 (g_get (v := .ref 130) (le_ (n := 2) (u := 100) (v := 25) (j := 0) hn rfl hv rfl) rfl rfl (Nat.le_of_ble_eq_true rfl)) rfl rfl rfl ?_
  refine me1 (pc' := 53) dm_X2_copyOf_52 rfl rfl rfl rfl ?_
  refine me1 (pc' := 54) dm_X2_copyOf_53 rfl rfl rfl rfl ?_
  refine me3 (pc' := 57) dm_X2_copyOf_54 (g_get (v := .ref 7) (lu (n := 2) (j := 2) hn rfl) rfl rfl (Nat.le_of_ble_eq_true rfl)) rfl rfl rfl ?_
  refine me1 (pc' := 58) dm_X2_copyOf_57 rfl rfl rfl rfl ?_
  refine me3 (pc' := 59) dm_X2_copyOf_58 (g_lald (v := (0 : Int64)) (lu (n := 2) (j := 5) hn rfl) rfl (by decide) rfl (Nat.le_of_ble_eq_true rfl)) rfl rfl rfl ?_
  refine me3 (pc' := 60) dm_X2_copyOf_59 (g_last (le_ (n := 2) (u := 100) (v := 25) (j := 3) hn rfl hv rfl) (se (n := 2) (u := 100) (v := 25) (j := 3) hn rfl hv _) rfl (by decide) (Nat.le_of_ble_eq_true rfl)) rfl rfl rfl ?_
  refine me1 (pc' := 61) dm_X2_copyOf_60 rfl rfl rfl rfl ?_
  refine me3 (pc' := 64) dm_X2_copyOf_61 (g_get (v := .ref 131) (le_ (n := 2) (u := 100) (v := 25) (j := 0) hn rfl hv rfl) rfl rfl (Nat.le_of_ble_eq_true rfl)) rfl rfl rfl ?_
  refine me1 (pc' := 65) dm_X2_copyOf_64 rfl rfl rfl rfl ?_
  refine me1 (pc' := 66) dm_X2_copyOf_65 rfl rfl rfl rfl ?_
  refine me3 (pc' := 69) dm_X2_copyOf_66 (g_get (v := .ref 8) (lu (n := 2) (j := 2) hn rfl) rfl rfl (Nat.le_of_ble_eq_true rfl)) rfl rfl rfl ?_
  refine me1 (pc' := 70) dm_X2_copyOf_69 rfl rfl rfl rfl ?_
  refine me3 (pc' := 71) dm_X2_copyOf_70 (g_aald (v := .null) (lu (n := 2) (j := 6) hn rfl) rfl (by decide) rfl (Nat.le_of_ble_eq_true rfl)) rfl rfl rfl ?_
  refine me3 (pc' := 72) dm_X2_copyOf_71 (g_aastn (le_ (n := 2) (u := 100) (v := 25) (j := 4) hn rfl hv rfl) (se (n := 2) (u := 100) (v := 25) (j := 4) hn rfl hv _) rfl (by decide) (Nat.le_of_ble_eq_true rfl)) rfl rfl rfl ?_
  refine me1 (pc' := 75) (L' := [(2, .int (2 : Int32)), (0, .ref 127), (1, .ref 4)]) dm_X2_copyOf_72 rfl rfl rfl rfl ?_
  refine me2 (pc' := 18) dm_X2_copyOf_75 rfl rfl rfl ?_
  refine me1 (pc' := 19) dm_X2_copyOf_18 rfl rfl rfl rfl ?_
  refine me0 (pc' := 21) (S' := .int (40 : Int32) :: _) dm_X2_copyOf_19 rfl rfl rfl rfl ?_
  refine me_2f (pc' := 24) dm_X2_copyOf_21 rfl (by decide) rfl ?_
  refine me1 (pc' := 25) dm_X2_copyOf_24 rfl rfl rfl rfl ?_
  refine me3 (pc' := 28) dm_X2_copyOf_25 (g_get (v := .ref 128) (le_ (n := 2) (u := 100) (v := 25) (j := 0) hn rfl hv rfl) rfl rfl (Nat.le_of_ble_eq_true rfl)) rfl rfl rfl ?_
  refine me1 (pc' := 29) dm_X2_copyOf_28 rfl rfl rfl rfl ?_
  refine me1 (pc' := 30) dm_X2_copyOf_29 rfl rfl rfl rfl ?_
  refine me3 (pc' := 33) dm_X2_copyOf_30 (g_get (v := .ref 5) (lu (n := 2) (j := 2) hn rfl) rfl rfl (Nat.le_of_ble_eq_true rfl)) rfl rfl rfl ?_
  refine me1 (pc' := 34) dm_X2_copyOf_33 rfl rfl rfl rfl ?_
  refine me3 (pc' := 35) dm_X2_copyOf_34 (g_lald (v := (0 : Int64)) (lu (n := 2) (j := 3) hn rfl) rfl (by decide) rfl (Nat.le_of_ble_eq_true rfl)) rfl rfl rfl ?_
  refine me3 (pc' := 36) dm_X2_copyOf_35 (g_last (le_ (n := 2) (u := 100) (v := 25) (j := 1) hn rfl hv rfl) (se (n := 2) (u := 100) (v := 25) (j := 1) hn rfl hv _) rfl (by decide) (Nat.le_of_ble_eq_true rfl)) rfl rfl rfl ?_
  refine me1 (pc' := 37) dm_X2_copyOf_36 rfl rfl rfl rfl ?_
  refine me3 (pc' := 40) dm_X2_copyOf_37 (g_get (v := .ref 129) (le_ (n := 2) (u := 100) (v := 25) (j := 0) hn rfl hv rfl) rfl rfl (Nat.le_of_ble_eq_true rfl)) rfl rfl rfl ?_
  refine me1 (pc' := 41) dm_X2_copyOf_40 rfl rfl rfl rfl ?_
  refine me1 (pc' := 42) dm_X2_copyOf_41 rfl rfl rfl rfl ?_
  refine me3 (pc' := 45) dm_X2_copyOf_42 (g_get (v := .ref 6) (lu (n := 2) (j := 2) hn rfl) rfl rfl (Nat.le_of_ble_eq_true rfl)) rfl rfl rfl ?_
  refine me1 (pc' := 46) dm_X2_copyOf_45 rfl rfl rfl rfl ?_
  refine me3 (pc' := 47) dm_X2_copyOf_46 (g_aald (v := .null) (lu (n := 2) (j := 4) hn rfl) rfl (by decide) rfl (Nat.le_of_ble_eq_true rfl)) rfl rfl rfl ?_
  refine me3 (pc' := 48) dm_X2_copyOf_47 (g_aastn (le_ (n := 2) (u := 100) (v := 25) (j := 2) hn rfl hv rfl) (se (n := 2) (u := 100) (v := 25) (j := 2) hn rfl hv _) rfl (by decide) (Nat.le_of_ble_eq_true rfl)) rfl rfl rfl ?_
  refine me1 (pc' := 49) dm_X2_copyOf_48 rfl rfl rfl rfl ?_
  refine me3 (pc' := 52) dm_X2_copyOf_49 (g_get (v := .ref 130) (le_ (n := 2) (u := 100) (v := 25) (j := 0) hn rfl hv rfl) rfl rfl (Nat.le_of_ble_eq_true rfl)) rfl rfl rfl ?_
  refine me1 (pc' := 53) dm_X2_copyOf_52 rfl rfl rfl rfl ?_
  refine me1 (pc' := 54) dm_X2_copyOf_53 rfl rfl rfl rfl ?_
  refine me3 (pc' := 57) dm_X2_copyOf_54 (g_get (v := .ref 7) (lu (n := 2) (j := 2) hn rfl) rfl rfl (Nat.le_of_ble_eq_true rfl)) rfl rfl rfl ?_
  refine me1 (pc' := 58) dm_X2_copyOf_57 rfl rfl rfl rfl ?_
  refine me3 (pc' := 59) dm_X2_copyOf_58 (g_lald (v := (0 : Int64)) (lu (n := 2) (j := 5) hn rfl) rfl (by decide) rfl (Nat.le_of_ble_eq_true rfl)) rfl rfl rfl ?_
  refine me3 (pc' := 60) dm_X2_copyOf_59 (g_last (le_ (n := 2) (u := 100) (v := 25) (j := 3) hn rfl hv rfl) (se (n := 2) (u := 100) (v := 25) (j := 3) hn rfl hv _) rfl (by decide) (Nat.le_of_ble_eq_true rfl)) rfl rfl rfl ?_
  refine me1 (pc' := 61) dm_X2_copyOf_60 rfl rfl rfl rfl ?_
  refine me3 (pc' := 64) dm_X2_copyOf_61 (g_get (v := .ref 131) (le_ (n := 2) (u := 100) (v := 25) (j := 0) hn rfl hv rfl) rfl rfl (Nat.le_of_ble_eq_true rfl)) rfl rfl rfl ?_
  refine me1 (pc' := 65) dm_X2_copyOf_64 rfl rfl rfl rfl ?_
  refine me1 (pc' := 66) dm_X2_copyOf_65 rfl rfl rfl rfl ?_
  refine me3 (pc' := 69) dm_X2_copyOf_66 (g_get (v := .ref 8) (lu (n := 2) (j := 2) hn rfl) rfl rfl (Nat.le_of_ble_eq_true rfl)) rfl rfl rfl ?_
  refine me1 (pc' := 70) dm_X2_copyOf_69 rfl rfl rfl rfl ?_
  refine me3 (pc' := 71) dm_X2_copyOf_70 (g_aald (v := .null) (lu (n := 2) (j := 6) hn rfl) rfl (by decide) rfl (Nat.le_of_ble_eq_true rfl)) rfl rfl rfl ?_
  refine me3 (pc' := 72) dm_X2_copyOf_71 (g_aastn (le_ (n := 2) (u := 100) (v := 25) (j := 4) hn rfl hv rfl) (se (n := 2) (u := 100) (v := 25) (j := 4) hn rfl hv _) rfl (by decide) (Nat.le_of_ble_eq_true rfl)) rfl rfl rfl ?_
  refine me1 (pc' := 75) (L' := [(2, .int (3 : Int32)), (0, .ref 127), (1, .ref 4)]) dm_X2_copyOf_72 rfl rfl rfl rfl ?_
  refine me2 (pc' := 18) dm_X2_copyOf_75 rfl rfl rfl ?_
  refine me1 (pc' := 19) dm_X2_copyOf_18 rfl rfl rfl rfl ?_
  refine me0 (pc' := 21) (S' := .int (40 : Int32) :: _) dm_X2_copyOf_19 rfl rfl rfl rfl ?_
  refine me_2f (pc' := 24) dm_X2_copyOf_21 rfl (by decide) rfl ?_
  refine me1 (pc' := 25) dm_X2_copyOf_24 rfl rfl rfl rfl ?_
  refine me3 (pc' := 28) dm_X2_copyOf_25 (g_get (v := .ref 128) (le_ (n := 2) (u := 100) (v := 25) (j := 0) hn rfl hv rfl) rfl rfl (Nat.le_of_ble_eq_true rfl)) rfl rfl rfl ?_
  refine me1 (pc' := 29) dm_X2_copyOf_28 rfl rfl rfl rfl ?_
  refine me1 (pc' := 30) dm_X2_copyOf_29 rfl rfl rfl rfl ?_
  refine me3 (pc' := 33) dm_X2_copyOf_30 (g_get (v := .ref 5) (lu (n := 2) (j := 2) hn rfl) rfl rfl (Nat.le_of_ble_eq_true rfl)) rfl rfl rfl ?_
  refine me1 (pc' := 34) dm_X2_copyOf_33 rfl rfl rfl rfl ?_
  refine me3 (pc' := 35) dm_X2_copyOf_34 (g_lald (v := (0 : Int64)) (lu (n := 2) (j := 3) hn rfl) rfl (by decide) rfl (Nat.le_of_ble_eq_true rfl)) rfl rfl rfl ?_
  refine me3 (pc' := 36) dm_X2_copyOf_35 (g_last (le_ (n := 2) (u := 100) (v := 25) (j := 1) hn rfl hv rfl) (se (n := 2) (u := 100) (v := 25) (j := 1) hn rfl hv _) rfl (by decide) (Nat.le_of_ble_eq_true rfl)) rfl rfl rfl ?_
  refine me1 (pc' := 37) dm_X2_copyOf_36 rfl rfl rfl rfl ?_
  refine me3 (pc' := 40) dm_X2_copyOf_37 (g_get (v := .ref 129) (le_ (n := 2) (u := 100) (v := 25) (j := 0) hn rfl hv rfl) rfl rfl (Nat.le_of_ble_eq_true rfl)) rfl rfl rfl ?_
  refine me1 (pc' := 41) dm_X2_copyOf_40 rfl rfl rfl rfl ?_
  refine me1 (pc' := 42) dm_X2_copyOf_41 rfl rfl rfl rfl ?_
  refine me3 (pc' := 45) dm_X2_copyOf_42 (g_get (v := .ref 6) (lu (n := 2) (j := 2) hn rfl) rfl rfl (Nat.le_of_ble_eq_true rfl)) rfl rfl rfl ?_
  refine me1 (pc' := 46) dm_X2_copyOf_45 rfl rfl rfl rfl ?_
  refine me3 (pc' := 47) dm_X2_copyOf_46 (g_aald (v := .null) (lu (n := 2) (j := 4) hn rfl) rfl (by decide) rfl (Nat.le_of_ble_eq_true rfl)) rfl rfl rfl ?_
  refine me3 (pc' := 48) dm_X2_copyOf_47 (g_aastn (le_ (n := 2) (u := 100) (v := 25) (j := 2) hn rfl hv rfl) (se (n := 2) (u := 100) (v := 25) (j := 2) hn rfl hv _) rfl (by decide) (Nat.le_of_ble_eq_true rfl)) rfl rfl rfl ?_
  refine me1 (pc' := 49) dm_X2_copyOf_48 rfl rfl rfl rfl ?_
  refine me3 (pc' := 52) dm_X2_copyOf_49 (g_get (v := .ref 130) (le_ (n := 2) (u := 100) (v := 25) (j := 0) hn rfl hv rfl) rfl rfl (Nat.le_of_ble_eq_true rfl)) rfl rfl rfl ?_
  refine me1 (pc' := 53) dm_X2_copyOf_52 rfl rfl rfl rfl ?_
  refine me1 (pc' := 54) dm_X2_copyOf_53 rfl rfl rfl rfl ?_
  refine me3 (pc' := 57) dm_X2_copyOf_54 (g_get (v := .ref 7) (lu (n := 2) (j := 2) hn rfl) rfl rfl (Nat.le_of_ble_eq_true rfl)) rfl rfl rfl ?_
  refine me1 (pc' := 58) dm_X2_copyOf_57 rfl rfl rfl rfl ?_
  refine me3 (pc' := 59) dm_X2_copyOf_58 (g_lald (v := (0 : Int64)) (lu (n := 2) (j := 5) hn rfl) rfl (by decide) rfl (Nat.le_of_ble_eq_true rfl)) rfl rfl rfl ?_
  refine me3 (pc' := 60) dm_X2_copyOf_59 (g_last (le_ (n := 2) (u := 100) (v := 25) (j := 3) hn rfl hv rfl) (se (n := 2) (u := 100) (v := 25) (j := 3) hn rfl hv _) rfl (by decide) (Nat.le_of_ble_eq_true rfl)) rfl rfl rfl ?_
  refine me1 (pc' := 61) dm_X2_copyOf_60 rfl rfl rfl rfl ?_
  refine me3 (pc' := 64) dm_X2_copyOf_61 (g_get (v := .ref 131) (le_ (n := 2) (u := 100) (v := 25) (j := 0) hn rfl hv rfl) rfl rfl (Nat.le_of_ble_eq_true rfl)) rfl rfl rfl ?_
  refine me1 (pc' := 65) dm_X2_copyOf_64 rfl rfl rfl rfl ?_
  refine me1 (pc' := 66) dm_X2_copyOf_65 rfl rfl rfl rfl ?_
  refine me3 (pc' := 69) dm_X2_copyOf_66 (g_get (v := .ref 8) (lu (n := 2) (j := 2) hn rfl) rfl rfl (Nat.le_of_ble_eq_true rfl)) rfl rfl rfl ?_
  refine me1 (pc' := 70) dm_X2_copyOf_69 rfl rfl rfl rfl ?_
  refine me3 (pc' := 71) dm_X2_copyOf_70 (g_aald (v := .null) (lu (n := 2) (j := 6) hn rfl) rfl (by decide) rfl (Nat.le_of_ble_eq_true rfl)) rfl rfl rfl ?_
  refine me3 (pc' := 72) dm_X2_copyOf_71 (g_aastn (le_ (n := 2) (u := 100) (v := 25) (j := 4) hn rfl hv rfl) (se (n := 2) (u := 100) (v := 25) (j := 4) hn rfl hv _) rfl (by decide) (Nat.le_of_ble_eq_true rfl)) rfl rfl rfl ?_
  refine me1 (pc' := 75) (L' := [(2, .int (4 : Int32)), (0, .ref 127), (1, .ref 4)]) dm_X2_copyOf_72 rfl rfl rfl rfl ?_
  refine me2 (pc' := 18) dm_X2_copyOf_75 rfl rfl rfl ?_
  refine me1 (pc' := 19) dm_X2_copyOf_18 rfl rfl rfl rfl ?_
  refine me0 (pc' := 21) (S' := .int (40 : Int32) :: _) dm_X2_copyOf_19 rfl rfl rfl rfl ?_
  refine me_2f (pc' := 24) dm_X2_copyOf_21 rfl (by decide) rfl ?_
  refine me1 (pc' := 25) dm_X2_copyOf_24 rfl rfl rfl rfl ?_
  refine me3 (pc' := 28) dm_X2_copyOf_25 (g_get (v := .ref 128) (le_ (n := 2) (u := 100) (v := 25) (j := 0) hn rfl hv rfl) rfl rfl (Nat.le_of_ble_eq_true rfl)) rfl rfl rfl ?_
  refine me1 (pc' := 29) dm_X2_copyOf_28 rfl rfl rfl rfl ?_
  refine me1 (pc' := 30) dm_X2_copyOf_29 rfl rfl rfl rfl ?_
  refine me3 (pc' := 33) dm_X2_copyOf_30 (g_get (v := .ref 5) (lu (n := 2) (j := 2) hn rfl) rfl rfl (Nat.le_of_ble_eq_true rfl)) rfl rfl rfl ?_
  refine me1 (pc' := 34) dm_X2_copyOf_33 rfl rfl rfl rfl ?_
  refine me3 (pc' := 35) dm_X2_copyOf_34 (g_lald (v := (0 : Int64)) (lu (n := 2) (j := 3) hn rfl) rfl (by decide) rfl (Nat.le_of_ble_eq_true rfl)) rfl rfl rfl ?_
  refine me3 (pc' := 36) dm_X2_copyOf_35 (g_last (le_ (n := 2) (u := 100) (v := 25) (j := 1) hn rfl hv rfl) (se (n := 2) (u := 100) (v := 25) (j := 1) hn rfl hv _) rfl (by decide) (Nat.le_of_ble_eq_true rfl)) rfl rfl rfl ?_
  refine me1 (pc' := 37) dm_X2_copyOf_36 rfl rfl rfl rfl ?_
  refine me3 (pc' := 40) dm_X2_copyOf_37 (g_get (v := .ref 129) (le_ (n := 2) (u := 100) (v := 25) (j := 0) hn rfl hv rfl) rfl rfl (Nat.le_of_ble_eq_true rfl)) rfl rfl rfl ?_
  refine me1 (pc' := 41) dm_X2_copyOf_40 rfl rfl rfl rfl ?_
  refine me1 (pc' := 42) dm_X2_copyOf_41 rfl rfl rfl rfl ?_
  refine me3 (pc' := 45) dm_X2_copyOf_42 (g_get (v := .ref 6) (lu (n := 2) (j := 2) hn rfl) rfl rfl (Nat.le_of_ble_eq_true rfl)) rfl rfl rfl ?_
  refine me1 (pc' := 46) dm_X2_copyOf_45 rfl rfl rfl rfl ?_
  refine me3 (pc' := 47) dm_X2_copyOf_46 (g_aald (v := .null) (lu (n := 2) (j := 4) hn rfl) rfl (by decide) rfl (Nat.le_of_ble_eq_true rfl)) rfl rfl rfl ?_
  refine me3 (pc' := 48) dm_X2_copyOf_47 (g_aastn (le_ (n := 2) (u := 100) (v := 25) (j := 2) hn rfl hv rfl) (se (n := 2) (u := 100) (v := 25) (j := 2) hn rfl hv _) rfl (by decide) (Nat.le_of_ble_eq_true rfl)) rfl rfl rfl ?_
  refine me1 (pc' := 49) dm_X2_copyOf_48 rfl rfl rfl rfl ?_
  refine me3 (pc' := 52) dm_X2_copyOf_49 (g_get (v := .ref 130) (le_ (n := 2) (u := 100) (v := 25) (j := 0) hn rfl hv rfl) rfl rfl (Nat.le_of_ble_eq_true rfl)) rfl rfl rfl ?_
  refine me1 (pc' := 53) dm_X2_copyOf_52 rfl rfl rfl rfl ?_
  refine me1 (pc' := 54) dm_X2_copyOf_53 rfl rfl rfl rfl ?_
  refine me3 (pc' := 57) dm_X2_copyOf_54 (g_get (v := .ref 7) (lu (n := 2) (j := 2) hn rfl) rfl rfl (Nat.le_of_ble_eq_true rfl)) rfl rfl rfl ?_
  refine me1 (pc' := 58) dm_X2_copyOf_57 rfl rfl rfl rfl ?_
  refine me3 (pc' := 59) dm_X2_copyOf_58 (g_lald (v := (0 : Int64)) (lu (n := 2) (j := 5) hn rfl) rfl (by decide) rfl (Nat.le_of_ble_eq_true rfl)) rfl rfl rfl ?_
  refine me3 (pc' := 60) dm_X2_copyOf_59 (g_last (le_ (n := 2) (u := 100) (v := 25) (j := 3) hn rfl hv rfl) (se (n := 2) (u := 100) (v := 25) (j := 3) hn rfl hv _) rfl (by decide) (Nat.le_of_ble_eq_true rfl)) rfl rfl rfl ?_
  refine me1 (pc' := 61) dm_X2_copyOf_60 rfl rfl rfl rfl ?_
  refine me3 (pc' := 64) dm_X2_copyOf_61 (g_get (v := .ref 131) (le_ (n := 2) (u := 100) (v := 25) (j := 0) hn rfl hv rfl) rfl rfl (Nat.le_of_ble_eq_true rfl)) rfl rfl rfl ?_
  refine me1 (pc' := 65) dm_X2_copyOf_64 rfl rfl rfl rfl ?_
  refine me1 (pc' := 66) dm_X2_copyOf_65 rfl rfl rfl rfl ?_
  refine me3 (pc' := 69) dm_X2_copyOf_66 (g_get (v := .ref 8) (lu (n := 2) (j := 2) hn rfl) rfl rfl (Nat.le_of_ble_eq_true rfl)) rfl rfl rfl ?_
  refine me1 (pc' := 70) dm_X2_copyOf_69 rfl rfl rfl rfl ?_
  refine me3 (pc' := 71) dm_X2_copyOf_70 (g_aald (v := .null) (lu (n := 2) (j := 6) hn rfl) rfl (by decide) rfl (Nat.le_of_ble_eq_true rfl)) rfl rfl rfl ?_
  refine me3 (pc' := 72) dm_X2_copyOf_71 (g_aastn (le_ (n := 2) (u := 100) (v := 25) (j := 4) hn rfl hv rfl) (se (n := 2) (u := 100) (v := 25) (j := 4) hn rfl hv _) rfl (by decide) (Nat.le_of_ble_eq_true rfl)) rfl rfl rfl ?_
  refine me1 (pc' := 75) (L' := [(2, .int (5 : Int32)), (0, .ref 127), (1, .ref 4)]) dm_X2_copyOf_72 rfl rfl rfl rfl ?_
  refine me2 (pc' := 18) dm_X2_copyOf_75 rfl rfl rfl ?_
  refine me1 (pc' := 19) dm_X2_copyOf_18 rfl rfl rfl rfl ?_
  refine me0 (pc' := 21) (S' := .int (40 : Int32) :: _) dm_X2_copyOf_19 rfl rfl rfl rfl ?_
  refine me_2f (pc' := 24) dm_X2_copyOf_21 rfl (by decide) rfl ?_
  refine me1 (pc' := 25) dm_X2_copyOf_24 rfl rfl rfl rfl ?_
  refine me3 (pc' := 28) dm_X2_copyOf_25 (g_get (v := .ref 128) (le_ (n := 2) (u := 100) (v := 25) (j := 0) hn rfl hv rfl) rfl rfl (Nat.le_of_ble_eq_true rfl)) rfl rfl rfl ?_
  refine me1 (pc' := 29) dm_X2_copyOf_28 rfl rfl rfl rfl ?_
  refine me1 (pc' := 30) dm_X2_copyOf_29 rfl rfl rfl rfl ?_
  refine me3 (pc' := 33) dm_X2_copyOf_30 (g_get (v := .ref 5) (lu (n := 2) (j := 2) hn rfl) rfl rfl (Nat.le_of_ble_eq_true rfl)) rfl rfl rfl ?_
  refine me1 (pc' := 34) dm_X2_copyOf_33 rfl rfl rfl rfl ?_
  refine me3 (pc' := 35) dm_X2_copyOf_34 (g_lald (v := (0 : Int64)) (lu (n := 2) (j := 3) hn rfl) rfl (by decide) rfl (Nat.le_of_ble_eq_true rfl)) rfl rfl rfl ?_
  refine me3 (pc' := 36) dm_X2_copyOf_35 (g_last (le_ (n := 2) (u := 100) (v := 25) (j := 1) hn rfl hv rfl) (se (n := 2) (u := 100) (v := 25) (j := 1) hn rfl hv _) rfl (by decide) (Nat.le_of_ble_eq_true rfl)) rfl rfl rfl ?_
  refine me1 (pc' := 37) dm_X2_copyOf_36 rfl rfl rfl rfl ?_
  refine me3 (pc' := 40) dm_X2_copyOf_37 (g_get (v := .ref 129) (le_ (n := 2) (u := 100) (v := 25) (j := 0) hn rfl hv rfl) rfl rfl (Nat.le_of_ble_eq_true rfl)) rfl rfl rfl ?_
  refine me1 (pc' := 41) dm_X2_copyOf_40 rfl rfl rfl rfl ?_
  refine me1 (pc' := 42) dm_X2_copyOf_41 rfl rfl rfl rfl ?_
  refine me3 (pc' := 45) dm_X2_copyOf_42 (g_get (v := .ref 6) (lu (n := 2) (j := 2) hn rfl) rfl rfl (Nat.le_of_ble_eq_true rfl)) rfl rfl rfl ?_
  refine me1 (pc' := 46) dm_X2_copyOf_45 rfl rfl rfl rfl ?_
  refine me3 (pc' := 47) dm_X2_copyOf_46 (g_aald (v := .null) (lu (n := 2) (j := 4) hn rfl) rfl (by decide) rfl (Nat.le_of_ble_eq_true rfl)) rfl rfl rfl ?_
  refine me3 (pc' := 48) dm_X2_copyOf_47 (g_aastn (le_ (n := 2) (u := 100) (v := 25) (j := 2) hn rfl hv rfl) (se (n := 2) (u := 100) (v := 25) (j := 2) hn rfl hv _) rfl (by decide) (Nat.le_of_ble_eq_true rfl)) rfl rfl rfl ?_
  refine me1 (pc' := 49) dm_X2_copyOf_48 rfl rfl rfl rfl ?_
  refine me3 (pc' := 52) dm_X2_copyOf_49 (g_get (v := .ref 130) (le_ (n := 2) (u := 100) (v := 25) (j := 0) hn rfl hv rfl) rfl rfl (Nat.le_of_ble_eq_true rfl)) rfl rfl rfl ?_
  refine me1 (pc' := 53) dm_X2_copyOf_52 rfl rfl rfl rfl ?_
  refine me1 (pc' := 54) dm_X2_copyOf_53 rfl rfl rfl rfl ?_
  refine me3 (pc' := 57) dm_X2_copyOf_54 (g_get (v := .ref 7) (lu (n := 2) (j := 2) hn rfl) rfl rfl (Nat.le_of_ble_eq_true rfl)) rfl rfl rfl ?_
  refine me1 (pc' := 58) dm_X2_copyOf_57 rfl rfl rfl rfl ?_
  refine me3 (pc' := 59) dm_X2_copyOf_58 (g_lald (v := (0 : Int64)) (lu (n := 2) (j := 5) hn rfl) rfl (by decide) rfl (Nat.le_of_ble_eq_true rfl)) rfl rfl rfl ?_
  refine me3 (pc' := 60) dm_X2_copyOf_59 (g_last (le_ (n := 2) (u := 100) (v := 25) (j := 3) hn rfl hv rfl) (se (n := 2) (u := 100) (v := 25) (j := 3) hn rfl hv _) rfl (by decide) (Nat.le_of_ble_eq_true rfl)) rfl rfl rfl ?_
  refine me1 (pc' := 61) dm_X2_copyOf_60 rfl rfl rfl rfl ?_
  refine me3 (pc' := 64) dm_X2_copyOf_61 (g_get (v := .ref 131) (le_ (n := 2) (u := 100) (v := 25) (j := 0) hn rfl hv rfl) rfl rfl (Nat.le_of_ble_eq_true rfl)) rfl rfl rfl ?_
  refine me1 (pc' := 65) dm_X2_copyOf_64 rfl rfl rfl rfl ?_
  refine me1 (pc' := 66) dm_X2_copyOf_65 rfl rfl rfl rfl ?_
  refine me3 (pc' := 69) dm_X2_copyOf_66 (g_get (v := .ref 8) (lu (n := 2) (j := 2) hn rfl) rfl rfl (Nat.le_of_ble_eq_true rfl)) rfl rfl rfl ?_
  refine me1 (pc' := 70) dm_X2_copyOf_69 rfl rfl rfl rfl ?_
  refine me3 (pc' := 71) dm_X2_copyOf_70 (g_aald (v := .null) (lu (n := 2) (j := 6) hn rfl) rfl (by decide) rfl (Nat.le_of_ble_eq_true rfl)) rfl rfl rfl ?_
  refine me3 (pc' := 72) dm_X2_copyOf_71 (g_aastn (le_ (n := 2) (u := 100) (v := 25) (j := 4) hn rfl hv rfl) (se (n := 2) (u := 100) (v := 25) (j := 4) hn rfl hv _) rfl (by decide) (Nat.le_of_ble_eq_true rfl)) rfl rfl rfl ?_
  refine me1 (pc' := 75) (L' := [(2, .int (6 : Int32)), (0, .ref 127), (1, .ref 4)]) dm_X2_copyOf_72 rfl rfl rfl rfl ?_
  refine me2 (pc' := 18) dm_X2_copyOf_75 rfl rfl rfl ?_
  refine me1 (pc' := 19) dm_X2_copyOf_18 rfl rfl rfl rfl ?_
  refine me0 (pc' := 21) (S' := .int (40 : Int32) :: _) dm_X2_copyOf_19 rfl rfl rfl rfl ?_
  refine me_2f (pc' := 24) dm_X2_copyOf_21 rfl (by decide) rfl ?_
  refine me1 (pc' := 25) dm_X2_copyOf_24 rfl rfl rfl rfl ?_
  refine me3 (pc' := 28) dm_X2_copyOf_25 (g_get (v := .ref 128) (le_ (n := 2) (u := 100) (v := 25) (j := 0) hn rfl hv rfl) rfl rfl (Nat.le_of_ble_eq_true rfl)) rfl rfl rfl ?_
  refine me1 (pc' := 29) dm_X2_copyOf_28 rfl rfl rfl rfl ?_
  refine me1 (pc' := 30) dm_X2_copyOf_29 rfl rfl rfl rfl ?_
  refine me3 (pc' := 33) dm_X2_copyOf_30 (g_get (v := .ref 5) (lu (n := 2) (j := 2) hn rfl) rfl rfl (Nat.le_of_ble_eq_true rfl)) rfl rfl rfl ?_
  refine me1 (pc' := 34) dm_X2_copyOf_33 rfl rfl rfl rfl ?_
  refine me3 (pc' := 35) dm_X2_copyOf_34 (g_lald (v := (0 : Int64)) (lu (n := 2) (j := 3) hn rfl) rfl (by decide) rfl (Nat.le_of_ble_eq_true rfl)) rfl rfl rfl ?_
  refine me3 (pc' := 36) dm_X2_copyOf_35 (g_last (le_ (n := 2) (u := 100) (v := 25) (j := 1) hn rfl hv rfl) (se (n := 2) (u := 100) (v := 25) (j := 1) hn rfl hv _) rfl (by decide) (Nat.le_of_ble_eq_true rfl)) rfl rfl rfl ?_
  refine me1 (pc' := 37) dm_X2_copyOf_36 rfl rfl rfl rfl ?_
  refine me3 (pc' := 40) dm_X2_copyOf_37 (g_get (v := .ref 129) (le_ (n := 2) (u := 100) (v := 25) (j := 0) hn rfl hv rfl) rfl rfl (Nat.le_of_ble_eq_true rfl)) rfl rfl rfl ?_
  refine me1 (pc' := 41) dm_X2_copyOf_40 rfl rfl rfl rfl ?_
  refine me1 (pc' := 42) dm_X2_copyOf_41 rfl rfl rfl rfl ?_
  refine me3 (pc' := 45) dm_X2_copyOf_42 (g_get (v := .ref 6) (lu (n := 2) (j := 2) hn rfl) rfl rfl (Nat.le_of_ble_eq_true rfl)) rfl rfl rfl ?_
  refine me1 (pc' := 46) dm_X2_copyOf_45 rfl rfl rfl rfl ?_
  refine me3 (pc' := 47) dm_X2_copyOf_46 (g_aald (v := .null) (lu (n := 2) (j := 4) hn rfl) rfl (by decide) rfl (Nat.le_of_ble_eq_true rfl)) rfl rfl rfl ?_
  refine me3 (pc' := 48) dm_X2_copyOf_47 (g_aastn (le_ (n := 2) (u := 100) (v := 25) (j := 2) hn rfl hv rfl) (se (n := 2) (u := 100) (v := 25) (j := 2) hn rfl hv _) rfl (by decide) (Nat.le_of_ble_eq_true rfl)) rfl rfl rfl ?_
  refine me1 (pc' := 49) dm_X2_copyOf_48 rfl rfl rfl rfl ?_
  refine me3 (pc' := 52) dm_X2_copyOf_49 (g_get (v := .ref 130) (le_ (n := 2) (u := 100) (v := 25) (j := 0) hn rfl hv rfl) rfl rfl (Nat.le_of_ble_eq_true rfl)) rfl rfl rfl ?_
  refine me1 (pc' := 53) dm_X2_copyOf_52 rfl rfl rfl rfl ?_
  refine me1 (pc' := 54) dm_X2_copyOf_53 rfl rfl rfl rfl ?_
  refine me3 (pc' := 57) dm_X2_copyOf_54 (g_get (v := .ref 7) (lu (n := 2) (j := 2) hn rfl) rfl rfl (Nat.le_of_ble_eq_true rfl)) rfl rfl rfl ?_
  refine me1 (pc' := 58) dm_X2_copyOf_57 rfl rfl rfl rfl ?_
  refine me3 (pc' := 59) dm_X2_copyOf_58 (g_lald (v := (0 : Int64)) (lu (n := 2) (j := 5) hn rfl) rfl (by decide) rfl (Nat.le_of_ble_eq_true rfl)) rfl rfl rfl ?_
  refine me3 (pc' := 60) dm_X2_copyOf_59 (g_last (le_ (n := 2) (u := 100) (v := 25) (j := 3) hn rfl hv rfl) (se (n := 2) (u := 100) (v := 25) (j := 3) hn rfl hv _) rfl (by decide) (Nat.le_of_ble_eq_true rfl)) rfl rfl rfl ?_
  refine me1 (pc' := 61) dm_X2_copyOf_60 rfl rfl rfl rfl ?_
  refine me3 (pc' := 64) dm_X2_copyOf_61 (g_get (v := .ref 131) (le_ (n := 2) (u := 100) (v := 25) (j := 0) hn rfl hv rfl) rfl rfl (Nat.le_of_ble_eq_true rfl)) rfl rfl rfl ?_
  refine me1 (pc' := 65) dm_X2_copyOf_64 rfl rfl rfl rfl ?_
  refine me1 (pc' := 66) dm_X2_copyOf_65 rfl rfl rfl rfl ?_
  refine me3 (pc' := 69) dm_X2_copyOf_66 (g_get (v := .ref 8) (lu (n := 2) (j := 2) hn rfl) rfl rfl (Nat.le_of_ble_eq_true rfl)) rfl rfl rfl ?_
  refine me1 (pc' := 70) dm_X2_copyOf_69 rfl rfl rfl rfl ?_
  refine me3 (pc' := 71) dm_X2_copyOf_70 (g_aald (v := .null) (lu (n := 2) (j := 6) hn rfl) rfl (by decide) rfl (Nat.le_of_ble_eq_true rfl)) rfl rfl rfl ?_
  refine me3 (pc' := 72) dm_X2_copyOf_71 (g_aastn (le_ (n := 2) (u := 100) (v := 25) (j := 4) hn rfl hv rfl) (se (n := 2) (u := 100) (v := 25) (j := 4) hn rfl hv _) rfl (by decide) (Nat.le_of_ble_eq_true rfl)) rfl rfl rfl ?_
  refine me1 (pc' := 75) (L' := [(2, .int (7 : Int32)), (0, .ref 127), (1, .ref 4)]) dm_X2_copyOf_72 rfl rfl rfl rfl ?_
  refine me2 (pc' := 18) dm_X2_copyOf_75 rfl rfl rfl ?_
  refine me1 (pc' := 19) dm_X2_copyOf_18 rfl rfl rfl rfl ?_
  refine me0 (pc' := 21) (S' := .int (40 : Int32) :: _) dm_X2_copyOf_19 rfl rfl rfl rfl ?_
  refine me_2f (pc' := 24) dm_X2_copyOf_21 rfl (by decide) rfl ?_
  refine me1 (pc' := 25) dm_X2_copyOf_24 rfl rfl rfl rfl ?_
  refine me3 (pc' := 28) dm_X2_copyOf_25 (g_get (v := .ref 128) (le_ (n := 2) (u := 100) (v := 25) (j := 0) hn rfl hv rfl) rfl rfl (Nat.le_of_ble_eq_true rfl)) rfl rfl rfl ?_
  refine me1 (pc' := 29) dm_X2_copyOf_28 rfl rfl rfl rfl ?_
  refine me1 (pc' := 30) dm_X2_copyOf_29 rfl rfl rfl rfl ?_
  refine me3 (pc' := 33) dm_X2_copyOf_30 (g_get (v := .ref 5) (lu (n := 2) (j := 2) hn rfl) rfl rfl (Nat.le_of_ble_eq_true rfl)) rfl rfl rfl ?_
  refine me1 (pc' := 34) dm_X2_copyOf_33 rfl rfl rfl rfl ?_
  refine me3 (pc' := 35) dm_X2_copyOf_34 (g_lald (v := (0 : Int64)) (lu (n := 2) (j := 3) hn rfl) rfl (by decide) rfl (Nat.le_of_ble_eq_true rfl)) rfl rfl rfl ?_
  refine me3 (pc' := 36) dm_X2_copyOf_35 (g_last (le_ (n := 2) (u := 100) (v := 25) (j := 1) hn rfl hv rfl) (se (n := 2) (u := 100) (v := 25) (j := 1) hn rfl hv _) rfl (by decide) (Nat.le_of_ble_eq_true rfl)) rfl rfl rfl ?_
  refine me1 (pc' := 37) dm_X2_copyOf_36 rfl rfl rfl rfl ?_
  refine me3 (pc' := 40) dm_X2_copyOf_37 (g_get (v := .ref 129) (le_ (n := 2) (u := 100) (v := 25) (j := 0) hn rfl hv rfl) rfl rfl (Nat.le_of_ble_eq_true rfl)) rfl rfl rfl ?_
  refine me1 (pc' := 41) dm_X2_copyOf_40 rfl rfl rfl rfl ?_
  refine me1 (pc' := 42) dm_X2_copyOf_41 rfl rfl rfl rfl ?_
  refine me3 (pc' := 45) dm_X2_copyOf_42 (g_get (v := .ref 6) (lu (n := 2) (j := 2) hn rfl) rfl rfl (Nat.le_of_ble_eq_true rfl)) rfl rfl rfl ?_
  refine me1 (pc' := 46) dm_X2_copyOf_45 rfl rfl rfl rfl ?_
  refine me3 (pc' := 47) dm_X2_copyOf_46 (g_aald (v := .null) (lu (n := 2) (j := 4) hn rfl) rfl (by decide) rfl (Nat.le_of_ble_eq_true rfl)) rfl rfl rfl ?_
  refine me3 (pc' := 48) dm_X2_copyOf_47 (g_aastn (le_ (n := 2) (u := 100) (v := 25) (j := 2) hn rfl hv rfl) (se (n := 2) (u := 100) (v := 25) (j := 2) hn rfl hv _) rfl (by decide) (Nat.le_of_ble_eq_true rfl)) rfl rfl rfl ?_
  refine me1 (pc' := 49) dm_X2_copyOf_48 rfl rfl rfl rfl ?_
  refine me3 (pc' := 52) dm_X2_copyOf_49 (g_get (v := .ref 130) (le_ (n := 2) (u := 100) (v := 25) (j := 0) hn rfl hv rfl) rfl rfl (Nat.le_of_ble_eq_true rfl)) rfl rfl rfl ?_
  refine me1 (pc' := 53) dm_X2_copyOf_52 rfl rfl rfl rfl ?_
  refine me1 (pc' := 54) dm_X2_copyOf_53 rfl rfl rfl rfl ?_
  refine me3 (pc' := 57) dm_X2_copyOf_54 (g_get (v := .ref 7) (lu (n := 2) (j := 2) hn rfl) rfl rfl (Nat.le_of_ble_eq_true rfl)) rfl rfl rfl ?_
  refine me1 (pc' := 58) dm_X2_copyOf_57 rfl rfl rfl rfl ?_
  refine me3 (pc' := 59) dm_X2_copyOf_58 (g_lald (v := (0 : Int64)) (lu (n := 2) (j := 5) hn rfl) rfl (by decide) rfl (Nat.le_of_ble_eq_true rfl)) rfl rfl rfl ?_
  refine me3 (pc' := 60) dm_X2_copyOf_59 (g_last (le_ (n := 2) (u := 100) (v := 25) (j := 3) hn rfl hv rfl) (se (n := 2) (u := 100) (v := 25) (j := 3) hn rfl hv _) rfl (by decide) (Nat.le_of_ble_eq_true rfl)) rfl rfl rfl ?_
  refine me1 (pc' := 61) dm_X2_copyOf_60 rfl rfl rfl rfl ?_
  refine me3 (pc' := 64) dm_X2_copyOf_61 (g_get (v := .ref 131) (le_ (n := 2) (u := 100) (v := 25) (j := 0) hn rfl hv rfl) rfl rfl (Nat.le_of_ble_eq_true rfl)) rfl rfl rfl ?_
  refine me1 (pc' := 65) dm_X2_copyOf_64 rfl rfl rfl rfl ?_
  refine me1 (pc' := 66) dm_X2_copyOf_65 rfl rfl rfl rfl ?_
  refine me3 (pc' := 69) dm_X2_copyOf_66 (g_get (v := .ref 8) (lu (n := 2) (j := 2) hn rfl) rfl rfl (Nat.le_of_ble_eq_true rfl)) rfl rfl rfl ?_
  refine me1 (pc' := 70) dm_X2_copyOf_69 rfl rfl rfl rfl ?_
  refine me3 (pc' := 71) dm_X2_copyOf_70 (g_aald (v := .null) (lu (n := 2) (j := 6) hn rfl) rfl (by decide) rfl (Nat.le_of_ble_eq_true rfl)) rfl rfl rfl ?_
  refine me3 (pc' := 72) dm_X2_copyOf_71 (g_aastn (le_ (n := 2) (u := 100) (v := 25) (j := 4) hn rfl hv rfl) (se (n := 2) (u := 100) (v := 25) (j := 4) hn rfl hv _) rfl (by decide) (Nat.le_of_ble_eq_true rfl)) rfl rfl rfl ?_
  refine me1 (pc' := 75) (L' := [(2, .int (8 : Int32)), (0, .ref 127), (1, .ref 4)]) dm_X2_copyOf_72 rfl rfl rfl rfl ?_
  refine me2 (pc' := 18) dm_X2_copyOf_75 rfl rfl rfl ?_
  refine me1 (pc' := 19) dm_X2_copyOf_18 rfl rfl rfl rfl ?_
  refine me0 (pc' := 21) (S' := .int (40 : Int32) :: _) dm_X2_copyOf_19 rfl rfl rfl rfl ?_
  refine me_2f (pc' := 24) dm_X2_copyOf_21 rfl (by decide) rfl ?_
  refine me1 (pc' := 25) dm_X2_copyOf_24 rfl rfl rfl rfl ?_
  refine me3 (pc' := 28) dm_X2_copyOf_25 (g_get (v := .ref 128) (le_ (n := 2) (u := 100) (v := 25) (j := 0) hn rfl hv rfl) rfl rfl (Nat.le_of_ble_eq_true rfl)) rfl rfl rfl ?_
  refine me1 (pc' := 29) dm_X2_copyOf_28 rfl rfl rfl rfl ?_
  refine me1 (pc' := 30) dm_X2_copyOf_29 rfl rfl rfl rfl ?_
  refine me3 (pc' := 33) dm_X2_copyOf_30 (g_get (v := .ref 5) (lu (n := 2) (j := 2) hn rfl) rfl rfl (Nat.le_of_ble_eq_true rfl)) rfl rfl rfl ?_
  refine me1 (pc' := 34) dm_X2_copyOf_33 rfl rfl rfl rfl ?_
  refine me3 (pc' := 35) dm_X2_copyOf_34 (g_lald (v := (0 : Int64)) (lu (n := 2) (j := 3) hn rfl) rfl (by decide) rfl (Nat.le_of_ble_eq_true rfl)) rfl rfl rfl ?_
  refine me3 (pc' := 36) dm_X2_copyOf_35 (g_last (le_ (n := 2) (u := 100) (v := 25) (j := 1) hn rfl hv rfl) (se (n := 2) (u := 100) (v := 25) (j := 1) hn rfl hv _) rfl (by decide) (Nat.le_of_ble_eq_true rfl)) rfl rfl rfl ?_
  refine me1 (pc' := 37) dm_X2_copyOf_36 rfl rfl rfl rfl ?_
  refine me3 (pc' := 40) dm_X2_copyOf_37 (g_get (v := .ref 129) (le_ (n := 2) (u := 100) (v := 25) (j := 0) hn rfl hv rfl) rfl rfl (Nat.le_of_ble_eq_true rfl)) rfl rfl rfl ?_
  refine me1 (pc' := 41) dm_X2_copyOf_40 rfl rfl rfl rfl ?_
  refine me1 (pc' := 42) dm_X2_copyOf_41 rfl rfl rfl rfl ?_
  refine me3 (pc' := 45) dm_X2_copyOf_42 (g_get (v := .ref 6) (lu (n := 2) (j := 2) hn rfl) rfl rfl (Nat.le_of_ble_eq_true rfl)) rfl rfl rfl ?_
  refine me1 (pc' := 46) dm_X2_copyOf_45 rfl rfl rfl rfl ?_
  refine me3 (pc' := 47) dm_X2_copyOf_46 (g_aald (v := .null) (lu (n := 2) (j := 4) hn rfl) rfl (by decide) rfl (Nat.le_of_ble_eq_true rfl)) rfl rfl rfl ?_
  refine me3 (pc' := 48) dm_X2_copyOf_47 (g_aastn (le_ (n := 2) (u := 100) (v := 25) (j := 2) hn rfl hv rfl) (se (n := 2) (u := 100) (v := 25) (j := 2) hn rfl hv _) rfl (by decide) (Nat.le_of_ble_eq_true rfl)) rfl rfl rfl ?_
  refine me1 (pc' := 49) dm_X2_copyOf_48 rfl rfl rfl rfl ?_
  refine me3 (pc' := 52) dm_X2_copyOf_49 (g_get (v := .ref 130) (le_ (n := 2) (u := 100) (v := 25) (j := 0) hn rfl hv rfl) rfl rfl (Nat.le_of_ble_eq_true rfl)) rfl rfl rfl ?_
  refine me1 (pc' := 53) dm_X2_copyOf_52 rfl rfl rfl rfl ?_
  refine me1 (pc' := 54) dm_X2_copyOf_53 rfl rfl rfl rfl ?_
  refine me3 (pc' := 57) dm_X2_copyOf_54 (g_get (v := .ref 7) (lu (n := 2) (j := 2) hn rfl) rfl rfl (Nat.le_of_ble_eq_true rfl)) rfl rfl rfl ?_
  refine me1 (pc' := 58) dm_X2_copyOf_57 rfl rfl rfl rfl ?_
  refine me3 (pc' := 59) dm_X2_copyOf_58 (g_lald (v := (0 : Int64)) (lu (n := 2) (j := 5) hn rfl) rfl (by decide) rfl (Nat.le_of_ble_eq_true rfl)) rfl rfl rfl ?_
  refine me3 (pc' := 60) dm_X2_copyOf_59 (g_last (le_ (n := 2) (u := 100) (v := 25) (j := 3) hn rfl hv rfl) (se (n := 2) (u := 100) (v := 25) (j := 3) hn rfl hv _) rfl (by decide) (Nat.le_of_ble_eq_true rfl)) rfl rfl rfl ?_
  refine me1 (pc' := 61) dm_X2_copyOf_60 rfl rfl rfl rfl ?_
  refine me3 (pc' := 64) dm_X2_copyOf_61 (g_get (v := .ref 131) (le_ (n := 2) (u := 100) (v := 25) (j := 0) hn rfl hv rfl) rfl rfl (Nat.le_of_ble_eq_true rfl)) rfl rfl rfl ?_
  refine me1 (pc' := 65) dm_X2_copyOf_64 rfl rfl rfl rfl ?_
  refine me1 (pc' := 66) dm_X2_copyOf_65 rfl rfl rfl rfl ?_
  refine me3 (pc' := 69) dm_X2_copyOf_66 (g_get (v := .ref 8) (lu (n := 2) (j := 2) hn rfl) rfl rfl (Nat.le_of_ble_eq_true rfl)) rfl rfl rfl ?_
  refine me1 (pc' := 70) dm_X2_copyOf_69 rfl rfl rfl rfl ?_
  refine me3 (pc' := 71) dm_X2_copyOf_70 (g_aald (v := .null) (lu (n := 2) (j := 6) hn rfl) rfl (by decide) rfl (Nat.le_of_ble_eq_true rfl)) rfl rfl rfl ?_
  refine me3 (pc' := 72) dm_X2_copyOf_71 (g_aastn (le_ (n := 2) (u := 100) (v := 25) (j := 4) hn rfl hv rfl) (se (n := 2) (u := 100) (v := 25) (j := 4) hn rfl hv _) rfl (by decide) (Nat.le_of_ble_eq_true rfl)) rfl rfl rfl ?_
  refine me1 (pc' := 75) (L' := [(2, .int (9 : Int32)), (0, .ref 127), (1, .ref 4)]) dm_X2_copyOf_72 rfl rfl rfl rfl ?_
  refine me2 (pc' := 18) dm_X2_copyOf_75 rfl rfl rfl ?_
  refine me1 (pc' := 19) dm_X2_copyOf_18 rfl rfl rfl rfl ?_
  refine me0 (pc' := 21) (S' := .int (40 : Int32) :: _) dm_X2_copyOf_19 rfl rfl rfl rfl ?_
  refine me_2f (pc' := 24) dm_X2_copyOf_21 rfl (by decide) rfl ?_
  refine me1 (pc' := 25) dm_X2_copyOf_24 rfl rfl rfl rfl ?_
  refine me3 (pc' := 28) dm_X2_copyOf_25 (g_get (v := .ref 128) (le_ (n := 2) (u := 100) (v := 25) (j := 0) hn rfl hv rfl) rfl rfl (Nat.le_of_ble_eq_true rfl)) rfl rfl rfl ?_
  refine me1 (pc' := 29) dm_X2_copyOf_28 rfl rfl rfl rfl ?_
  refine me1 (pc' := 30) dm_X2_copyOf_29 rfl rfl rfl rfl ?_
  refine me3 (pc' := 33) dm_X2_copyOf_30 (g_get (v := .ref 5) (lu (n := 2) (j := 2) hn rfl) rfl rfl (Nat.le_of_ble_eq_true rfl)) rfl rfl rfl ?_
  refine me1 (pc' := 34) dm_X2_copyOf_33 rfl rfl rfl rfl ?_
  refine me3 (pc' := 35) dm_X2_copyOf_34 (g_lald (v := (0 : Int64)) (lu (n := 2) (j := 3) hn rfl) rfl (by decide) rfl (Nat.le_of_ble_eq_true rfl)) rfl rfl rfl ?_
  refine me3 (pc' := 36) dm_X2_copyOf_35 (g_last (le_ (n := 2) (u := 100) (v := 25) (j := 1) hn rfl hv rfl) (se (n := 2) (u := 100) (v := 25) (j := 1) hn rfl hv _) rfl (by decide) (Nat.le_of_ble_eq_true rfl)) rfl rfl rfl ?_
  refine me1 (pc' := 37) dm_X2_copyOf_36 rfl rfl rfl rfl ?_
  refine me3 (pc' := 40) dm_X2_copyOf_37 (g_get (v := .ref 129) (le_ (n := 2) (u := 100) (v := 25) (j := 0) hn rfl hv rfl) rfl rfl (Nat.le_of_ble_eq_true rfl)) rfl rfl rfl ?_
  refine me1 (pc' := 41) dm_X2_copyOf_40 rfl rfl rfl rfl ?_
  refine me1 (pc' := 42) dm_X2_copyOf_41 rfl rfl rfl rfl ?_
  refine me3 (pc' := 45) dm_X2_copyOf_42 (g_get (v := .ref 6) (lu (n := 2) (j := 2) hn rfl) rfl rfl (Nat.le_of_ble_eq_true rfl)) rfl rfl rfl ?_
  refine me1 (pc' := 46) dm_X2_copyOf_45 rfl rfl rfl rfl ?_
  refine me3 (pc' := 47) dm_X2_copyOf_46 (g_aald (v := .null) (lu (n := 2) (j := 4) hn rfl) rfl (by decide) rfl (Nat.le_of_ble_eq_true rfl)) rfl rfl rfl ?_
  refine me3 (pc' := 48) dm_X2_copyOf_47 (g_aastn (le_ (n := 2) (u := 100) (v := 25) (j := 2) hn rfl hv rfl) (se (n := 2) (u := 100) (v := 25) (j := 2) hn rfl hv _) rfl (by decide) (Nat.le_of_ble_eq_true rfl)) rfl rfl rfl ?_
  refine me1 (pc' := 49) dm_X2_copyOf_48 rfl rfl rfl rfl ?_
  refine me3 (pc' := 52) dm_X2_copyOf_49 (g_get (v := .ref 130) (le_ (n := 2) (u := 100) (v := 25) (j := 0) hn rfl hv rfl) rfl rfl (Nat.le_of_ble_eq_true rfl)) rfl rfl rfl ?_
  refine me1 (pc' := 53) dm_X2_copyOf_52 rfl rfl rfl rfl ?_
  refine me1 (pc' := 54) dm_X2_copyOf_53 rfl rfl rfl rfl ?_
  refine me3 (pc' := 57) dm_X2_copyOf_54 (g_get (v := .ref 7) (lu (n := 2) (j := 2) hn rfl) rfl rfl (Nat.le_of_ble_eq_true rfl)) rfl rfl rfl ?_
  refine me1 (pc' := 58) dm_X2_copyOf_57 rfl rfl rfl rfl ?_
  refine me3 (pc' := 59) dm_X2_copyOf_58 (g_lald (v := (0 : Int64)) (lu (n := 2) (j := 5) hn rfl) rfl (by decide) rfl (Nat.le_of_ble_eq_true rfl)) rfl rfl rfl ?_
  refine me3 (pc' := 60) dm_X2_copyOf_59 (g_last (le_ (n := 2) (u := 100) (v := 25) (j := 3) hn rfl hv rfl) (se (n := 2) (u := 100) (v := 25) (j := 3) hn rfl hv _) rfl (by decide) (Nat.le_of_ble_eq_true rfl)) rfl rfl rfl ?_
  refine me1 (pc' := 61) dm_X2_copyOf_60 rfl rfl rfl rfl ?_
  refine me3 (pc' := 64) dm_X2_copyOf_61 (g_get (v := .ref 131) (le_ (n := 2) (u := 100) (v := 25) (j := 0) hn rfl hv rfl) rfl rfl (Nat.le_of_ble_eq_true rfl)) rfl rfl rfl ?_
  refine me1 (pc' := 65) dm_X2_copyOf_64 rfl rfl rfl rfl ?_
  refine me1 (pc' := 66) dm_X2_copyOf_65 rfl rfl rfl rfl ?_
  refine me3 (pc' := 69) dm_X2_copyOf_66 (g_get (v := .ref 8) (lu (n := 2) (j := 2) hn rfl) rfl rfl (Nat.le_of_ble_eq_true rfl)) rfl rfl rfl ?_
  refine me1 (pc' := 70) dm_X2_copyOf_69 rfl rfl rfl rfl ?_
  refine me3 (pc' := 71) dm_X2_copyOf_70 (g_aald (v := .null) (lu (n := 2) (j := 6) hn rfl) rfl (by decide) rfl (Nat.le_of_ble_eq_true rfl)) rfl rfl rfl ?_
  refine me3 (pc' := 72) dm_X2_copyOf_71 (g_aastn (le_ (n := 2) (u := 100) (v := 25) (j := 4) hn rfl hv rfl) (se (n := 2) (u := 100) (v := 25) (j := 4) hn rfl hv _) rfl (by decide) (Nat.le_of_ble_eq_true rfl)) rfl rfl rfl ?_
  refine me1 (pc' := 75) (L' := [(2, .int (10 : Int32)), (0, .ref 127), (1, .ref 4)]) dm_X2_copyOf_72 rfl rfl rfl rfl ?_
  refine me2 (pc' := 18) dm_X2_copyOf_75 rfl rfl rfl ?_
  refine me1 (pc' := 19) dm_X2_copyOf_18 rfl rfl rfl rfl ?_
  refine me0 (pc' := 21) (S' := .int (40 : Int32) :: _) dm_X2_copyOf_19 rfl rfl rfl rfl ?_
  refine me_2f (pc' := 24) dm_X2_copyOf_21 rfl (by decide) rfl ?_
  refine me1 (pc' := 25) dm_X2_copyOf_24 rfl rfl rfl rfl ?_
  refine me3 (pc' := 28) dm_X2_copyOf_25 (g_get (v := .ref 128) (le_ (n := 2) (u := 100) (v := 25) (j := 0) hn rfl hv rfl) rfl rfl (Nat.le_of_ble_eq_true rfl)) rfl rfl rfl ?_
  refine me1 (pc' := 29) dm_X2_copyOf_28 rfl rfl rfl rfl ?_
  refine me1 (pc' := 30) dm_X2_copyOf_29 rfl rfl rfl rfl ?_
  refine me3 (pc' := 33) dm_X2_copyOf_30 (g_get (v := .ref 5) (lu (n := 2) (j := 2) hn rfl) rfl rfl (Nat.le_of_ble_eq_true rfl)) rfl rfl rfl ?_
  refine me1 (pc' := 34) dm_X2_copyOf_33 rfl rfl rfl rfl ?_
  refine me3 (pc' := 35) dm_X2_copyOf_34 (g_lald (v := (0 : Int64)) (lu (n := 2) (j := 3) hn rfl) rfl (by decide) rfl (Nat.le_of_ble_eq_true rfl)) rfl rfl rfl ?_
  refine me3 (pc' := 36) dm_X2_copyOf_35 (g_last (le_ (n := 2) (u := 100) (v := 25) (j := 1) hn rfl hv rfl) (se (n := 2) (u := 100) (v := 25) (j := 1) hn rfl hv _) rfl (by decide) (Nat.le_of_ble_eq_true rfl)) rfl rfl rfl ?_
  refine me1 (pc' := 37) dm_X2_copyOf_36 rfl rfl rfl rfl ?_
  refine me3 (pc' := 40) dm_X2_copyOf_37 (g_get (v := .ref 129) (le_ (n := 2) (u := 100) (v := 25) (j := 0) hn rfl hv rfl) rfl rfl (Nat.le_of_ble_eq_true rfl)) rfl rfl rfl ?_
  refine me1 (pc' := 41) dm_X2_copyOf_40 rfl rfl rfl rfl ?_
  refine me1 (pc' := 42) dm_X2_copyOf_41 rfl rfl rfl rfl ?_
  refine me3 (pc' := 45) dm_X2_copyOf_42 (g_get (v := .ref 6) (lu (n := 2) (j := 2) hn rfl) rfl rfl (Nat.le_of_ble_eq_true rfl)) rfl rfl rfl ?_
  refine me1 (pc' := 46) dm_X2_copyOf_45 rfl rfl rfl rfl ?_
  refine me3 (pc' := 47) dm_X2_copyOf_46 (g_aald (v := .null) (lu (n := 2) (j := 4) hn rfl) rfl (by decide) rfl (Nat.le_of_ble_eq_true rfl)) rfl rfl rfl ?_
  refine me3 (pc' := 48) dm_X2_copyOf_47 (g_aastn (le_ (n := 2) (u := 100) (v := 25) (j := 2) hn rfl hv rfl) (se (n := 2) (u := 100) (v := 25) (j := 2) hn rfl hv _) rfl (by decide) (Nat.le_of_ble_eq_true rfl)) rfl rfl rfl ?_
  refine me1 (pc' := 49) dm_X2_copyOf_48 rfl rfl rfl rfl ?_
  refine me3 (pc' := 52) dm_X2_copyOf_49 (g_get (v := .ref 130) (le_ (n := 2) (u := 100) (v := 25) (j := 0) hn rfl hv rfl) rfl rfl (Nat.le_of_ble_eq_true rfl)) rfl rfl rfl ?_
  refine me1 (pc' := 53) dm_X2_copyOf_52 rfl rfl rfl rfl ?_
  refine me1 (pc' := 54) dm_X2_copyOf_53 rfl rfl rfl rfl ?_
  refine me3 (pc' := 57) dm_X2_copyOf_54 (g_get (v := .ref 7) (lu (n := 2) (j := 2) hn rfl) rfl rfl (Nat.le_of_ble_eq_true rfl)) rfl rfl rfl ?_
  refine me1 (pc' := 58) dm_X2_copyOf_57 rfl rfl rfl rfl ?_
  refine me3 (pc' := 59) dm_X2_copyOf_58 (g_lald (v := (0 : Int64)) (lu (n := 2) (j := 5) hn rfl) rfl (by decide) rfl (Nat.le_of_ble_eq_true rfl)) rfl rfl rfl ?_
  refine me3 (pc' := 60) dm_X2_copyOf_59 (g_last (le_ (n := 2) (u := 100) (v := 25) (j := 3) hn rfl hv rfl) (se (n := 2) (u := 100) (v := 25) (j := 3) hn rfl hv _) rfl (by decide) (Nat.le_of_ble_eq_true rfl)) rfl rfl rfl ?_
  refine me1 (pc' := 61) dm_X2_copyOf_60 rfl rfl rfl rfl ?_
  refine me3 (pc' := 64) dm_X2_copyOf_61 (g_get (v := .ref 131) (le_ (n := 2) (u := 100) (v := 25) (j := 0) hn rfl hv rfl) rfl rfl (Nat.le_of_ble_eq_true rfl)) rfl rfl rfl ?_
  refine me1 (pc' := 65) dm_X2_copyOf_64 rfl rfl rfl rfl ?_
  refine me1 (pc' := 66) dm_X2_copyOf_65 rfl rfl rfl rfl ?_
  refine me3 (pc' := 69) dm_X2_copyOf_66 (g_get (v := .ref 8) (lu (n := 2) (j := 2) hn rfl) rfl rfl (Nat.le_of_ble_eq_true rfl)) rfl rfl rfl ?_
  refine me1 (pc' := 70) dm_X2_copyOf_69 rfl rfl rfl rfl ?_
  refine me3 (pc' := 71) dm_X2_copyOf_70 (g_aald (v := .null) (lu (n := 2) (j := 6) hn rfl) rfl (by decide) rfl (Nat.le_of_ble_eq_true rfl)) rfl rfl rfl ?_
  refine me3 (pc' := 72) dm_X2_copyOf_71 (g_aastn (le_ (n := 2) (u := 100) (v := 25) (j := 4) hn rfl hv rfl) (se (n := 2) (u := 100) (v := 25) (j := 4) hn rfl hv _) rfl (by decide) (Nat.le_of_ble_eq_true rfl)) rfl rfl rfl ?_
  refine me1 (pc' := 75) (L' := [(2, .int (11 : Int32)), (0, .ref 127), (1, .ref 4)]) dm_X2_copyOf_72 rfl rfl rfl rfl ?_
  refine me2 (pc' := 18) dm_X2_copyOf_75 rfl rfl rfl ?_
  refine me1 (pc' := 19) dm_X2_copyOf_18 rfl rfl rfl rfl ?_
  refine me0 (pc' := 21) (S' := .int (40 : Int32) :: _) dm_X2_copyOf_19 rfl rfl rfl rfl ?_
  refine me_2f (pc' := 24) dm_X2_copyOf_21 rfl (by decide) rfl ?_
  refine me1 (pc' := 25) dm_X2_copyOf_24 rfl rfl rfl rfl ?_
  refine me3 (pc' := 28) dm_X2_copyOf_25 (g_get (v := .ref 128) (le_ (n := 2) (u := 100) (v := 25) (j := 0) hn rfl hv rfl) rfl rfl (Nat.le_of_ble_eq_true rfl)) rfl rfl rfl ?_
  refine me1 (pc' := 29) dm_X2_copyOf_28 rfl rfl rfl rfl ?_
  refine me1 (pc' := 30) dm_X2_copyOf_29 rfl rfl rfl rfl ?_
  refine me3 (pc' := 33) dm_X2_copyOf_30 (g_get (v := .ref 5) (lu (n := 2) (j := 2) hn rfl) rfl rfl (Nat.le_of_ble_eq_true rfl)) rfl rfl rfl ?_
  refine me1 (pc' := 34) dm_X2_copyOf_33 rfl rfl rfl rfl ?_
  refine me3 (pc' := 35) dm_X2_copyOf_34 (g_lald (v := (0 : Int64)) (lu (n := 2) (j := 3) hn rfl) rfl (by decide) rfl (Nat.le_of_ble_eq_true rfl)) rfl rfl rfl ?_
  refine me3 (pc' := 36) dm_X2_copyOf_35 (g_last (le_ (n := 2) (u := 100) (v := 25) (j := 1) hn rfl hv rfl) (se (n := 2) (u := 100) (v := 25) (j := 1) hn rfl hv _) rfl (by decide) (Nat.le_of_ble_eq_true rfl)) rfl rfl rfl ?_
  refine me1 (pc' := 37) dm_X2_copyOf_36 rfl rfl rfl rfl ?_
  refine me3 (pc' := 40) dm_X2_copyOf_37 (g_get (v := .ref 129) (le_ (n := 2) (u := 100) (v := 25) (j := 0) hn rfl hv rfl) rfl rfl (Nat.le_of_ble_eq_true rfl)) rfl rfl rfl ?_
  refine me1 (pc' := 41) dm_X2_copyOf_40 rfl rfl rfl rfl ?_
  refine me1 (pc' := 42) dm_X2_copyOf_41 rfl rfl rfl rfl ?_
  refine me3 (pc' := 45) dm_X2_copyOf_42 (g_get (v := .ref 6) (lu (n := 2) (j := 2) hn rfl) rfl rfl (Nat.le_of_ble_eq_true rfl)) rfl rfl rfl ?_
  refine me1 (pc' := 46) dm_X2_copyOf_45 rfl rfl rfl rfl ?_
  refine me3 (pc' := 47) dm_X2_copyOf_46 (g_aald (v := .null) (lu (n := 2) (j := 4) hn rfl) rfl (by decide) rfl (Nat.le_of_ble_eq_true rfl)) rfl rfl rfl ?_
  refine me3 (pc' := 48) dm_X2_copyOf_47 (g_aastn (le_ (n := 2) (u := 100) (v := 25) (j := 2) hn rfl hv rfl) (se (n := 2) (u := 100) (v := 25) (j := 2) hn rfl hv _) rfl (by decide) (Nat.le_of_ble_eq_true rfl)) rfl rfl rfl ?_
  refine me1 (pc' := 49) dm_X2_copyOf_48 rfl rfl rfl rfl ?_
  refine me3 (pc' := 52) dm_X2_copyOf_49 (g_get (v := .ref 130) (le_ (n := 2) (u := 100) (v := 25) (j := 0) hn rfl hv rfl) rfl rfl (Nat.le_of_ble_eq_true rfl)) rfl rfl rfl ?_
  refine me1 (pc' := 53) dm_X2_copyOf_52 rfl rfl rfl rfl ?_
  refine me1 (pc' := 54) dm_X2_copyOf_53 rfl rfl rfl rfl ?_
  refine me3 (pc' := 57) dm_X2_copyOf_54 (g_get (v := .ref 7) (lu (n := 2) (j := 2) hn rfl) rfl rfl (Nat.le_of_ble_eq_true rfl)) rfl rfl rfl ?_
  refine me1 (pc' := 58) dm_X2_copyOf_57 rfl rfl rfl rfl ?_
  refine me3 (pc' := 59) dm_X2_copyOf_58 (g_lald (v := (0 : Int64)) (lu (n := 2) (j := 5) hn rfl) rfl (by decide) rfl (Nat.le_of_ble_eq_true rfl)) rfl rfl rfl ?_
  refine me3 (pc' := 60) dm_X2_copyOf_59 (g_last (le_ (n := 2) (u := 100) (v := 25) (j := 3) hn rfl hv rfl) (se (n := 2) (u := 100) (v := 25) (j := 3) hn rfl hv _) rfl (by decide) (Nat.le_of_ble_eq_true rfl)) rfl rfl rfl ?_
  refine me1 (pc' := 61) dm_X2_copyOf_60 rfl rfl rfl rfl ?_
  refine me3 (pc' := 64) dm_X2_copyOf_61 (g_get (v := .ref 131) (le_ (n := 2) (u := 100) (v := 25) (j := 0) hn rfl hv rfl) rfl rfl (Nat.le_of_ble_eq_true rfl)) rfl rfl rfl ?_
  refine me1 (pc' := 65) dm_X2_copyOf_64 rfl rfl rfl rfl ?_
  refine me1 (pc' := 66) dm_X2_copyOf_65 rfl rfl rfl rfl ?_
  refine me3 (pc' := 69) dm_X2_copyOf_66 (g_get (v := .ref 8) (lu (n := 2) (j := 2) hn rfl) rfl rfl (Nat.le_of_ble_eq_true rfl)) rfl rfl rfl ?_
  refine me1 (pc' := 70) dm_X2_copyOf_69 rfl rfl rfl rfl ?_
  refine me3 (pc' := 71) dm_X2_copyOf_70 (g_aald (v := .null) (lu (n := 2) (j := 6) hn rfl) rfl (by decide) rfl (Nat.le_of_ble_eq_true rfl)) rfl rfl rfl ?_
  refine me3 (pc' := 72) dm_X2_copyOf_71 (g_aastn (le_ (n := 2) (u := 100) (v := 25) (j := 4) hn rfl hv rfl) (se (n := 2) (u := 100) (v := 25) (j := 4) hn rfl hv _) rfl (by decide) (Nat.le_of_ble_eq_true rfl)) rfl rfl rfl ?_
  refine me1 (pc' := 75) (L' := [(2, .int (12 : Int32)), (0, .ref 127), (1, .ref 4)]) dm_X2_copyOf_72 rfl rfl rfl rfl ?_
  refine me2 (pc' := 18) dm_X2_copyOf_75 rfl rfl rfl ?_
  refine me1 (pc' := 19) dm_X2_copyOf_18 rfl rfl rfl rfl ?_
  refine me0 (pc' := 21) (S' := .int (40 : Int32) :: _) dm_X2_copyOf_19 rfl rfl rfl rfl ?_
  refine me_2f (pc' := 24) dm_X2_copyOf_21 rfl (by decide) rfl ?_
  refine me1 (pc' := 25) dm_X2_copyOf_24 rfl rfl rfl rfl ?_
  refine me3 (pc' := 28) dm_X2_copyOf_25 (g_get (v := .ref 128) (le_ (n := 2) (u := 100) (v := 25) (j := 0) hn rfl hv rfl) rfl rfl (Nat.le_of_ble_eq_true rfl)) rfl rfl rfl ?_
  refine me1 (pc' := 29) dm_X2_copyOf_28 rfl rfl rfl rfl ?_
  refine me1 (pc' := 30) dm_X2_copyOf_29 rfl rfl rfl rfl ?_
  refine me3 (pc' := 33) dm_X2_copyOf_30 (g_get (v := .ref 5) (lu (n := 2) (j := 2) hn rfl) rfl rfl (Nat.le_of_ble_eq_true rfl)) rfl rfl rfl ?_
  refine me1 (pc' := 34) dm_X2_copyOf_33 rfl rfl rfl rfl ?_
  refine me3 (pc' := 35) dm_X2_copyOf_34 (g_lald (v := (0 : Int64)) (lu (n := 2) (j := 3) hn rfl) rfl (by decide) rfl (Nat.le_of_ble_eq_true rfl)) rfl rfl rfl ?_
  refine me3 (pc' := 36) dm_X2_copyOf_35 (g_last (le_ (n := 2) (u := 100) (v := 25) (j := 1) hn rfl hv rfl) (se (n := 2) (u := 100) (v := 25) (j := 1) hn rfl hv _) rfl (by decide) (Nat.le_of_ble_eq_true rfl)) rfl rfl rfl ?_
  refine me1 (pc' := 37) dm_X2_copyOf_36 rfl rfl rfl rfl ?_
  refine me3 (pc' := 40) dm_X2_copyOf_37 (g_get (v := .ref 129) (le_ (n := 2) (u := 100) (v := 25) (j := 0) hn rfl hv rfl) rfl rfl (Nat.le_of_ble_eq_true rfl)) rfl rfl rfl ?_
  refine me1 (pc' := 41) dm_X2_copyOf_40 rfl rfl rfl rfl ?_
  refine me1 (pc' := 42) dm_X2_copyOf_41 rfl rfl rfl rfl ?_
  refine me3 (pc' := 45) dm_X2_copyOf_42 (g_get (v := .ref 6) (lu (n := 2) (j := 2) hn rfl) rfl rfl (Nat.le_of_ble_eq_true rfl)) rfl rfl rfl ?_
  refine me1 (pc' := 46) dm_X2_copyOf_45 rfl rfl rfl rfl ?_
  refine me3 (pc' := 47) dm_X2_copyOf_46 (g_aald (v := .null) (lu (n := 2) (j := 4) hn rfl) rfl (by decide) rfl (Nat.le_of_ble_eq_true rfl)) rfl rfl rfl ?_
  refine me3 (pc' := 48) dm_X2_copyOf_47 (g_aastn (le_ (n := 2) (u := 100) (v := 25) (j := 2) hn rfl hv rfl) (se (n := 2) (u := 100) (v := 25) (j := 2) hn rfl hv _) rfl (by decide) (Nat.le_of_ble_eq_true rfl)) rfl rfl rfl ?_
  refine me1 (pc' := 49) dm_X2_copyOf_48 rfl rfl rfl rfl ?_
  refine me3 (pc' := 52) dm_X2_copyOf_49 (g_get (v := .ref 130) (le_ (n := 2) (u := 100) (v := 25) (j := 0) hn rfl hv rfl) rfl rfl (Nat.le_of_ble_eq_true rfl)) rfl rfl rfl ?_
  refine me1 (pc' := 53) dm_X2_copyOf_52 rfl rfl rfl rfl ?_
  refine me1 (pc' := 54) dm_X2_copyOf_53 rfl rfl rfl rfl ?_
  refine me3 (pc' := 57) dm_X2_copyOf_54 (g_get (v := .ref 7) (lu (n := 2) (j := 2) hn rfl) rfl rfl (Nat.le_of_ble_eq_true rfl)) rfl rfl rfl ?_
  refine me1 (pc' := 58) dm_X2_copyOf_57 rfl rfl rfl rfl ?_
  refine me3 (pc' := 59) dm_X2_copyOf_58 (g_lald (v := (0 : Int64)) (lu (n := 2) (j := 5) hn rfl) rfl (by decide) rfl (Nat.le_of_ble_eq_true rfl)) rfl rfl rfl ?_
  refine me3 (pc' := 60) dm_X2_copyOf_59 (g_last (le_ (n := 2) (u := 100) (v := 25) (j := 3) hn rfl hv rfl) (se (n := 2) (u := 100) (v := 25) (j := 3) hn rfl hv _) rfl (by decide) (Nat.le_of_ble_eq_true rfl)) rfl rfl rfl ?_
  refine me1 (pc' := 61) dm_X2_copyOf_60 rfl rfl rfl rfl ?_
  refine me3 (pc' := 64) dm_X2_copyOf_61 (g_get (v := .ref 131) (le_ (n := 2) (u := 100) (v := 25) (j := 0) hn rfl hv rfl) rfl rfl (Nat.le_of_ble_eq_true rfl)) rfl rfl rfl ?_
  refine me1 (pc' := 65) dm_X2_copyOf_64 rfl rfl rfl rfl ?_
  refine me1 (pc' := 66) dm_X2_copyOf_65 rfl rfl rfl rfl ?_
  refine me3 (pc' := 69) dm_X2_copyOf_66 (g_get (v := .ref 8) (lu (n := 2) (j := 2) hn rfl) rfl rfl (Nat.le_of_ble_eq_true rfl)) rfl rfl rfl ?_
  refine me1 (pc' := 70) dm_X2_copyOf_69 rfl rfl rfl rfl ?_
  refine me3 (pc' := 71) dm_X2_copyOf_70 (g_aald (v := .null) (lu (n := 2) (j := 6) hn rfl) rfl (by decide) rfl (Nat.le_of_ble_eq_true rfl)) rfl rfl rfl ?_
  refine me3 (pc' := 72) dm_X2_copyOf_71 (g_aastn (le_ (n := 2) (u := 100) (v := 25) (j := 4) hn rfl hv rfl) (se (n := 2) (u := 100) (v := 25) (j := 4) hn rfl hv _) rfl (by decide) (Nat.le_of_ble_eq_true rfl)) rfl rfl rfl ?_
  refine me1 (pc' := 75) (L' := [(2, .int (13 : Int32)), (0, .ref 127), (1, .ref 4)]) dm_X2_copyOf_72 rfl rfl rfl rfl ?_
  refine me2 (pc' := 18) dm_X2_copyOf_75 rfl rfl rfl ?_
  refine me1 (pc' := 19) dm_X2_copyOf_18 rfl rfl rfl rfl ?_
  refine me0 (pc' := 21) (S' := .int (40 : Int32) :: _) dm_X2_copyOf_19 rfl rfl rfl rfl ?_
  refine me_2f (pc' := 24) dm_X2_copyOf_21 rfl (by decide) rfl ?_
  refine me1 (pc' := 25) dm_X2_copyOf_24 rfl rfl rfl rfl ?_
  refine me3 (pc' := 28) dm_X2_copyOf_25 (g_get (v := .ref 128) (le_ (n := 2) (u := 100) (v := 25) (j := 0) hn rfl hv rfl) rfl rfl (Nat.le_of_ble_eq_true rfl)) rfl rfl rfl ?_
  refine me1 (pc' := 29) dm_X2_copyOf_28 rfl rfl rfl rfl ?_
  refine me1 (pc' := 30) dm_X2_copyOf_29 rfl rfl rfl rfl ?_
  refine me3 (pc' := 33) dm_X2_copyOf_30 (g_get (v := .ref 5) (lu (n := 2) (j := 2) hn rfl) rfl rfl (Nat.le_of_ble_eq_true rfl)) rfl rfl rfl ?_
  refine me1 (pc' := 34) dm_X2_copyOf_33 rfl rfl rfl rfl ?_
  refine me3 (pc' := 35) dm_X2_copyOf_34 (g_lald (v := (0 : Int64)) (lu (n := 2) (j := 3) hn rfl) rfl (by decide) rfl (Nat.le_of_ble_eq_true rfl)) rfl rfl rfl ?_
  refine me3 (pc' := 36) dm_X2_copyOf_35 (g_last (le_ (n := 2) (u := 100) (v := 25) (j := 1) hn rfl hv rfl) (se (n := 2) (u := 100) (v := 25) (j := 1) hn rfl hv _) rfl (by decide) (Nat.le_of_ble_eq_true rfl)) rfl rfl rfl ?_
  refine me1 (pc' := 37) dm_X2_copyOf_36 rfl rfl rfl rfl ?_
  refine me3 (pc' := 40) dm_X2_copyOf_37 (g_get (v := .ref 129) (le_ (n := 2) (u := 100) (v := 25) (j := 0) hn rfl hv rfl) rfl rfl (Nat.le_of_ble_eq_true rfl)) rfl rfl rfl ?_
  refine me1 (pc' := 41) dm_X2_copyOf_40 rfl rfl rfl rfl ?_
  refine me1 (pc' := 42) dm_X2_copyOf_41 rfl rfl rfl rfl ?_
  refine me3 (pc' := 45) dm_X2_copyOf_42 (g_get (v := .ref 6) (lu (n := 2) (j := 2) hn rfl) rfl rfl (Nat.le_of_ble_eq_true rfl)) rfl rfl rfl ?_
  refine me1 (pc' := 46) dm_X2_copyOf_45 rfl rfl rfl rfl ?_
  refine me3 (pc' := 47) dm_X2_copyOf_46 (g_aald (v := .null) (lu (n := 2) (j := 4) hn rfl) rfl (by decide) rfl (Nat.le_of_ble_eq_true rfl)) rfl rfl rfl ?_
  refine me3 (pc' := 48) dm_X2_copyOf_47 (g_aastn (le_ (n := 2) (u := 100) (v := 25) (j := 2) hn rfl hv rfl) (se (n := 2) (u := 100) (v := 25) (j := 2) hn rfl hv _) rfl (by decide) (Nat.le_of_ble_eq_true rfl)) rfl rfl rfl ?_
  refine me1 (pc' := 49) dm_X2_copyOf_48 rfl rfl rfl rfl ?_
  refine me3 (pc' := 52) dm_X2_copyOf_49 (g_get (v := .ref 130) (le_ (n := 2) (u := 100) (v := 25) (j := 0) hn rfl hv rfl) rfl rfl (Nat.le_of_ble_eq_true rfl)) rfl rfl rfl ?_
  refine me1 (pc' := 53) dm_X2_copyOf_52 rfl rfl rfl rfl ?_
  refine me1 (pc' := 54) dm_X2_copyOf_53 rfl rfl rfl rfl ?_
  refine me3 (pc' := 57) dm_X2_copyOf_54 (g_get (v := .ref 7) (lu (n := 2) (j := 2) hn rfl) rfl rfl (Nat.le_of_ble_eq_true rfl)) rfl rfl rfl ?_
  refine me1 (pc' := 58) dm_X2_copyOf_57 rfl rfl rfl rfl ?_
  refine me3 (pc' := 59) dm_X2_copyOf_58 (g_lald (v := (0 : Int64)) (lu (n := 2) (j := 5) hn rfl) rfl (by decide) rfl (Nat.le_of_ble_eq_true rfl)) rfl rfl rfl ?_
  refine me3 (pc' := 60) dm_X2_copyOf_59 (g_last (le_ (n := 2) (u := 100) (v := 25) (j := 3) hn rfl hv rfl) (se (n := 2) (u := 100) (v := 25) (j := 3) hn rfl hv _) rfl (by decide) (Nat.le_of_ble_eq_true rfl)) rfl rfl rfl ?_
  refine me1 (pc' := 61) dm_X2_copyOf_60 rfl rfl rfl rfl ?_
  refine me3 (pc' := 64) dm_X2_copyOf_61 (g_get (v := .ref 131) (le_ (n := 2) (u := 100) (v := 25) (j := 0) hn rfl hv rfl) rfl rfl (Nat.le_of_ble_eq_true rfl)) rfl rfl rfl ?_
  refine me1 (pc' := 65) dm_X2_copyOf_64 rfl rfl rfl rfl ?_
  refine me1 (pc' := 66) dm_X2_copyOf_65 rfl rfl rfl rfl ?_
  refine me3 (pc' := 69) dm_X2_copyOf_66 (g_get (v := .ref 8) (lu (n := 2) (j := 2) hn rfl) rfl rfl (Nat.le_of_ble_eq_true rfl)) rfl rfl rfl ?_
  refine me1 (pc' := 70) dm_X2_copyOf_69 rfl rfl rfl rfl ?_
  refine me3 (pc' := 71) dm_X2_copyOf_70 (g_aald (v := .null) (lu (n := 2) (j := 6) hn rfl) rfl (by decide) rfl (Nat.le_of_ble_eq_true rfl)) rfl rfl rfl ?_
  refine me3 (pc' := 72) dm_X2_copyOf_71 (g_aastn (le_ (n := 2) (u := 100) (v := 25) (j := 4) hn rfl hv rfl) (se (n := 2) (u := 100) (v := 25) (j := 4) hn rfl hv _) rfl (by decide) (Nat.le_of_ble_eq_true rfl)) rfl rfl rfl ?_
  refine me1 (pc' := 75) (L' := [(2, .int (14 : Int32)), (0, .ref 127), (1, .ref 4)]) dm_X2_copyOf_72 rfl rfl rfl rfl ?_
  refine me2 (pc' := 18) dm_X2_copyOf_75 rfl rfl rfl ?_
  refine me1 (pc' := 19) dm_X2_copyOf_18 rfl rfl rfl rfl ?_
  refine me0 (pc' := 21) (S' := .int (40 : Int32) :: _) dm_X2_copyOf_19 rfl rfl rfl rfl ?_
  refine me_2f (pc' := 24) dm_X2_copyOf_21 rfl (by decide) rfl ?_
  refine me1 (pc' := 25) dm_X2_copyOf_24 rfl rfl rfl rfl ?_
  refine me3 (pc' := 28) dm_X2_copyOf_25 (g_get (v := .ref 128) (le_ (n := 2) (u := 100) (v := 25) (j := 0) hn rfl hv rfl) rfl rfl (Nat.le_of_ble_eq_true rfl)) rfl rfl rfl ?_
  refine me1 (pc' := 29) dm_X2_copyOf_28 rfl rfl rfl rfl ?_
  refine me1 (pc' := 30) dm_X2_copyOf_29 rfl rfl rfl rfl ?_
  refine me3 (pc' := 33) dm_X2_copyOf_30 (g_get (v := .ref 5) (lu (n := 2) (j := 2) hn rfl) rfl rfl (Nat.le_of_ble_eq_true rfl)) rfl rfl rfl ?_
  refine me1 (pc' := 34) dm_X2_copyOf_33 rfl rfl rfl rfl ?_
  refine me3 (pc' := 35) dm_X2_copyOf_34 (g_lald (v := (0 : Int64)) (lu (n := 2) (j := 3) hn rfl) rfl (by decide) rfl (Nat.le_of_ble_eq_true rfl)) rfl rfl rfl ?_
  refine me3 (pc' := 36) dm_X2_copyOf_35 (g_last (le_ (n := 2) (u := 100) (v := 25) (j := 1) hn rfl hv rfl) (se (n := 2) (u := 100) (v := 25) (j := 1) hn rfl hv _) rfl (by decide) (Nat.le_of_ble_eq_true rfl)) rfl rfl rfl ?_
  refine me1 (pc' := 37) dm_X2_copyOf_36 rfl rfl rfl rfl ?_
  refine me3 (pc' := 40) dm_X2_copyOf_37 (g_get (v := .ref 129) (le_ (n := 2) (u := 100) (v := 25) (j := 0) hn rfl hv rfl) rfl rfl (Nat.le_of_ble_eq_true rfl)) rfl rfl rfl ?_
  refine me1 (pc' := 41) dm_X2_copyOf_40 rfl rfl rfl rfl ?_
  refine me1 (pc' := 42) dm_X2_copyOf_41 rfl rfl rfl rfl ?_
  refine me3 (pc' := 45) dm_X2_copyOf_42 (g_get (v := .ref 6) (lu (n := 2) (j := 2) hn rfl) rfl rfl (Nat.le_of_ble_eq_true rfl)) rfl rfl rfl ?_
  refine me1 (pc' := 46) dm_X2_copyOf_45 rfl rfl rfl rfl ?_
  refine me3 (pc' := 47) dm_X2_copyOf_46 (g_aald (v := .null) (lu (n := 2) (j := 4) hn rfl) rfl (by decide) rfl (Nat.le_of_ble_eq_true rfl)) rfl rfl rfl ?_
  refine me3 (pc' := 48) dm_X2_copyOf_47 (g_aastn (le_ (n := 2) (u := 100) (v := 25) (j := 2) hn rfl hv rfl) (se (n := 2) (u := 100) (v := 25) (j := 2) hn rfl hv _) rfl (by decide) (Nat.le_of_ble_eq_true rfl)) rfl rfl rfl ?_
  refine me1 (pc' := 49) dm_X2_copyOf_48 rfl rfl rfl rfl ?_
  refine me3 (pc' := 52) dm_X2_copyOf_49 (g_get (v := .ref 130) (le_ (n := 2) (u := 100) (v := 25) (j := 0) hn rfl hv rfl) rfl rfl (Nat.le_of_ble_eq_true rfl)) rfl rfl rfl ?_
  refine me1 (pc' := 53) dm_X2_copyOf_52 rfl rfl rfl rfl ?_
  refine me1 (pc' := 54) dm_X2_copyOf_53 rfl rfl rfl rfl ?_
  refine me3 (pc' := 57) dm_X2_copyOf_54 (g_get (v := .ref 7) (lu (n := 2) (j := 2) hn rfl) rfl rfl (Nat.le_of_ble_eq_true rfl)) rfl rfl rfl ?_
  refine me1 (pc' := 58) dm_X2_copyOf_57 rfl rfl rfl rfl ?_
  refine me3 (pc' := 59) dm_X2_copyOf_58 (g_lald (v := (0 : Int64)) (lu (n := 2) (j := 5) hn rfl) rfl (by decide) rfl (Nat.le_of_ble_eq_true rfl)) rfl rfl rfl ?_
  refine me3 (pc' := 60) dm_X2_copyOf_59 (g_last (le_ (n := 2) (u := 100) (v := 25) (j := 3) hn rfl hv rfl) (se (n := 2) (u := 100) (v := 25) (j := 3) hn rfl hv _) rfl (by decide) (Nat.le_of_ble_eq_true rfl)) rfl rfl rfl ?_
  refine me1 (pc' := 61) dm_X2_copyOf_60 rfl rfl rfl rfl ?_
  refine me3 (pc' := 64) dm_X2_copyOf_61 (g_get (v := .ref 131) (le_ (n := 2) (u := 100) (v := 25) (j := 0) hn rfl hv rfl) rfl rfl (Nat.le_of_ble_eq_true rfl)) rfl rfl rfl ?_
  refine me1 (pc' := 65) dm_X2_copyOf_64 rfl rfl rfl rfl ?_
  refine me1 (pc' := 66) dm_X2_copyOf_65 rfl rfl rfl rfl ?_
  refine me3 (pc' := 69) dm_X2_copyOf_66 (g_get (v := .ref 8) (lu (n := 2) (j := 2) hn rfl) rfl rfl (Nat.le_of_ble_eq_true rfl)) rfl rfl rfl ?_
  refine me1 (pc' := 70) dm_X2_copyOf_69 rfl rfl rfl rfl ?_
  refine me3 (pc' := 71) dm_X2_copyOf_70 (g_aald (v := .null) (lu (n := 2) (j := 6) hn rfl) rfl (by decide) rfl (Nat.le_of_ble_eq_true rfl)) rfl rfl rfl ?_
  refine me3 (pc' := 72) dm_X2_copyOf_71 (g_aastn (le_ (n := 2) (u := 100) (v := 25) (j := 4) hn rfl hv rfl) (se (n := 2) (u := 100) (v := 25) (j := 4) hn rfl hv _) rfl (by decide) (Nat.le_of_ble_eq_true rfl)) rfl rfl rfl ?_
  refine me1 (pc' := 75) (L' := [(2, .int (15 : Int32)), (0, .ref 127), (1, .ref 4)]) dm_X2_copyOf_72 rfl rfl rfl rfl ?_
  refine me2 (pc' := 18) dm_X2_copyOf_75 rfl rfl rfl ?_
  refine me1 (pc' := 19) dm_X2_copyOf_18 rfl rfl rfl rfl ?_
  refine me0 (pc' := 21) (S' := .int (40 : Int32) :: _) dm_X2_copyOf_19 rfl rfl rfl rfl ?_
  refine me_2f (pc' := 24) dm_X2_copyOf_21 rfl (by decide) rfl ?_
  refine me1 (pc' := 25) dm_X2_copyOf_24 rfl rfl rfl rfl ?_
  refine me3 (pc' := 28) dm_X2_copyOf_25 (g_get (v := .ref 128) (le_ (n := 2) (u := 100) (v := 25) (j := 0) hn rfl hv rfl) rfl rfl (Nat.le_of_ble_eq_true rfl)) rfl rfl rfl ?_
  refine me1 (pc' := 29) dm_X2_copyOf_28 rfl rfl rfl rfl ?_
  refine me1 (pc' := 30) dm_X2_copyOf_29 rfl rfl rfl rfl ?_
  refine me3 (pc' := 33) dm_X2_copyOf_30 (g_get (v := .ref 5) (lu (n := 2) (j := 2) hn rfl) rfl rfl (Nat.le_of_ble_eq_true rfl)) rfl rfl rfl ?_
  refine me1 (pc' := 34) dm_X2_copyOf_33 rfl rfl rfl rfl ?_
  refine me3 (pc' := 35) dm_X2_copyOf_34 (g_lald (v := (0 : Int64)) (lu (n := 2) (j := 3) hn rfl) rfl (by decide) rfl (Nat.le_of_ble_eq_true rfl)) rfl rfl rfl ?_
  refine me3 (pc' := 36) dm_X2_copyOf_35 (g_last (le_ (n := 2) (u := 100) (v := 25) (j := 1) hn rfl hv rfl) (se (n := 2) (u := 100) (v := 25) (j := 1) hn rfl hv _) rfl (by decide) (Nat.le_of_ble_eq_true rfl)) rfl rfl rfl ?_
  refine me1 (pc' := 37) dm_X2_copyOf_36 rfl rfl rfl rfl ?_
  refine me3 (pc' := 40) dm_X2_copyOf_37 (g_get (v := .ref 129) (le_ (n := 2) (u := 100) (v := 25) (j := 0) hn rfl hv rfl) rfl rfl (Nat.le_of_ble_eq_true rfl)) rfl rfl rfl ?_
  refine me1 (pc' := 41) dm_X2_copyOf_40 rfl rfl rfl rfl ?_
  refine me1 (pc' := 42) dm_X2_copyOf_41 rfl rfl rfl rfl ?_
  refine me3 (pc' := 45) dm_X2_copyOf_42 (g_get (v := .ref 6) (lu (n := 2) (j := 2) hn rfl) rfl rfl (Nat.le_of_ble_eq_true rfl)) rfl rfl rfl ?_
  refine me1 (pc' := 46) dm_X2_copyOf_45 rfl rfl rfl rfl ?_
  refine me3 (pc' := 47) dm_X2_copyOf_46 (g_aald (v := .null) (lu (n := 2) (j := 4) hn rfl) rfl (by decide) rfl (Nat.le_of_ble_eq_true rfl)) rfl rfl rfl ?_
  refine me3 (pc' := 48) dm_X2_copyOf_47 (g_aastn (le_ (n := 2) (u := 100) (v := 25) (j := 2) hn rfl hv rfl) (se (n := 2) (u := 100) (v := 25) (j := 2) hn rfl hv _) rfl (by decide) (Nat.le_of_ble_eq_true rfl)) rfl rfl rfl ?_
  refine me1 (pc' := 49) dm_X2_copyOf_48 rfl rfl rfl rfl ?_
  refine me3 (pc' := 52) dm_X2_copyOf_49 (g_get (v := .ref 130) (le_ (n := 2) (u := 100) (v := 25) (j := 0) hn rfl hv rfl) rfl rfl (Nat.le_of_ble_eq_true rfl)) rfl rfl rfl ?_
  refine me1 (pc' := 53) dm_X2_copyOf_52 rfl rfl rfl rfl ?_
  refine me1 (pc' := 54) dm_X2_copyOf_53 rfl rfl rfl rfl ?_
  refine me3 (pc' := 57) dm_X2_copyOf_54 (g_get (v := .ref 7) (lu (n := 2) (j := 2) hn rfl) rfl rfl (Nat.le_of_ble_eq_true rfl)) rfl rfl rfl ?_
  refine me1 (pc' := 58) dm_X2_copyOf_57 rfl rfl rfl rfl ?_
  refine me3 (pc' := 59) dm_X2_copyOf_58 (g_lald (v := (0 : Int64)) (lu (n := 2) (j := 5) hn rfl) rfl (by decide) rfl (Nat.le_of_ble_eq_true rfl)) rfl rfl rfl ?_
  refine me3 (pc' := 60) dm_X2_copyOf_59 (g_last (le_ (n := 2) (u := 100) (v := 25) (j := 3) hn rfl hv rfl) (se (n := 2) (u := 100) (v := 25) (j := 3) hn rfl hv _) rfl (by decide) (Nat.le_of_ble_eq_true rfl)) rfl rfl rfl ?_
  refine me1 (pc' := 61) dm_X2_copyOf_60 rfl rfl rfl rfl ?_
  refine me3 (pc' := 64) dm_X2_copyOf_61 (g_get (v := .ref 131) (le_ (n := 2) (u := 100) (v := 25) (j := 0) hn rfl hv rfl) rfl rfl (Nat.le_of_ble_eq_true rfl)) rfl rfl rfl ?_
  refine me1 (pc' := 65) dm_X2_copyOf_64 rfl rfl rfl rfl ?_
  refine me1 (pc' := 66) dm_X2_copyOf_65 rfl rfl rfl rfl ?_
  refine me3 (pc' := 69) dm_X2_copyOf_66 (g_get (v := .ref 8) (lu (n := 2) (j := 2) hn rfl) rfl rfl (Nat.le_of_ble_eq_true rfl)) rfl rfl rfl ?_
  refine me1 (pc' := 70) dm_X2_copyOf_69 rfl rfl rfl rfl ?_
  refine me3 (pc' := 71) dm_X2_copyOf_70 (g_aald (v := .null) (lu (n := 2) (j := 6) hn rfl) rfl (by decide) rfl (Nat.le_of_ble_eq_true rfl)) rfl rfl rfl ?_
  refine me3 (pc' := 72) dm_X2_copyOf_71 (g_aastn (le_ (n := 2) (u := 100) (v := 25) (j := 4) hn rfl hv rfl) (se (n := 2) (u := 100) (v := 25) (j := 4) hn rfl hv _) rfl (by decide) (Nat.le_of_ble_eq_true rfl)) rfl rfl rfl ?_
  refine me1 (pc' := 75) (L' := [(2, .int (16 : Int32)), (0, .ref 127), (1, .ref 4)]) dm_X2_copyOf_72 rfl rfl rfl rfl ?_
  refine me2 (pc' := 18) dm_X2_copyOf_75 rfl rfl rfl ?_
  refine me1 (pc' := 19) dm_X2_copyOf_18 rfl rfl rfl rfl ?_
  refine me0 (pc' := 21) (S' := .int (40 : Int32) :: _) dm_X2_copyOf_19 rfl rfl rfl rfl ?_
  refine me_2f (pc' := 24) dm_X2_copyOf_21 rfl (by decide) rfl ?_
  refine me1 (pc' := 25) dm_X2_copyOf_24 rfl rfl rfl rfl ?_
  refine me3 (pc' := 28) dm_X2_copyOf_25 (g_get (v := .ref 128) (le_ (n := 2) (u := 100) (v := 25) (j := 0) hn rfl hv rfl) rfl rfl (Nat.le_of_ble_eq_true rfl)) rfl rfl rfl ?_
  refine me1 (pc' := 29) dm_X2_copyOf_28 rfl rfl rfl rfl ?_
  refine me1 (pc' := 30) dm_X2_copyOf_29 rfl rfl rfl rfl ?_
  refine me3 (pc' := 33) dm_X2_copyOf_30 (g_get (v := .ref 5) (lu (n := 2) (j := 2) hn rfl) rfl rfl (Nat.le_of_ble_eq_true rfl)) rfl rfl rfl ?_
  refine me1 (pc' := 34) dm_X2_copyOf_33 rfl rfl rfl rfl ?_
  refine me3 (pc' := 35) dm_X2_copyOf_34 (g_lald (v := (0 : Int64)) (lu (n := 2) (j := 3) hn rfl) rfl (by decide) rfl (Nat.le_of_ble_eq_true rfl)) rfl rfl rfl ?_
  refine me3 (pc' := 36) dm_X2_copyOf_35 (g_last (le_ (n := 2) (u := 100) (v := 25) (j := 1) hn rfl hv rfl) (se (n := 2) (u := 100) (v := 25) (j := 1) hn rfl hv _) rfl (by decide) (Nat.le_of_ble_eq_true rfl)) rfl rfl rfl ?_
  refine me1 (pc' := 37) dm_X2_copyOf_36 rfl rfl rfl rfl ?_
  refine me3 (pc' := 40) dm_X2_copyOf_37 (g_get (v := .ref 129) (le_ (n := 2) (u := 100) (v := 25) (j := 0) hn rfl hv rfl) rfl rfl (Nat.le_of_ble_eq_true rfl)) rfl rfl rfl ?_
  refine me1 (pc' := 41) dm_X2_copyOf_40 rfl rfl rfl rfl ?_
  refine me1 (pc' := 42) dm_X2_copyOf_41 rfl rfl rfl rfl ?_
  refine me3 (pc' := 45) dm_X2_copyOf_42 (g_get (v := .ref 6) (lu (n := 2) (j := 2) hn rfl) rfl rfl (Nat.le_of_ble_eq_true rfl)) rfl rfl rfl ?_
  refine me1 (pc' := 46) dm_X2_copyOf_45 rfl rfl rfl rfl ?_
  refine me3 (pc' := 47) dm_X2_copyOf_46 (g_aald (v := .null) (lu (n := 2) (j := 4) hn rfl) rfl (by decide) rfl (Nat.le_of_ble_eq_true rfl)) rfl rfl rfl ?_
  refine me3 (pc' := 48) dm_X2_copyOf_47 (g_aastn (le_ (n := 2) (u := 100) (v := 25) (j := 2) hn rfl hv rfl) (se (n := 2) (u := 100) (v := 25) (j := 2) hn rfl hv _) rfl (by decide) (Nat.le_of_ble_eq_true rfl)) rfl rfl rfl ?_
  refine me1 (pc' := 49) dm_X2_copyOf_48 rfl rfl rfl rfl ?_
  refine me3 (pc' := 52) dm_X2_copyOf_49 (g_get (v := .ref 130) (le_ (n := 2) (u := 100) (v := 25) (j := 0) hn rfl hv rfl) rfl rfl (Nat.le_of_ble_eq_true rfl)) rfl rfl rfl ?_
  refine me1 (pc' := 53) dm_X2_copyOf_52 rfl rfl rfl rfl ?_
  refine me1 (pc' := 54) dm_X2_copyOf_53 rfl rfl rfl rfl ?_
  refine me3 (pc' := 57) dm_X2_copyOf_54 (g_get (v := .ref 7) (lu (n := 2) (j := 2) hn rfl) rfl rfl (Nat.le_of_ble_eq_true rfl)) rfl rfl rfl ?_
  refine me1 (pc' := 58) dm_X2_copyOf_57 rfl rfl rfl rfl ?_
  refine me3 (pc' := 59) dm_X2_copyOf_58 (g_lald (v := (0 : Int64)) (lu (n := 2) (j := 5) hn rfl) rfl (by decide) rfl (Nat.le_of_ble_eq_true rfl)) rfl rfl rfl ?_
  refine me3 (pc' := 60) dm_X2_copyOf_59 (g_last (le_ (n := 2) (u := 100) (v := 25) (j := 3) hn rfl hv rfl) (se (n := 2) (u := 100) (v := 25) (j := 3) hn rfl hv _) rfl (by decide) (Nat.le_of_ble_eq_true rfl)) rfl rfl rfl ?_
  refine me1 (pc' := 61) dm_X2_copyOf_60 rfl rfl rfl rfl ?_
  refine me3 (pc' := 64) dm_X2_copyOf_61 (g_get (v := .ref 131) (le_ (n := 2) (u := 100) (v := 25) (j := 0) hn rfl hv rfl) rfl rfl (Nat.le_of_ble_eq_true rfl)) rfl rfl rfl ?_
  refine me1 (pc' := 65) dm_X2_copyOf_64 rfl rfl rfl rfl ?_
  refine me1 (pc' := 66) dm_X2_copyOf_65 rfl rfl rfl rfl ?_
  refine me3 (pc' := 69) dm_X2_copyOf_66 (g_get (v := .ref 8) (lu (n := 2) (j := 2) hn rfl) rfl rfl (Nat.le_of_ble_eq_true rfl)) rfl rfl rfl ?_
  refine me1 (pc' := 70) dm_X2_copyOf_69 rfl rfl rfl rfl ?_
  refine me3 (pc' := 71) dm_X2_copyOf_70 (g_aald (v := .null) (lu (n := 2) (j := 6) hn rfl) rfl (by decide) rfl (Nat.le_of_ble_eq_true rfl)) rfl rfl rfl ?_
  refine me3 (pc' := 72) dm_X2_copyOf_71 (g_aastn (le_ (n := 2) (u := 100) (v := 25) (j := 4) hn rfl hv rfl) (se (n := 2) (u := 100) (v := 25) (j := 4) hn rfl hv _) rfl (by decide) (Nat.le_of_ble_eq_true rfl)) rfl rfl rfl ?_
  refine me1 (pc' := 75) (L' := [(2, .int (17 : Int32)), (0, .ref 127), (1, .ref 4)]) dm_X2_copyOf_72 rfl rfl rfl rfl ?_
  refine me2 (pc' := 18) dm_X2_copyOf_75 rfl rfl rfl ?_
  refine me1 (pc' := 19) dm_X2_copyOf_18 rfl rfl rfl rfl ?_
  refine me0 (pc' := 21) (S' := .int (40 : Int32) :: _) dm_X2_copyOf_19 rfl rfl rfl rfl ?_
  refine me_2f (pc' := 24) dm_X2_copyOf_21 rfl (by decide) rfl ?_
  refine me1 (pc' := 25) dm_X2_copyOf_24 rfl rfl rfl rfl ?_
  refine me3 (pc' := 28) dm_X2_copyOf_25 (g_get (v := .ref 128) (le_ (n := 2) (u := 100) (v := 25) (j := 0) hn rfl hv rfl) rfl rfl (Nat.le_of_ble_eq_true rfl)) rfl rfl rfl ?_
  refine me1 (pc' := 29) dm_X2_copyOf_28 rfl rfl rfl rfl ?_
  refine me1 (pc' := 30) dm_X2_copyOf_29 rfl rfl rfl rfl ?_
  refine me3 (pc' := 33) dm_X2_copyOf_30 (g_get (v := .ref 5) (lu (n := 2) (j := 2) hn rfl) rfl rfl (Nat.le_of_ble_eq_true rfl)) rfl rfl rfl ?_
  refine me1 (pc' := 34) dm_X2_copyOf_33 rfl rfl rfl rfl ?_
  refine me3 (pc' := 35) dm_X2_copyOf_34 (g_lald (v := (0 : Int64)) (lu (n := 2) (j := 3) hn rfl) rfl (by decide) rfl (Nat.le_of_ble_eq_true rfl)) rfl rfl rfl ?_
  refine me3 (pc' := 36) dm_X2_copyOf_35 (g_last (le_ (n := 2) (u := 100) (v := 25) (j := 1) hn rfl hv rfl) (se (n := 2) (u := 100) (v := 25) (j := 1) hn rfl hv _) rfl (by decide) (Nat.le_of_ble_eq_true rfl)) rfl rfl rfl ?_
  refine me1 (pc' := 37) dm_X2_copyOf_36 rfl rfl rfl rfl ?_
  refine me3 (pc' := 40) dm_X2_copyOf_37 (g_get (v := .ref 129) (le_ (n := 2) (u := 100) (v := 25) (j := 0) hn rfl hv rfl) rfl rfl (Nat.le_of_ble_eq_true rfl)) rfl rfl rfl ?_
  refine me1 (pc' := 41) dm_X2_copyOf_40 rfl rfl rfl rfl ?_
  refine me1 (pc' := 42) dm_X2_copyOf_41 rfl rfl rfl rfl ?_
  refine me3 (pc' := 45) dm_X2_copyOf_42 (g_get (v := .ref 6) (lu (n := 2) (j := 2) hn rfl) rfl rfl (Nat.le_of_ble_eq_true rfl)) rfl rfl rfl ?_
  refine me1 (pc' := 46) dm_X2_copyOf_45 rfl rfl rfl rfl ?_
  refine me3 (pc' := 47) dm_X2_copyOf_46 (g_aald (v := .null) (lu (n := 2) (j := 4) hn rfl) rfl (by decide) rfl (Nat.le_of_ble_eq_true rfl)) rfl rfl rfl ?_
  refine me3 (pc' := 48) dm_X2_copyOf_47 (g_aastn (le_ (n := 2) (u := 100) (v := 25) (j := 2) hn rfl hv rfl) (se (n := 2) (u := 100) (v := 25) (j := 2) hn rfl hv _) rfl (by decide) (Nat.le_of_ble_eq_true rfl)) rfl rfl rfl ?_
  refine me1 (pc' := 49) dm_X2_copyOf_48 rfl rfl rfl rfl ?_
  refine me3 (pc' := 52) dm_X2_copyOf_49 (g_get (v := .ref 130) (le_ (n := 2) (u := 100) (v := 25) (j := 0) hn rfl hv rfl) rfl rfl (Nat.le_of_ble_eq_true rfl)) rfl rfl rfl ?_
  refine me1 (pc' := 53) dm_X2_copyOf_52 rfl rfl rfl rfl ?_
  refine me1 (pc' := 54) dm_X2_copyOf_53 rfl rfl rfl rfl ?_
  refine me3 (pc' := 57) dm_X2_copyOf_54 (g_get (v := .ref 7) (lu (n := 2) (j := 2) hn rfl) rfl rfl (Nat.le_of_ble_eq_true rfl)) rfl rfl rfl ?_
  refine me1 (pc' := 58) dm_X2_copyOf_57 rfl rfl rfl rfl ?_
  refine me3 (pc' := 59) dm_X2_copyOf_58 (g_lald (v := (0 : Int64)) (lu (n := 2) (j := 5) hn rfl) rfl (by decide) rfl (Nat.le_of_ble_eq_true rfl)) rfl rfl rfl ?_
  refine me3 (pc' := 60) dm_X2_copyOf_59 (g_last (le_ (n := 2) (u := 100) (v := 25) (j := 3) hn rfl hv rfl) (se (n := 2) (u := 100) (v := 25) (j := 3) hn rfl hv _) rfl (by decide) (Nat.le_of_ble_eq_true rfl)) rfl rfl rfl ?_
  refine me1 (pc' := 61) dm_X2_copyOf_60 rfl rfl rfl rfl ?_
  refine me3 (pc' := 64) dm_X2_copyOf_61 (g_get (v := .ref 131) (le_ (n := 2) (u := 100) (v := 25) (j := 0) hn rfl hv rfl) rfl rfl (Nat.le_of_ble_eq_true rfl)) rfl rfl rfl ?_
  refine me1 (pc' := 65) dm_X2_copyOf_64 rfl rfl rfl rfl ?_
  refine me1 (pc' := 66) dm_X2_copyOf_65 rfl rfl rfl rfl ?_
  refine me3 (pc' := 69) dm_X2_copyOf_66 (g_get (v := .ref 8) (lu (n := 2) (j := 2) hn rfl) rfl rfl (Nat.le_of_ble_eq_true rfl)) rfl rfl rfl ?_
  refine me1 (pc' := 70) dm_X2_copyOf_69 rfl rfl rfl rfl ?_
  refine me3 (pc' := 71) dm_X2_copyOf_70 (g_aald (v := .null) (lu (n := 2) (j := 6) hn rfl) rfl (by decide) rfl (Nat.le_of_ble_eq_true rfl)) rfl rfl rfl ?_
  refine me3 (pc' := 72) dm_X2_copyOf_71 (g_aastn (le_ (n := 2) (u := 100) (v := 25) (j := 4) hn rfl hv rfl) (se (n := 2) (u := 100) (v := 25) (j := 4) hn rfl hv _) rfl (by decide) (Nat.le_of_ble_eq_true rfl)) rfl rfl rfl ?_
  refine me1 (pc' := 75) (L' := [(2, .int (18 : Int32)), (0, .ref 127), (1, .ref 4)]) dm_X2_copyOf_72 rfl rfl rfl rfl ?_
  refine me2 (pc' := 18) dm_X2_copyOf_75 rfl rfl rfl ?_
  refine me1 (pc' := 19) dm_X2_copyOf_18 rfl rfl rfl rfl ?_
  refine me0 (pc' := 21) (S' := .int (40 : Int32) :: _) dm_X2_copyOf_19 rfl rfl rfl rfl ?_
  refine me_2f (pc' := 24) dm_X2_copyOf_21 rfl (by decide) rfl ?_
  refine me1 (pc' := 25) dm_X2_copyOf_24 rfl rfl rfl rfl ?_
  refine me3 (pc' := 28) dm_X2_copyOf_25 (g_get (v := .ref 128) (le_ (n := 2) (u := 100) (v := 25) (j := 0) hn rfl hv rfl) rfl rfl (Nat.le_of_ble_eq_true rfl)) rfl rfl rfl ?_
  refine me1 (pc' := 29) dm_X2_copyOf_28 rfl rfl rfl rfl ?_
  refine me1 (pc' := 30) dm_X2_copyOf_29 rfl rfl rfl rfl ?_
  refine me3 (pc' := 33) dm_X2_copyOf_30 (g_get (v := .ref 5) (lu (n := 2) (j := 2) hn rfl) rfl rfl (Nat.le_of_ble_eq_true rfl)) rfl rfl rfl ?_
  refine me1 (pc' := 34) dm_X2_copyOf_33 rfl rfl rfl rfl ?_
  refine me3 (pc' := 35) dm_X2_copyOf_34 (g_lald (v := (0 : Int64)) (lu (n := 2) (j := 3) hn rfl) rfl (by decide) rfl (Nat.le_of_ble_eq_true rfl)) rfl rfl rfl ?_
  refine me3 (pc' := 36) dm_X2_copyOf_35 (g_last (le_ (n := 2) (u := 100) (v := 25) (j := 1) hn rfl hv rfl) (se (n := 2) (u := 100) (v := 25) (j := 1) hn rfl hv _) rfl (by decide) (Nat.le_of_ble_eq_true rfl)) rfl rfl rfl ?_
  refine me1 (pc' := 37) dm_X2_copyOf_36 rfl rfl rfl rfl ?_
  refine me3 (pc' := 40) dm_X2_copyOf_37 (g_get (v := .ref 129) (le_ (n := 2) (u := 100) (v := 25) (j := 0) hn rfl hv rfl) rfl rfl (Nat.le_of_ble_eq_true rfl)) rfl rfl rfl ?_
  refine me1 (pc' := 41) dm_X2_copyOf_40 rfl rfl rfl rfl ?_
  refine me1 (pc' := 42) dm_X2_copyOf_41 rfl rfl rfl rfl ?_
  refine me3 (pc' := 45) dm_X2_copyOf_42 (g_get (v := .ref 6) (lu (n := 2) (j := 2) hn rfl) rfl rfl (Nat.le_of_ble_eq_true rfl)) rfl rfl rfl ?_
  refine me1 (pc' := 46) dm_X2_copyOf_45 rfl rfl rfl rfl ?_
  refine me3 (pc' := 47) dm_X2_copyOf_46 (g_aald (v := .null) (lu (n := 2) (j := 4) hn rfl) rfl (by decide) rfl (Nat.le_of_ble_eq_true rfl)) rfl rfl rfl ?_
  refine me3 (pc' := 48) dm_X2_copyOf_47 (g_aastn (le_ (n := 2) (u := 100) (v := 25) (j := 2) hn rfl hv rfl) (se (n := 2) (u := 100) (v := 25) (j := 2) hn rfl hv _) rfl (by decide) (Nat.le_of_ble_eq_true rfl)) rfl rfl rfl ?_
  refine me1 (pc' := 49) dm_X2_copyOf_48 rfl rfl rfl rfl ?_
  refine me3 (pc' := 52) dm_X2_copyOf_49 (g_get (v := .ref 130) (le_ (n := 2) (u := 100) (v := 25) (j := 0) hn rfl hv rfl) rfl rfl (Nat.le_of_ble_eq_true rfl)) rfl rfl rfl ?_
  refine me1 (pc' := 53) dm_X2_copyOf_52 rfl rfl rfl rfl ?_
  refine me1 (pc' := 54) dm_X2_copyOf_53 rfl rfl rfl rfl ?_
  refine me3 (pc' := 57) dm_X2_copyOf_54 (g_get (v := .ref 7) (lu (n := 2) (j := 2) hn rfl) rfl rfl (Nat.le_of_ble_eq_true rfl)) rfl rfl rfl ?_
  refine me1 (pc' := 58) dm_X2_copyOf_57 rfl rfl rfl rfl ?_
  refine me3 (pc' := 59) dm_X2_copyOf_58 (g_lald (v := (0 : Int64)) (lu (n := 2) (j := 5) hn rfl) rfl (by decide) rfl (Nat.le_of_ble_eq_true rfl)) rfl rfl rfl ?_
  refine me3 (pc' := 60) dm_X2_copyOf_59 (g_last (le_ (n := 2) (u := 100) (v := 25) (j := 3) hn rfl hv rfl) (se (n := 2) (u := 100) (v := 25) (j := 3) hn rfl hv _) rfl (by decide) (Nat.le_of_ble_eq_true rfl)) rfl rfl rfl ?_
  refine me1 (pc' := 61) dm_X2_copyOf_60 rfl rfl rfl rfl ?_
  refine me3 (pc' := 64) dm_X2_copyOf_61 (g_get (v := .ref 131) (le_ (n := 2) (u := 100) (v := 25) (j := 0) hn rfl hv rfl) rfl rfl (Nat.le_of_ble_eq_true rfl)) rfl rfl rfl ?_
  refine me1 (pc' := 65) dm_X2_copyOf_64 rfl rfl rfl rfl ?_
  refine me1 (pc' := 66) dm_X2_copyOf_65 rfl rfl rfl rfl ?_
  refine me3 (pc' := 69) dm_X2_copyOf_66 (g_get (v := .ref 8) (lu (n := 2) (j := 2) hn rfl) rfl rfl (Nat.le_of_ble_eq_true rfl)) rfl rfl rfl ?_
  refine me1 (pc' := 70) dm_X2_copyOf_69 rfl rfl rfl rfl ?_
  refine me3 (pc' := 71) dm_X2_copyOf_70 (g_aald (v := .null) (lu (n := 2) (j := 6) hn rfl) rfl (by decide) rfl (Nat.le_of_ble_eq_true rfl)) rfl rfl rfl ?_
  refine me3 (pc' := 72) dm_X2_copyOf_71 (g_aastn (le_ (n := 2) (u := 100) (v := 25) (j := 4) hn rfl hv rfl) (se (n := 2) (u := 100) (v := 25) (j := 4) hn rfl hv _) rfl (by decide) (Nat.le_of_ble_eq_true rfl)) rfl rfl rfl ?_
  refine me1 (pc' := 75) (L' := [(2, .int (19 : Int32)), (0, .ref 127), (1, .ref 4)]) dm_X2_copyOf_72 rfl rfl rfl rfl ?_
  refine me2 (pc' := 18) dm_X2_copyOf_75 rfl rfl rfl ?_
  refine me1 (pc' := 19) dm_X2_copyOf_18 rfl rfl rfl rfl ?_
  refine me0 (pc' := 21) (S' := .int (40 : Int32) :: _) dm_X2_copyOf_19 rfl rfl rfl rfl ?_
  refine me_2f (pc' := 24) dm_X2_copyOf_21 rfl (by decide) rfl ?_
  refine me1 (pc' := 25) dm_X2_copyOf_24 rfl rfl rfl rfl ?_
  refine me3 (pc' := 28) dm_X2_copyOf_25 (g_get (v := .ref 128) (le_ (n := 2) (u := 100) (v := 25) (j := 0) hn rfl hv rfl) rfl rfl (Nat.le_of_ble_eq_true rfl)) rfl rfl rfl ?_
  refine me1 (pc' := 29) dm_X2_copyOf_28 rfl rfl rfl rfl ?_
  refine me1 (pc' := 30) dm_X2_copyOf_29 rfl rfl rfl rfl ?_
  refine me3 (pc' := 33) dm_X2_copyOf_30 (g_get (v := .ref 5) (lu (n := 2) (j := 2) hn rfl) rfl rfl (Nat.le_of_ble_eq_true rfl)) rfl rfl rfl ?_
  refine me1 (pc' := 34) dm_X2_copyOf_33 rfl rfl rfl rfl ?_
  refine me3 (pc' := 35) dm_X2_copyOf_34 (g_lald (v := (0 : Int64)) (lu (n := 2) (j := 3) hn rfl) rfl (by decide) rfl (Nat.le_of_ble_eq_true rfl)) rfl rfl rfl ?_
  refine me3 (pc' := 36) dm_X2_copyOf_35 (g_last (le_ (n := 2) (u := 100) (v := 25) (j := 1) hn rfl hv rfl) (se (n := 2) (u := 100) (v := 25) (j := 1) hn rfl hv _) rfl (by decide) (Nat.le_of_ble_eq_true rfl)) rfl rfl rfl ?_
  refine me1 (pc' := 37) dm_X2_copyOf_36 rfl rfl rfl rfl ?_
  refine me3 (pc' := 40) dm_X2_copyOf_37 (g_get (v := .ref 129) (le_ (n := 2) (u := 100) (v := 25) (j := 0) hn rfl hv rfl) rfl rfl (Nat.le_of_ble_eq_true rfl)) rfl rfl rfl ?_
  refine me1 (pc' := 41) dm_X2_copyOf_40 rfl rfl rfl rfl ?_
  refine me1 (pc' := 42) dm_X2_copyOf_41 rfl rfl rfl rfl ?_
  refine me3 (pc' := 45) dm_X2_copyOf_42 (g_get (v := .ref 6) (lu (n := 2) (j := 2) hn rfl) rfl rfl (Nat.le_of_ble_eq_true rfl)) rfl rfl rfl ?_
  refine me1 (pc' := 46) dm_X2_copyOf_45 rfl rfl rfl rfl ?_
  refine me3 (pc' := 47) dm_X2_copyOf_46 (g_aald (v := .null) (lu (n := 2) (j := 4) hn rfl) rfl (by decide) rfl (Nat.le_of_ble_eq_true rfl)) rfl rfl rfl ?_
  refine me3 (pc' := 48) dm_X2_copyOf_47 (g_aastn (le_ (n := 2) (u := 100) (v := 25) (j := 2) hn rfl hv rfl) (se (n := 2) (u := 100) (v := 25) (j := 2) hn rfl hv _) rfl (by decide) (Nat.le_of_ble_eq_true rfl)) rfl rfl rfl ?_
  refine me1 (pc' := 49) dm_X2_copyOf_48 rfl rfl rfl rfl ?_
  refine me3 (pc' := 52) dm_X2_copyOf_49 (g_get (v := .ref 130) (le_ (n := 2) (u := 100) (v := 25) (j := 0) hn rfl hv rfl) rfl rfl (Nat.le_of_ble_eq_true rfl)) rfl rfl rfl ?_
  refine me1 (pc' := 53) dm_X2_copyOf_52 rfl rfl rfl rfl ?_
  refine me1 (pc' := 54) dm_X2_copyOf_53 rfl rfl rfl rfl ?_
  refine me3 (pc' := 57) dm_X2_copyOf_54 (g_get (v := .ref 7) (lu (n := 2) (j := 2) hn rfl) rfl rfl (Nat.le_of_ble_eq_true rfl)) rfl rfl rfl ?_
  refine me1 (pc' := 58) dm_X2_copyOf_57 rfl rfl rfl rfl ?_
  refine me3 (pc' := 59) dm_X2_copyOf_58 (g_lald (v := (0 : Int64)) (lu (n := 2) (j := 5) hn rfl) rfl (by decide) rfl (Nat.le_of_ble_eq_true rfl)) rfl rfl rfl ?_
  refine me3 (pc' := 60) dm_X2_copyOf_59 (g_last (le_ (n := 2) (u := 100) (v := 25) (j := 3) hn rfl hv rfl) (se (n := 2) (u := 100) (v := 25) (j := 3) hn rfl hv _) rfl (by decide) (Nat.le_of_ble_eq_true rfl)) rfl rfl rfl ?_
  refine me1 (pc' := 61) dm_X2_copyOf_60 rfl rfl rfl rfl ?_
  refine me3 (pc' := 64) dm_X2_copyOf_61 (g_get (v := .ref 131) (le_ (n := 2) (u := 100) (v := 25) (j := 0) hn rfl hv rfl) rfl rfl (Nat.le_of_ble_eq_true rfl)) rfl rfl rfl ?_
  refine me1 (pc' := 65) dm_X2_copyOf_64 rfl rfl rfl rfl ?_
  refine me1 (pc' := 66) dm_X2_copyOf_65 rfl rfl rfl rfl ?_
  refine me3 (pc' := 69) dm_X2_copyOf_66 (g_get (v := .ref 8) (lu (n := 2) (j := 2) hn rfl) rfl rfl (Nat.le_of_ble_eq_true rfl)) rfl rfl rfl ?_
  refine me1 (pc' := 70) dm_X2_copyOf_69 rfl rfl rfl rfl ?_
  refine me3 (pc' := 71) dm_X2_copyOf_70 (g_aald (v := .null) (lu (n := 2) (j := 6) hn rfl) rfl (by decide) rfl (Nat.le_of_ble_eq_true rfl)) rfl rfl rfl ?_
  refine me3 (pc' := 72) dm_X2_copyOf_71 (g_aastn (le_ (n := 2) (u := 100) (v := 25) (j := 4) hn rfl hv rfl) (se (n := 2) (u := 100) (v := 25) (j := 4) hn rfl hv _) rfl (by decide) (Nat.le_of_ble_eq_true rfl)) rfl rfl rfl ?_
  refine me1 (pc' := 75) (L' := [(2, .int (20 : Int32)), (0, .ref 127), (1, .ref 4)]) dm_X2_copyOf_72 rfl rfl rfl rfl ?_
  refine me2 (pc' := 18) dm_X2_copyOf_75 rfl rfl rfl ?_
  refine me1 (pc' := 19) dm_X2_copyOf_18 rfl rfl rfl rfl ?_
  refine me0 (pc' := 21) (S' := .int (40 : Int32) :: _) dm_X2_copyOf_19 rfl rfl rfl rfl ?_
  refine me_2f (pc' := 24) dm_X2_copyOf_21 rfl (by decide) rfl ?_
  refine me1 (pc' := 25) dm_X2_copyOf_24 rfl rfl rfl rfl ?_
  refine me3 (pc' := 28) dm_X2_copyOf_25 (g_get (v := .ref 128) (le_ (n := 2) (u := 100) (v := 25) (j := 0) hn rfl hv rfl) rfl rfl (Nat.le_of_ble_eq_true rfl)) rfl rfl rfl ?_
  refine me1 (pc' := 29) dm_X2_copyOf_28 rfl rfl rfl rfl ?_
  refine me1 (pc' := 30) dm_X2_copyOf_29 rfl rfl rfl rfl ?_
  refine me3 (pc' := 33) dm_X2_copyOf_30 (g_get (v := .ref 5) (lu (n := 2) (j := 2) hn rfl) rfl rfl (Nat.le_of_ble_eq_true rfl)) rfl rfl rfl ?_
  refine me1 (pc' := 34) dm_X2_copyOf_33 rfl rfl rfl rfl ?_
  refine me3 (pc' := 35) dm_X2_copyOf_34 (g_lald (v := (0 : Int64)) (lu (n := 2) (j := 3) hn rfl) rfl (by decide) rfl (Nat.le_of_ble_eq_true rfl)) rfl rfl rfl ?_
  refine me3 (pc' := 36) dm_X2_copyOf_35 (g_last (le_ (n := 2) (u := 100) (v := 25) (j := 1) hn rfl hv rfl) (se (n := 2) (u := 100) (v := 25) (j := 1) hn rfl hv _) rfl (by decide) (Nat.le_of_ble_eq_true rfl)) rfl rfl rfl ?_
  refine me1 (pc' := 37) dm_X2_copyOf_36 rfl rfl rfl rfl ?_
  refine me3 (pc' := 40) dm_X2_copyOf_37 (g_get (v := .ref 129) (le_ (n := 2) (u := 100) (v := 25) (j := 0) hn rfl hv rfl) rfl rfl (Nat.le_of_ble_eq_true rfl)) rfl rfl rfl ?_
  refine me1 (pc' := 41) dm_X2_copyOf_40 rfl rfl rfl rfl ?_
  refine me1 (pc' := 42) dm_X2_copyOf_41 rfl rfl rfl rfl ?_
  refine me3 (pc' := 45) dm_X2_copyOf_42 (g_get (v := .ref 6) (lu (n := 2) (j := 2) hn rfl) rfl rfl (Nat.le_of_ble_eq_true rfl)) rfl rfl rfl ?_
  refine me1 (pc' := 46) dm_X2_copyOf_45 rfl rfl rfl rfl ?_
  refine me3 (pc' := 47) dm_X2_copyOf_46 (g_aald (v := .null) (lu (n := 2) (j := 4) hn rfl) rfl (by decide) rfl (Nat.le_of_ble_eq_true rfl)) rfl rfl rfl ?_
  refine me3 (pc' := 48) dm_X2_copyOf_47 (g_aastn (le_ (n := 2) (u := 100) (v := 25) (j := 2) hn rfl hv rfl) (se (n := 2) (u := 100) (v := 25) (j := 2) hn rfl hv _) rfl (by decide) (Nat.le_of_ble_eq_true rfl)) rfl rfl rfl ?_
  refine me1 (pc' := 49) dm_X2_copyOf_48 rfl rfl rfl rfl ?_
  refine me3 (pc' := 52) dm_X2_copyOf_49 (g_get (v := .ref 130) (le_ (n := 2) (u := 100) (v := 25) (j := 0) hn rfl hv rfl) rfl rfl (Nat.le_of_ble_eq_true rfl)) rfl rfl rfl ?_
  refine me1 (pc' := 53) dm_X2_copyOf_52 rfl rfl rfl rfl ?_
  refine me1 (pc' := 54) dm_X2_copyOf_53 rfl rfl rfl rfl ?_
  refine me3 (pc' := 57) dm_X2_copyOf_54 (g_get (v := .ref 7) (lu (n := 2) (j := 2) hn rfl) rfl rfl (Nat.le_of_ble_eq_true rfl)) rfl rfl rfl ?_
  refine me1 (pc' := 58) dm_X2_copyOf_57 rfl rfl rfl rfl ?_
  refine me3 (pc' := 59) dm_X2_copyOf_58 (g_lald (v := (0 : Int64)) (lu (n := 2) (j := 5) hn rfl) rfl (by decide) rfl (Nat.le_of_ble_eq_true rfl)) rfl rfl rfl ?_
  refine me3 (pc' := 60) dm_X2_copyOf_59 (g_last (le_ (n := 2) (u := 100) (v := 25) (j := 3) hn rfl hv rfl) (se (n := 2) (u := 100) (v := 25) (j := 3) hn rfl hv _) rfl (by decide) (Nat.le_of_ble_eq_true rfl)) rfl rfl rfl ?_
  refine me1 (pc' := 61) dm_X2_copyOf_60 rfl rfl rfl rfl ?_
  refine me3 (pc' := 64) dm_X2_copyOf_61 (g_get (v := .ref 131) (le_ (n := 2) (u := 100) (v := 25) (j := 0) hn rfl hv rfl) rfl rfl (Nat.le_of_ble_eq_true rfl)) rfl rfl rfl ?_
  refine me1 (pc' := 65) dm_X2_copyOf_64 rfl rfl rfl rfl ?_
  refine me1 (pc' := 66) dm_X2_copyOf_65 rfl rfl rfl rfl ?_
  refine me3 (pc' := 69) dm_X2_copyOf_66 (g_get (v := .ref 8) (lu (n := 2) (j := 2) hn rfl) rfl rfl (Nat.le_of_ble_eq_true rfl)) rfl rfl rfl ?_
  refine me1 (pc' := 70) dm_X2_copyOf_69 rfl rfl rfl rfl ?_
  refine me3 (pc' := 71) dm_X2_copyOf_70 (g_aald (v := .null) (lu (n := 2) (j := 6) hn rfl) rfl (by decide) rfl (Nat.le_of_ble_eq_true rfl)) rfl rfl rfl ?_
  refine me3 (pc' := 72) dm_X2_copyOf_71 (g_aastn (le_ (n := 2) (u := 100) (v := 25) (j := 4) hn rfl hv rfl) (se (n := 2) (u := 100) (v := 25) (j := 4) hn rfl hv _) rfl (by decide) (Nat.le_of_ble_eq_true rfl)) rfl rfl rfl ?_
  refine me1 (pc' := 75) (L' := [(2, .int (21 : Int32)), (0, .ref 127), (1, .ref 4)]) dm_X2_copyOf_72 rfl rfl rfl rfl ?_
  refine me2 (pc' := 18) dm_X2_copyOf_75 rfl rfl rfl ?_
  refine me1 (pc' := 19) dm_X2_copyOf_18 rfl rfl rfl rfl ?_
  refine me0 (pc' := 21) (S' := .int (40 : Int32) :: _) dm_X2_copyOf_19 rfl rfl rfl rfl ?_
  refine me_2f (pc' := 24) dm_X2_copyOf_21 rfl (by decide) rfl ?_
  refine me1 (pc' := 25) dm_X2_copyOf_24 rfl rfl rfl rfl ?_
  refine me3 (pc' := 28) dm_X2_copyOf_25 (g_get (v := .ref 128) (le_ (n := 2) (u := 100) (v := 25) (j := 0) hn rfl hv rfl) rfl rfl (Nat.le_of_ble_eq_true rfl)) rfl rfl rfl ?_
  refine me1 (pc' := 29) dm_X2_copyOf_28 rfl rfl rfl rfl ?_
  refine me1 (pc' := 30) dm_X2_copyOf_29 rfl rfl rfl rfl ?_
  refine me3 (pc' := 33) dm_X2_copyOf_30 (g_get (v := .ref 5) (lu (n := 2) (j := 2) hn rfl) rfl rfl (Nat.le_of_ble_eq_true rfl)) rfl rfl rfl ?_
  refine me1 (pc' := 34) dm_X2_copyOf_33 rfl rfl rfl rfl ?_
  refine me3 (pc' := 35) dm_X2_copyOf_34 (g_lald (v := (0 : Int64)) (lu (n := 2) (j := 3) hn rfl) rfl (by decide) rfl (Nat.le_of_ble_eq_true rfl)) rfl rfl rfl ?_
  refine me3 (pc' := 36) dm_X2_copyOf_35 (g_last (le_ (n := 2) (u := 100) (v := 25) (j := 1) hn rfl hv rfl) (se (n := 2) (u := 100) (v := 25) (j := 1) hn rfl hv _) rfl (by decide) (Nat.le_of_ble_eq_true rfl)) rfl rfl rfl ?_
  refine me1 (pc' := 37) dm_X2_copyOf_36 rfl rfl rfl rfl ?_
  refine me3 (pc' := 40) dm_X2_copyOf_37 (g_get (v := .ref 129) (le_ (n := 2) (u := 100) (v := 25) (j := 0) hn rfl hv rfl) rfl rfl (Nat.le_of_ble_eq_true rfl)) rfl rfl rfl ?_
  refine me1 (pc' := 41) dm_X2_copyOf_40 rfl rfl rfl rfl ?_
  refine me1 (pc' := 42) dm_X2_copyOf_41 rfl rfl rfl rfl ?_
  refine me3 (pc' := 45) dm_X2_copyOf_42 (g_get (v := .ref 6) (lu (n := 2) (j := 2) hn rfl) rfl rfl (Nat.le_of_ble_eq_true rfl)) rfl rfl rfl ?_
  refine me1 (pc' := 46) dm_X2_copyOf_45 rfl rfl rfl rfl ?_
  refine me3 (pc' := 47) dm_X2_copyOf_46 (g_aald (v := .null) (lu (n := 2) (j := 4) hn rfl) rfl (by decide) rfl (Nat.le_of_ble_eq_true rfl)) rfl rfl rfl ?_
  refine me3 (pc' := 48) dm_X2_copyOf_47 (g_aastn (le_ (n := 2) (u := 100) (v := 25) (j := 2) hn rfl hv rfl) (se (n := 2) (u := 100) (v := 25) (j := 2) hn rfl hv _) rfl (by decide) (Nat.le_of_ble_eq_true rfl)) rfl rfl rfl ?_
  refine me1 (pc' := 49) dm_X2_copyOf_48 rfl rfl rfl rfl ?_
  refine me3 (pc' := 52) dm_X2_copyOf_49 (g_get (v := .ref 130) (le_ (n := 2) (u := 100) (v := 25) (j := 0) hn rfl hv rfl) rfl rfl (Nat.le_of_ble_eq_true rfl)) rfl rfl rfl ?_
  refine me1 (pc' := 53) dm_X2_copyOf_52 rfl rfl rfl rfl ?_
  refine me1 (pc' := 54) dm_X2_copyOf_53 rfl rfl rfl rfl ?_
  refine me3 (pc' := 57) dm_X2_copyOf_54 (g_get (v := .ref 7) (lu (n := 2) (j := 2) hn rfl) rfl rfl (Nat.le_of_ble_eq_true rfl)) rfl rfl rfl ?_
  refine me1 (pc' := 58) dm_X2_copyOf_57 rfl rfl rfl rfl ?_
  refine me3 (pc' := 59) dm_X2_copyOf_58 (g_lald (v := (0 : Int64)) (lu (n := 2) (j := 5) hn rfl) rfl (by decide) rfl (Nat.le_of_ble_eq_true rfl)) rfl rfl rfl ?_
  refine me3 (pc' := 60) dm_X2_copyOf_59 (g_last (le_ (n := 2) (u := 100) (v := 25) (j := 3) hn rfl hv rfl) (se (n := 2) (u := 100) (v := 25) (j := 3) hn rfl hv _) rfl (by decide) (Nat.le_of_ble_eq_true rfl)) rfl rfl rfl ?_
  refine me1 (pc' := 61) dm_X2_copyOf_60 rfl rfl rfl rfl ?_
  refine me3 (pc' := 64) dm_X2_copyOf_61 (g_get (v := .ref 131) (le_ (n := 2) (u := 100) (v := 25) (j := 0) hn rfl hv rfl) rfl rfl (Nat.le_of_ble_eq_true rfl)) rfl rfl rfl ?_
  refine me1 (pc' := 65) dm_X2_copyOf_64 rfl rfl rfl rfl ?_
  refine me1 (pc' := 66) dm_X2_copyOf_65 rfl rfl rfl rfl ?_
  refine me3 (pc' := 69) dm_X2_copyOf_66 (g_get (v := .ref 8) (lu (n := 2) (j := 2) hn rfl) rfl rfl (Nat.le_of_ble_eq_true rfl)) rfl rfl rfl ?_
  refine me1 (pc' := 70) dm_X2_copyOf_69 rfl rfl rfl rfl ?_
  refine me3 (pc' := 71) dm_X2_copyOf_70 (g_aald (v := .null) (lu (n := 2) (j := 6) hn rfl) rfl (by decide) rfl (Nat.le_of_ble_eq_true rfl)) rfl rfl rfl ?_
  refine me3 (pc' := 72) dm_X2_copyOf_71 (g_aastn (le_ (n := 2) (u := 100) (v := 25) (j := 4) hn rfl hv rfl) (se (n := 2) (u := 100) (v := 25) (j := 4) hn rfl hv _) rfl (by decide) (Nat.le_of_ble_eq_true rfl)) rfl rfl rfl ?_
  refine me1 (pc' := 75) (L' := [(2, .int (22 : Int32)), (0, .ref 127), (1, .ref 4)]) dm_X2_copyOf_72 rfl rfl rfl rfl ?_
  refine me2 (pc' := 18) dm_X2_copyOf_75 rfl rfl rfl ?_
  refine me1 (pc' := 19) dm_X2_copyOf_18 rfl rfl rfl rfl ?_
  refine me0 (pc' := 21) (S' := .int (40 : Int32) :: _) dm_X2_copyOf_19 rfl rfl rfl rfl ?_
  refine me_2f (pc' := 24) dm_X2_copyOf_21 rfl (by decide) rfl ?_
  refine me1 (pc' := 25) dm_X2_copyOf_24 rfl rfl rfl rfl ?_
  refine me3 (pc' := 28) dm_X2_copyOf_25 (g_get (v := .ref 128) (le_ (n := 2) (u := 100) (v := 25) (j := 0) hn rfl hv rfl) rfl rfl (Nat.le_of_ble_eq_true rfl)) rfl rfl rfl ?_
  refine me1 (pc' := 29) dm_X2_copyOf_28 rfl rfl rfl rfl ?_
  refine me1 (pc' := 30) dm_X2_copyOf_29 rfl rfl rfl rfl ?_
  refine me3 (pc' := 33) dm_X2_copyOf_30 (g_get (v := .ref 5) (lu (n := 2) (j := 2) hn rfl) rfl rfl (Nat.le_of_ble_eq_true rfl)) rfl rfl rfl ?_
  refine me1 (pc' := 34) dm_X2_copyOf_33 rfl rfl rfl rfl ?_
  refine me3 (pc' := 35) dm_X2_copyOf_34 (g_lald (v := (0 : Int64)) (lu (n := 2) (j := 3) hn rfl) rfl (by decide) rfl (Nat.le_of_ble_eq_true rfl)) rfl rfl rfl ?_
  refine me3 (pc' := 36) dm_X2_copyOf_35 (g_last (le_ (n := 2) (u := 100) (v := 25) (j := 1) hn rfl hv rfl) (se (n := 2) (u := 100) (v := 25) (j := 1) hn rfl hv _) rfl (by decide) (Nat.le_of_ble_eq_true rfl)) rfl rfl rfl ?_
  refine me1 (pc' := 37) dm_X2_copyOf_36 rfl rfl rfl rfl ?_
  refine me3 (pc' := 40) dm_X2_copyOf_37 (g_get (v := .ref 129) (le_ (n := 2) (u := 100) (v := 25) (j := 0) hn rfl hv rfl) rfl rfl (Nat.le_of_ble_eq_true rfl)) rfl rfl rfl ?_
  refine me1 (pc' := 41) dm_X2_copyOf_40 rfl rfl rfl rfl ?_
  refine me1 (pc' := 42) dm_X2_copyOf_41 rfl rfl rfl rfl ?_
  refine me3 (pc' := 45) dm_X2_copyOf_42 (g_get (v := .ref 6) (lu (n := 2) (j := 2) hn rfl) rfl rfl (Nat.le_of_ble_eq_true rfl)) rfl rfl rfl ?_
  refine me1 (pc' := 46) dm_X2_copyOf_45 rfl rfl rfl rfl ?_
  refine me3 (pc' := 47) dm_X2_copyOf_46 (g_aald (v := .null) (lu (n := 2) (j := 4) hn rfl) rfl (by decide) rfl (Nat.le_of_ble_eq_true rfl)) rfl rfl rfl ?_
  refine me3 (pc' := 48) dm_X2_copyOf_47 (g_aastn (le_ (n := 2) (u := 100) (v := 25) (j := 2) hn rfl hv rfl) (se (n := 2) (u := 100) (v := 25) (j := 2) hn rfl hv _) rfl (by decide) (Nat.le_of_ble_eq_true rfl)) rfl rfl rfl ?_
  refine me1 (pc' := 49) dm_X2_copyOf_48 rfl rfl rfl rfl ?_
  refine me3 (pc' := 52) dm_X2_copyOf_49 (g_get (v := .ref 130) (le_ (n := 2) (u := 100) (v := 25) (j := 0) hn rfl hv rfl) rfl rfl (Nat.le_of_ble_eq_true rfl)) rfl rfl rfl ?_
  refine me1 (pc' := 53) dm_X2_copyOf_52 rfl rfl rfl rfl ?_
  refine me1 (pc' := 54) dm_X2_copyOf_53 rfl rfl rfl rfl ?_
  refine me3 (pc' := 57) dm_X2_copyOf_54 (g_get (v := .ref 7) (lu (n := 2) (j := 2) hn rfl) rfl rfl (Nat.le_of_ble_eq_true rfl)) rfl rfl rfl ?_
  refine me1 (pc' := 58) dm_X2_copyOf_57 rfl rfl rfl rfl ?_
  refine me3 (pc' := 59) dm_X2_copyOf_58 (g_lald (v := (0 : Int64)) (lu (n := 2) (j := 5) hn rfl) rfl (by decide) rfl (Nat.le_of_ble_eq_true rfl)) rfl rfl rfl ?_
  refine me3 (pc' := 60) dm_X2_copyOf_59 (g_last (le_ (n := 2) (u := 100) (v := 25) (j := 3) hn rfl hv rfl) (se (n := 2) (u := 100) (v := 25) (j := 3) hn rfl hv _) rfl (by decide) (Nat.le_of_ble_eq_true rfl)) rfl rfl rfl ?_
  refine me1 (pc' := 61) dm_X2_copyOf_60 rfl rfl rfl rfl ?_
  refine me3 (pc' := 64) dm_X2_copyOf_61 (g_get (v := .ref 131) (le_ (n := 2) (u := 100) (v := 25) (j := 0) hn rfl hv rfl) rfl rfl (Nat.le_of_ble_eq_true rfl)) rfl rfl rfl ?_
  refine me1 (pc' := 65) dm_X2_copyOf_64 rfl rfl rfl rfl ?_
  refine me1 (pc' := 66) dm_X2_copyOf_65 rfl rfl rfl rfl ?_
  refine me3 (pc' := 69) dm_X2_copyOf_66 (g_get (v := .ref 8) (lu (n := 2) (j := 2) hn rfl) rfl rfl (Nat.le_of_ble_eq_true rfl)) rfl rfl rfl ?_
  refine me1 (pc' := 70) dm_X2_copyOf_69 rfl rfl rfl rfl ?_
  refine me3 (pc' := 71) dm_X2_copyOf_70 (g_aald (v := .null) (lu (n := 2) (j := 6) hn rfl) rfl (by decide) rfl (Nat.le_of_ble_eq_true rfl)) rfl rfl rfl ?_
  refine me3 (pc' := 72) dm_X2_copyOf_71 (g_aastn (le_ (n := 2) (u := 100) (v := 25) (j := 4) hn rfl hv rfl) (se (n := 2) (u := 100) (v := 25) (j := 4) hn rfl hv _) rfl (by decide) (Nat.le_of_ble_eq_true rfl)) rfl rfl rfl ?_
  refine me1 (pc' := 75) (L' := [(2, .int (23 : Int32)), (0, .ref 127), (1, .ref 4)]) dm_X2_copyOf_72 rfl rfl rfl rfl ?_
  refine me2 (pc' := 18) dm_X2_copyOf_75 rfl rfl rfl ?_
  refine me1 (pc' := 19) dm_X2_copyOf_18 rfl rfl rfl rfl ?_
  refine me0 (pc' := 21) (S' := .int (40 : Int32) :: _) dm_X2_copyOf_19 rfl rfl rfl rfl ?_
  refine me_2f (pc' := 24) dm_X2_copyOf_21 rfl (by decide) rfl ?_
  refine me1 (pc' := 25) dm_X2_copyOf_24 rfl rfl rfl rfl ?_
  refine me3 (pc' := 28) dm_X2_copyOf_25 (g_get (v := .ref 128) (le_ (n := 2) (u := 100) (v := 25) (j := 0) hn rfl hv rfl) rfl rfl (Nat.le_of_ble_eq_true rfl)) rfl rfl rfl ?_
  refine me1 (pc' := 29) dm_X2_copyOf_28 rfl rfl rfl rfl ?_
  refine me1 (pc' := 30) dm_X2_copyOf_29 rfl rfl rfl rfl ?_
  refine me3 (pc' := 33) dm_X2_copyOf_30 (g_get (v := .ref 5) (lu (n := 2) (j := 2) hn rfl) rfl rfl (Nat.le_of_ble_eq_true rfl)) rfl rfl rfl ?_
  refine me1 (pc' := 34) dm_X2_copyOf_33 rfl rfl rfl rfl ?_
  refine me3 (pc' := 35) dm_X2_copyOf_34 (g_lald (v := (0 : Int64)) (lu (n := 2) (j := 3) hn rfl) rfl (by decide) rfl (Nat.le_of_ble_eq_true rfl)) rfl rfl rfl ?_
  refine me3 (pc' := 36) dm_X2_copyOf_35 (g_last (le_ (n := 2) (u := 100) (v := 25) (j := 1) hn rfl hv rfl) (se (n := 2) (u := 100) (v := 25) (j := 1) hn rfl hv _) rfl (by decide) (Nat.le_of_ble_eq_true rfl)) rfl rfl rfl ?_
  refine me1 (pc' := 37) dm_X2_copyOf_36 rfl rfl rfl rfl ?_
  refine me3 (pc' := 40) dm_X2_copyOf_37 (g_get (v := .ref 129) (le_ (n := 2) (u := 100) (v := 25) (j := 0) hn rfl hv rfl) rfl rfl (Nat.le_of_ble_eq_true rfl)) rfl rfl rfl ?_
  refine me1 (pc' := 41) dm_X2_copyOf_40 rfl rfl rfl rfl ?_
  refine me1 (pc' := 42) dm_X2_copyOf_41 rfl rfl rfl rfl ?_
  refine me3 (pc' := 45) dm_X2_copyOf_42 (g_get (v := .ref 6) (lu (n := 2) (j := 2) hn rfl) rfl rfl (Nat.le_of_ble_eq_true rfl)) rfl rfl rfl ?_
  refine me1 (pc' := 46) dm_X2_copyOf_45 rfl rfl rfl rfl ?_
  refine me3 (pc' := 47) dm_X2_copyOf_46 (g_aald (v := .null) (lu (n := 2) (j := 4) hn rfl) rfl (by decide) rfl (Nat.le_of_ble_eq_true rfl)) rfl rfl rfl ?_
  refine me3 (pc' := 48) dm_X2_copyOf_47 (g_aastn (le_ (n := 2) (u := 100) (v := 25) (j := 2) hn rfl hv rfl) (se (n := 2) (u := 100) (v := 25) (j := 2) hn rfl hv _) rfl (by decide) (Nat.le_of_ble_eq_true rfl)) rfl rfl rfl ?_
  refine me1 (pc' := 49) dm_X2_copyOf_48 rfl rfl rfl rfl ?_
  refine me3 (pc' := 52) dm_X2_copyOf_49 (g_get (v := .ref 130) (le_ (n := 2) (u := 100) (v := 25) (j := 0) hn rfl hv rfl) rfl rfl (Nat.le_of_ble_eq_true rfl)) rfl rfl rfl ?_
  refine me1 (pc' := 53) dm_X2_copyOf_52 rfl rfl rfl rfl ?_
  refine me1 (pc' := 54) dm_X2_copyOf_53 rfl rfl rfl rfl ?_
  refine me3 (pc' := 57) dm_X2_copyOf_54 (g_get (v := .ref 7) (lu (n := 2) (j := 2) hn rfl) rfl rfl (Nat.le_of_ble_eq_true rfl)) rfl rfl rfl ?_
  refine me1 (pc' := 58) dm_X2_copyOf_57 rfl rfl rfl rfl ?_
  refine me3 (pc' := 59) dm_X2_copyOf_58 (g_lald (v := (0 : Int64)) (lu (n := 2) (j := 5) hn rfl) rfl (by decide) rfl (Nat.le_of_ble_eq_true rfl)) rfl rfl rfl ?_
  refine me3 (pc' := 60) dm_X2_copyOf_59 (g_last (le_ (n := 2) (u := 100) (v := 25) (j := 3) hn rfl hv rfl) (se (n := 2) (u := 100) (v := 25) (j := 3) hn rfl hv _) rfl (by decide) (Nat.le_of_ble_eq_true rfl)) rfl rfl rfl ?_
  refine me1 (pc' := 61) dm_X2_copyOf_60 rfl rfl rfl rfl ?_
  refine me3 (pc' := 64) dm_X2_copyOf_61 (g_get (v := .ref 131) (le_ (n := 2) (u := 100) (v := 25) (j := 0) hn rfl hv rfl) rfl rfl (Nat.le_of_ble_eq_true rfl)) rfl rfl rfl ?_
  refine me1 (pc' := 65) dm_X2_copyOf_64 rfl rfl rfl rfl ?_
  refine me1 (pc' := 66) dm_X2_copyOf_65 rfl rfl rfl rfl ?_
  refine me3 (pc' := 69) dm_X2_copyOf_66 (g_get (v := .ref 8) (lu (n := 2) (j := 2) hn rfl) rfl rfl (Nat.le_of_ble_eq_true rfl)) rfl rfl rfl ?_
  refine me1 (pc' := 70) dm_X2_copyOf_69 rfl rfl rfl rfl ?_
  refine me3 (pc' := 71) dm_X2_copyOf_70 (g_aald (v := .null) (lu (n := 2) (j := 6) hn rfl) rfl (by decide) rfl (Nat.le_of_ble_eq_true rfl)) rfl rfl rfl ?_
  refine me3 (pc' := 72) dm_X2_copyOf_71 (g_aastn (le_ (n := 2) (u := 100) (v := 25) (j := 4) hn rfl hv rfl) (se (n := 2) (u := 100) (v := 25) (j := 4) hn rfl hv _) rfl (by decide) (Nat.le_of_ble_eq_true rfl)) rfl rfl rfl ?_
  refine me1 (pc' := 75) (L' := [(2, .int (24 : Int32)), (0, .ref 127), (1, .ref 4)]) dm_X2_copyOf_72 rfl rfl rfl rfl ?_
  refine me2 (pc' := 18) dm_X2_copyOf_75 rfl rfl rfl ?_
  refine me1 (pc' := 19) dm_X2_copyOf_18 rfl rfl rfl rfl ?_
  refine me0 (pc' := 21) (S' := .int (40 : Int32) :: _) dm_X2_copyOf_19 rfl rfl rfl rfl ?_
  refine me_2f (pc' := 24) dm_X2_copyOf_21 rfl (by decide) rfl ?_
  refine me1 (pc' := 25) dm_X2_copyOf_24 rfl rfl rfl rfl ?_
  refine me3 (pc' := 28) dm_X2_copyOf_25 (g_get (v := .ref 128) (le_ (n := 2) (u := 100) (v := 25) (j := 0) hn rfl hv rfl) rfl rfl (Nat.le_of_ble_eq_true rfl)) rfl rfl rfl ?_
  refine me1 (pc' := 29) dm_X2_copyOf_28 rfl rfl rfl rfl ?_
  refine me1 (pc' := 30) dm_X2_copyOf_29 rfl rfl rfl rfl ?_
  refine me3 (pc' := 33) dm_X2_copyOf_30 (g_get (v := .ref 5) (lu (n := 2) (j := 2) hn rfl) rfl rfl (Nat.le_of_ble_eq_true rfl)) rfl rfl rfl ?_
  refine me1 (pc' := 34) dm_X2_copyOf_33 rfl rfl rfl rfl ?_
  refine me3 (pc' := 35) dm_X2_copyOf_34 (g_lald (v := (0 : Int64)) (lu (n := 2) (j := 3) hn rfl) rfl (by decide) rfl (Nat.le_of_ble_eq_true rfl)) rfl rfl rfl ?_
  refine me3 (pc' := 36) dm_X2_copyOf_35 (g_last (le_ (n := 2) (u := 100) (v := 25) (j := 1) hn rfl hv rfl) (se (n := 2) (u := 100) (v := 25) (j := 1) hn rfl hv _) rfl (by decide) (Nat.le_of_ble_eq_true rfl)) rfl rfl rfl ?_
  refine me1 (pc' := 37) dm_X2_copyOf_36 rfl rfl rfl rfl ?_
  refine me3 (pc' := 40) dm_X2_copyOf_37 (g_get (v := .ref 129) (le_ (n := 2) (u := 100) (v := 25) (j := 0) hn rfl hv rfl) rfl rfl (Nat.le_of_ble_eq_true rfl)) rfl rfl rfl ?_
  refine me1 (pc' := 41) dm_X2_copyOf_40 rfl rfl rfl rfl ?_
  refine me1 (pc' := 42) dm_X2_copyOf_41 rfl rfl rfl rfl ?_
  refine me3 (pc' := 45) dm_X2_copyOf_42 (g_get (v := .ref 6) (lu (n := 2) (j := 2) hn rfl) rfl rfl (Nat.le_of_ble_eq_true rfl)) rfl rfl rfl ?_
  refine me1 (pc' := 46) dm_X2_copyOf_45 rfl rfl rfl rfl ?_
  refine me3 (pc' := 47) dm_X2_copyOf_46 (g_aald (v := .null) (lu (n := 2) (j := 4) hn rfl) rfl (by decide) rfl (Nat.le_of_ble_eq_true rfl)) rfl rfl rfl ?_
  refine me3 (pc' := 48) dm_X2_copyOf_47 (g_aastn (le_ (n := 2) (u := 100) (v := 25) (j := 2) hn rfl hv rfl) (se (n := 2) (u := 100) (v := 25) (j := 2) hn rfl hv _) rfl (by decide) (Nat.le_of_ble_eq_true rfl)) rfl rfl rfl ?_
  refine me1 (pc' := 49) dm_X2_copyOf_48 rfl rfl rfl rfl ?_
  refine me3 (pc' := 52) dm_X2_copyOf_49 (g_get (v := .ref 130) (le_ (n := 2) (u := 100) (v := 25) (j := 0) hn rfl hv rfl) rfl rfl (Nat.le_of_ble_eq_true rfl)) rfl rfl rfl ?_
  refine me1 (pc' := 53) dm_X2_copyOf_52 rfl rfl rfl rfl ?_
  refine me1 (pc' := 54) dm_X2_copyOf_53 rfl rfl rfl rfl ?_
  refine me3 (pc' := 57) dm_X2_copyOf_54 (g_get (v := .ref 7) (lu (n := 2) (j := 2) hn rfl) rfl rfl (Nat.le_of_ble_eq_true rfl)) rfl rfl rfl ?_
  refine me1 (pc' := 58) dm_X2_copyOf_57 rfl rfl rfl rfl ?_
  refine me3 (pc' := 59) dm_X2_copyOf_58 (g_lald (v := (0 : Int64)) (lu (n := 2) (j := 5) hn rfl) rfl (by decide) rfl (Nat.le_of_ble_eq_true rfl)) rfl rfl rfl ?_
  refine me3 (pc' := 60) dm_X2_copyOf_59 (g_last (le_ (n := 2) (u := 100) (v := 25) (j := 3) hn rfl hv rfl) (se (n := 2) (u := 100) (v := 25) (j := 3) hn rfl hv _) rfl (by decide) (Nat.le_of_ble_eq_true rfl)) rfl rfl rfl ?_
  refine me1 (pc' := 61) dm_X2_copyOf_60 rfl rfl rfl rfl ?_
  refine me3 (pc' := 64) dm_X2_copyOf_61 (g_get (v := .ref 131) (le_ (n := 2) (u := 100) (v := 25) (j := 0) hn rfl hv rfl) rfl rfl (Nat.le_of_ble_eq_true rfl)) rfl rfl rfl ?_
  refine me1 (pc' := 65) dm_X2_copyOf_64 rfl rfl rfl rfl ?_
  refine me1 (pc' := 66) dm_X2_copyOf_65 rfl rfl rfl rfl ?_
  refine me3 (pc' := 69) dm_X2_copyOf_66 (g_get (v := .ref 8) (lu (n := 2) (j := 2) hn rfl) rfl rfl (Nat.le_of_ble_eq_true rfl)) rfl rfl rfl ?_
  refine me1 (pc' := 70) dm_X2_copyOf_69 rfl rfl rfl rfl ?_
  refine me3 (pc' := 71) dm_X2_copyOf_70 (g_aald (v := .null) (lu (n := 2) (j := 6) hn rfl) rfl (by decide) rfl (Nat.le_of_ble_eq_true rfl)) rfl rfl rfl ?_
  refine me3 (pc' := 72) dm_X2_copyOf_71 (g_aastn (le_ (n := 2) (u := 100) (v := 25) (j := 4) hn rfl hv rfl) (se (n := 2) (u := 100) (v := 25) (j := 4) hn rfl hv _) rfl (by decide) (Nat.le_of_ble_eq_true rfl)) rfl rfl rfl ?_
  refine me1 (pc' := 75) (L' := [(2, .int (25 : Int32)), (0, .ref 127), (1, .ref 4)]) dm_X2_copyOf_72 rfl rfl rfl rfl ?_
  refine me2 (pc' := 18) dm_X2_copyOf_75 rfl rfl rfl ?_
  refine me1 (pc' := 19) dm_X2_copyOf_18 rfl rfl rfl rfl ?_
  refine me0 (pc' := 21) (S' := .int (40 : Int32) :: _) dm_X2_copyOf_19 rfl rfl rfl rfl ?_
  refine me_2f (pc' := 24) dm_X2_copyOf_21 rfl (by decide) rfl ?_
  refine me1 (pc' := 25) dm_X2_copyOf_24 rfl rfl rfl rfl ?_
  refine me3 (pc' := 28) dm_X2_copyOf_25 (g_get (v := .ref 128) (le_ (n := 2) (u := 100) (v := 25) (j := 0) hn rfl hv rfl) rfl rfl (Nat.le_of_ble_eq_true rfl)) rfl rfl rfl ?_
  refine me1 (pc' := 29) dm_X2_copyOf_28 rfl rfl rfl rfl ?_
  refine me1 (pc' := 30) dm_X2_copyOf_29 rfl rfl rfl rfl ?_
  refine me3 (pc' := 33) dm_X2_copyOf_30 (g_get (v := .ref 5) (lu (n := 2) (j := 2) hn rfl) rfl rfl (Nat.le_of_ble_eq_true rfl)) rfl rfl rfl ?_
  refine me1 (pc' := 34) dm_X2_copyOf_33 rfl rfl rfl rfl ?_
  refine me3 (pc' := 35) dm_X2_copyOf_34 (g_lald (v := (0 : Int64)) (lu (n := 2) (j := 3) hn rfl) rfl (by decide) rfl (Nat.le_of_ble_eq_true rfl)) rfl rfl rfl ?_
  refine me3 (pc' := 36) dm_X2_copyOf_35 (g_last (le_ (n := 2) (u := 100) (v := 25) (j := 1) hn rfl hv rfl) (se (n := 2) (u := 100) (v := 25) (j := 1) hn rfl hv _) rfl (by decide) (Nat.le_of_ble_eq_true rfl)) rfl rfl rfl ?_
  refine me1 (pc' := 37) dm_X2_copyOf_36 rfl rfl rfl rfl ?_
  refine me3 (pc' := 40) dm_X2_copyOf_37 (g_get (v := .ref 129) (le_ (n := 2) (u := 100) (v := 25) (j := 0) hn rfl hv rfl) rfl rfl (Nat.le_of_ble_eq_true rfl)) rfl rfl rfl ?_
  refine me1 (pc' := 41) dm_X2_copyOf_40 rfl rfl rfl rfl ?_
  refine me1 (pc' := 42) dm_X2_copyOf_41 rfl rfl rfl rfl ?_
  refine me3 (pc' := 45) dm_X2_copyOf_42 (g_get (v := .ref 6) (lu (n := 2) (j := 2) hn rfl) rfl rfl (Nat.le_of_ble_eq_true rfl)) rfl rfl rfl ?_
  refine me1 (pc' := 46) dm_X2_copyOf_45 rfl rfl rfl rfl ?_
  refine me3 (pc' := 47) dm_X2_copyOf_46 (g_aald (v := .null) (lu (n := 2) (j := 4) hn rfl) rfl (by decide) rfl (Nat.le_of_ble_eq_true rfl)) rfl rfl rfl ?_
  refine me3 (pc' := 48) dm_X2_copyOf_47 (g_aastn (le_ (n := 2) (u := 100) (v := 25) (j := 2) hn rfl hv rfl) (se (n := 2) (u := 100) (v := 25) (j := 2) hn rfl hv _) rfl (by decide) (Nat.le_of_ble_eq_true rfl)) rfl rfl rfl ?_
  refine me1 (pc' := 49) dm_X2_copyOf_48 rfl rfl rfl rfl ?_
  refine me3 (pc' := 52) dm_X2_copyOf_49 (g_get (v := .ref 130) (le_ (n := 2) (u := 100) (v := 25) (j := 0) hn rfl hv rfl) rfl rfl (Nat.le_of_ble_eq_true rfl)) rfl rfl rfl ?_
  refine me1 (pc' := 53) dm_X2_copyOf_52 rfl rfl rfl rfl ?_
  refine me1 (pc' := 54) dm_X2_copyOf_53 rfl rfl rfl rfl ?_
  refine me3 (pc' := 57) dm_X2_copyOf_54 (g_get (v := .ref 7) (lu (n := 2) (j := 2) hn rfl) rfl rfl (Nat.le_of_ble_eq_true rfl)) rfl rfl rfl ?_
  refine me1 (pc' := 58) dm_X2_copyOf_57 rfl rfl rfl rfl ?_
  refine me3 (pc' := 59) dm_X2_copyOf_58 (g_lald (v := (0 : Int64)) (lu (n := 2) (j := 5) hn rfl) rfl (by decide) rfl (Nat.le_of_ble_eq_true rfl)) rfl rfl rfl ?_
  refine me3 (pc' := 60) dm_X2_copyOf_59 (g_last (le_ (n := 2) (u := 100) (v := 25) (j := 3) hn rfl hv rfl) (se (n := 2) (u := 100) (v := 25) (j := 3) hn rfl hv _) rfl (by decide) (Nat.le_of_ble_eq_true rfl)) rfl rfl rfl ?_
  refine me1 (pc' := 61) dm_X2_copyOf_60 rfl rfl rfl rfl ?_
  refine me3 (pc' := 64) dm_X2_copyOf_61 (g_get (v := .ref 131) (le_ (n := 2) (u := 100) (v := 25) (j := 0) hn rfl hv rfl) rfl rfl (Nat.le_of_ble_eq_true rfl)) rfl rfl rfl ?_
  refine me1 (pc' := 65) dm_X2_copyOf_64 rfl rfl rfl rfl ?_
  refine me1 (pc' := 66) dm_X2_copyOf_65 rfl rfl rfl rfl ?_
  refine me3 (pc' := 69) dm_X2_copyOf_66 (g_get (v := .ref 8) (lu (n := 2) (j := 2) hn rfl) rfl rfl (Nat.le_of_ble_eq_true rfl)) rfl rfl rfl ?_
  refine me1 (pc' := 70) dm_X2_copyOf_69 rfl rfl rfl rfl ?_
  refine me3 (pc' := 71) dm_X2_copyOf_70 (g_aald (v := .null) (lu (n := 2) (j := 6) hn rfl) rfl (by decide) rfl (Nat.le_of_ble_eq_true rfl)) rfl rfl rfl ?_
  refine me3 (pc' := 72) dm_X2_copyOf_71 (g_aastn (le_ (n := 2) (u := 100) (v := 25) (j := 4) hn rfl hv rfl) (se (n := 2) (u := 100) (v := 25) (j := 4) hn rfl hv _) rfl (by decide) (Nat.le_of_ble_eq_true rfl)) rfl rfl rfl ?_
  refine me1 (pc' := 75) (L' := [(2, .int (26 : Int32)), (0, .ref 127), (1, .ref 4)]) dm_X2_copyOf_72 rfl rfl rfl rfl ?_
  refine me2 (pc' := 18) dm_X2_copyOf_75 rfl rfl rfl ?_
  refine me1 (pc' := 19) dm_X2_copyOf_18 rfl rfl rfl rfl ?_
  refine me0 (pc' := 21) (S' := .int (40 : Int32) :: _) dm_X2_copyOf_19 rfl rfl rfl rfl ?_
  refine me_2f (pc' := 24) dm_X2_copyOf_21 rfl (by decide) rfl ?_
  refine me1 (pc' := 25) dm_X2_copyOf_24 rfl rfl rfl rfl ?_
  refine me3 (pc' := 28) dm_X2_copyOf_25 (g_get (v := .ref 128) (le_ (n := 2) (u := 100) (v := 25) (j := 0) hn rfl hv rfl) rfl rfl (Nat.le_of_ble_eq_true rfl)) rfl rfl rfl ?_
  refine me1 (pc' := 29) dm_X2_copyOf_28 rfl rfl rfl rfl ?_
  refine me1 (pc' := 30) dm_X2_copyOf_29 rfl rfl rfl rfl ?_
  refine me3 (pc' := 33) dm_X2_copyOf_30 (g_get (v := .ref 5) (lu (n := 2) (j := 2) hn rfl) rfl rfl (Nat.le_of_ble_eq_true rfl)) rfl rfl rfl ?_
  refine me1 (pc' := 34) dm_X2_copyOf_33 rfl rfl rfl rfl ?_
  refine me3 (pc' := 35) dm_X2_copyOf_34 (g_lald (v := (0 : Int64)) (lu (n := 2) (j := 3) hn rfl) rfl (by decide) rfl (Nat.le_of_ble_eq_true rfl)) rfl rfl rfl ?_
  refine me3 (pc' := 36) dm_X2_copyOf_35 (g_last (le_ (n := 2) (u := 100) (v := 25) (j := 1) hn rfl hv rfl) (se (n := 2) (u := 100) (v := 25) (j := 1) hn rfl hv _) rfl (by decide) (Nat.le_of_ble_eq_true rfl)) rfl rfl rfl ?_
  refine me1 (pc' := 37) dm_X2_copyOf_36 rfl rfl rfl rfl ?_
  refine me3 (pc' := 40) dm_X2_copyOf_37 (g_get (v := .ref 129) (le_ (n := 2) (u := 100) (v := 25) (j := 0) hn rfl hv rfl) rfl rfl (Nat.le_of_ble_eq_true rfl)) rfl rfl rfl ?_
  refine me1 (pc' := 41) dm_X2_copyOf_40 rfl rfl rfl rfl ?_
  refine me1 (pc' := 42) dm_X2_copyOf_41 rfl rfl rfl rfl ?_
  refine me3 (pc' := 45) dm_X2_copyOf_42 (g_get (v := .ref 6) (lu (n := 2) (j := 2) hn rfl) rfl rfl (Nat.le_of_ble_eq_true rfl)) rfl rfl rfl ?_
  refine me1 (pc' := 46) dm_X2_copyOf_45 rfl rfl rfl rfl ?_
  refine me3 (pc' := 47) dm_X2_copyOf_46 (g_aald (v := .null) (lu (n := 2) (j := 4) hn rfl) rfl (by decide) rfl (Nat.le_of_ble_eq_true rfl)) rfl rfl rfl ?_
  refine me3 (pc' := 48) dm_X2_copyOf_47 (g_aastn (le_ (n := 2) (u := 100) (v := 25) (j := 2) hn rfl hv rfl) (se (n := 2) (u := 100) (v := 25) (j := 2) hn rfl hv _) rfl (by decide) (Nat.le_of_ble_eq_true rfl)) rfl rfl rfl ?_
  refine me1 (pc' := 49) dm_X2_copyOf_48 rfl rfl rfl rfl ?_
  refine me3 (pc' := 52) dm_X2_copyOf_49 (g_get (v := .ref 130) (le_ (n := 2) (u := 100) (v := 25) (j := 0) hn rfl hv rfl) rfl rfl (Nat.le_of_ble_eq_true rfl)) rfl rfl rfl ?_
  refine me1 (pc' := 53) dm_X2_copyOf_52 rfl rfl rfl rfl ?_
  refine me1 (pc' := 54) dm_X2_copyOf_53 rfl rfl rfl rfl ?_
  refine me3 (pc' := 57) dm_X2_copyOf_54 (g_get (v := .ref 7) (lu (n := 2) (j := 2) hn rfl) rfl rfl (Nat.le_of_ble_eq_true rfl)) rfl rfl rfl ?_
  refine me1 (pc' := 58) dm_X2_copyOf_57 rfl rfl rfl rfl ?_
  refine me3 (pc' := 59) dm_X2_copyOf_58 (g_lald (v := (0 : Int64)) (lu (n := 2) (j := 5) hn rfl) rfl (by decide) rfl (Nat.le_of_ble_eq_true rfl)) rfl rfl rfl ?_
  refine me3 (pc' := 60) dm_X2_copyOf_59 (g_last (le_ (n := 2) (u := 100) (v := 25) (j := 3) hn rfl hv rfl) (se (n := 2) (u := 100) (v := 25) (j := 3) hn rfl hv _) rfl (by decide) (Nat.le_of_ble_eq_true rfl)) rfl rfl rfl ?_
  refine me1 (pc' := 61) dm_X2_copyOf_60 rfl rfl rfl rfl ?_
  refine me3 (pc' := 64) dm_X2_copyOf_61 (g_get (v := .ref 131) (le_ (n := 2) (u := 100) (v := 25) (j := 0) hn rfl hv rfl) rfl rfl (Nat.le_of_ble_eq_true rfl)) rfl rfl rfl ?_
  refine me1 (pc' := 65) dm_X2_copyOf_64 rfl rfl rfl rfl ?_
  refine me1 (pc' := 66) dm_X2_copyOf_65 rfl rfl rfl rfl ?_
  refine me3 (pc' := 69) dm_X2_copyOf_66 (g_get (v := .ref 8) (lu (n := 2) (j := 2) hn rfl) rfl rfl (Nat.le_of_ble_eq_true rfl)) rfl rfl rfl ?_
  refine me1 (pc' := 70) dm_X2_copyOf_69 rfl rfl rfl rfl ?_
  refine me3 (pc' := 71) dm_X2_copyOf_70 (g_aald (v := .null) (lu (n := 2) (j := 6) hn rfl) rfl (by decide) rfl (Nat.le_of_ble_eq_true rfl)) rfl rfl rfl ?_
  refine me3 (pc' := 72) dm_X2_copyOf_71 (g_aastn (le_ (n := 2) (u := 100) (v := 25) (j := 4) hn rfl hv rfl) (se (n := 2) (u := 100) (v := 25) (j := 4) hn rfl hv _) rfl (by decide) (Nat.le_of_ble_eq_true rfl)) rfl rfl rfl ?_
  refine me1 (pc' := 75) (L' := [(2, .int (27 : Int32)), (0, .ref 127), (1, .ref 4)]) dm_X2_copyOf_72 rfl rfl rfl rfl ?_
  refine me2 (pc' := 18) dm_X2_copyOf_75 rfl rfl rfl ?_
  refine me1 (pc' := 19) dm_X2_copyOf_18 rfl rfl rfl rfl ?_
  refine me0 (pc' := 21) (S' := .int (40 : Int32) :: _) dm_X2_copyOf_19 rfl rfl rfl rfl ?_
  refine me_2f (pc' := 24) dm_X2_copyOf_21 rfl (by decide) rfl ?_
  refine me1 (pc' := 25) dm_X2_copyOf_24 rfl rfl rfl rfl ?_
  refine me3 (pc' := 28) dm_X2_copyOf_25 (g_get (v := .ref 128) (le_ (n := 2) (u := 100) (v := 25) (j := 0) hn rfl hv rfl) rfl rfl (Nat.le_of_ble_eq_true rfl)) rfl rfl rfl ?_
  refine me1 (pc' := 29) dm_X2_copyOf_28 rfl rfl rfl rfl ?_
  refine me1 (pc' := 30) dm_X2_copyOf_29 rfl rfl rfl rfl ?_
  refine me3 (pc' := 33) dm_X2_copyOf_30 (g_get (v := .ref 5) (lu (n := 2) (j := 2) hn rfl) rfl rfl (Nat.le_of_ble_eq_true rfl)) rfl rfl rfl ?_
  refine me1 (pc' := 34) dm_X2_copyOf_33 rfl rfl rfl rfl ?_
  refine me3 (pc' := 35) dm_X2_copyOf_34 (g_lald (v := (0 : Int64)) (lu (n := 2) (j := 3) hn rfl) rfl (by decide) rfl (Nat.le_of_ble_eq_true rfl)) rfl rfl rfl ?_
  refine me3 (pc' := 36) dm_X2_copyOf_35 (g_last (le_ (n := 2) (u := 100) (v := 25) (j := 1) hn rfl hv rfl) (se (n := 2) (u := 100) (v := 25) (j := 1) hn rfl hv _) rfl (by decide) (Nat.le_of_ble_eq_true rfl)) rfl rfl rfl ?_
  refine me1 (pc' := 37) dm_X2_copyOf_36 rfl rfl rfl rfl ?_
  refine me3 (pc' := 40) dm_X2_copyOf_37 (g_get (v := .ref 129) (le_ (n := 2) (u := 100) (v := 25) (j := 0) hn rfl hv rfl) rfl rfl (Nat.le_of_ble_eq_true rfl)) rfl rfl rfl ?_
  refine me1 (pc' := 41) dm_X2_copyOf_40 rfl rfl rfl rfl ?_
  refine me1 (pc' := 42) dm_X2_copyOf_41 rfl rfl rfl rfl ?_
  refine me3 (pc' := 45) dm_X2_copyOf_42 (g_get (v := .ref 6) (lu (n := 2) (j := 2) hn rfl) rfl rfl (Nat.le_of_ble_eq_true rfl)) rfl rfl rfl ?_
  refine me1 (pc' := 46) dm_X2_copyOf_45 rfl rfl rfl rfl ?_
  refine me3 (pc' := 47) dm_X2_copyOf_46 (g_aald (v := .null) (lu (n := 2) (j := 4) hn rfl) rfl (by decide) rfl (Nat.le_of_ble_eq_true rfl)) rfl rfl rfl ?_
  refine me3 (pc' := 48) dm_X2_copyOf_47 (g_aastn (le_ (n := 2) (u := 100) (v := 25) (j := 2) hn rfl hv rfl) (se (n := 2) (u := 100) (v := 25) (j := 2) hn rfl hv _) rfl (by decide) (Nat.le_of_ble_eq_true rfl)) rfl rfl rfl ?_
  refine me1 (pc' := 49) dm_X2_copyOf_48 rfl rfl rfl rfl ?_
  refine me3 (pc' := 52) dm_X2_copyOf_49 (g_get (v := .ref 130) (le_ (n := 2) (u := 100) (v := 25) (j := 0) hn rfl hv rfl) rfl rfl (Nat.le_of_ble_eq_true rfl)) rfl rfl rfl ?_
  refine me1 (pc' := 53) dm_X2_copyOf_52 rfl rfl rfl rfl ?_
  refine me1 (pc' := 54) dm_X2_copyOf_53 rfl rfl rfl rfl ?_
  refine me3 (pc' := 57) dm_X2_copyOf_54 (g_get (v := .ref 7) (lu (n := 2) (j := 2) hn rfl) rfl rfl (Nat.le_of_ble_eq_true rfl)) rfl rfl rfl ?_
  refine me1 (pc' := 58) dm_X2_copyOf_57 rfl rfl rfl rfl ?_
  refine me3 (pc' := 59) dm_X2_copyOf_58 (g_lald (v := (0 : Int64)) (lu (n := 2) (j := 5) hn rfl) rfl (by decide) rfl (Nat.le_of_ble_eq_true rfl)) rfl rfl rfl ?_
  refine me3 (pc' := 60) dm_X2_copyOf_59 (g_last (le_ (n := 2) (u := 100) (v := 25) (j := 3) hn rfl hv rfl) (se (n := 2) (u := 100) (v := 25) (j := 3) hn rfl hv _) rfl (by decide) (Nat.le_of_ble_eq_true rfl)) rfl rfl rfl ?_
  refine me1 (pc' := 61) dm_X2_copyOf_60 rfl rfl rfl rfl ?_
  refine me3 (pc' := 64) dm_X2_copyOf_61 (g_get (v := .ref 131) (le_ (n := 2) (u := 100) (v := 25) (j := 0) hn rfl hv rfl) rfl rfl (Nat.le_of_ble_eq_true rfl)) rfl rfl rfl ?_
  refine me1 (pc' := 65) dm_X2_copyOf_64 rfl rfl rfl rfl ?_
  refine me1 (pc' := 66) dm_X2_copyOf_65 rfl rfl rfl rfl ?_
  refine me3 (pc' := 69) dm_X2_copyOf_66 (g_get (v := .ref 8) (lu (n := 2) (j := 2) hn rfl) rfl rfl (Nat.le_of_ble_eq_true rfl)) rfl rfl rfl ?_
  refine me1 (pc' := 70) dm_X2_copyOf_69 rfl rfl rfl rfl ?_
  refine me3 (pc' := 71) dm_X2_copyOf_70 (g_aald (v := .null) (lu (n := 2) (j := 6) hn rfl) rfl (by decide) rfl (Nat.le_of_ble_eq_true rfl)) rfl rfl rfl ?_
  refine me3 (pc' := 72) dm_X2_copyOf_71 (g_aastn (le_ (n := 2) (u := 100) (v := 25) (j := 4) hn rfl hv rfl) (se (n := 2) (u := 100) (v := 25) (j := 4) hn rfl hv _) rfl (by decide) (Nat.le_of_ble_eq_true rfl)) rfl rfl rfl ?_
  refine me1 (pc' := 75) (L' := [(2, .int (28 : Int32)), (0, .ref 127), (1, .ref 4)]) dm_X2_copyOf_72 rfl rfl rfl rfl ?_
  refine me2 (pc' := 18) dm_X2_copyOf_75 rfl rfl rfl ?_
  refine me1 (pc' := 19) dm_X2_copyOf_18 rfl rfl rfl rfl ?_
  refine me0 (pc' := 21) (S' := .int (40 : Int32) :: _) dm_X2_copyOf_19 rfl rfl rfl rfl ?_
  refine me_2f (pc' := 24) dm_X2_copyOf_21 rfl (by decide) rfl ?_
  refine me1 (pc' := 25) dm_X2_copyOf_24 rfl rfl rfl rfl ?_
  refine me3 (pc' := 28) dm_X2_copyOf_25 (g_get (v := .ref 128) (le_ (n := 2) (u := 100) (v := 25) (j := 0) hn rfl hv rfl) rfl rfl (Nat.le_of_ble_eq_true rfl)) rfl rfl rfl ?_
  refine me1 (pc' := 29) dm_X2_copyOf_28 rfl rfl rfl rfl ?_
  refine me1 (pc' := 30) dm_X2_copyOf_29 rfl rfl rfl rfl ?_
  refine me3 (pc' := 33) dm_X2_copyOf_30 (g_get (v := .ref 5) (lu (n := 2) (j := 2) hn rfl) rfl rfl (Nat.le_of_ble_eq_true rfl)) rfl rfl rfl ?_
  refine me1 (pc' := 34) dm_X2_copyOf_33 rfl rfl rfl rfl ?_
  refine me3 (pc' := 35) dm_X2_copyOf_34 (g_lald (v := (0 : Int64)) (lu (n := 2) (j := 3) hn rfl) rfl (by decide) rfl (Nat.le_of_ble_eq_true rfl)) rfl rfl rfl ?_
  refine me3 (pc' := 36) dm_X2_copyOf_35 (g_last (le_ (n := 2) (u := 100) (v := 25) (j := 1) hn rfl hv rfl) (se (n := 2) (u := 100) (v := 25) (j := 1) hn rfl hv _) rfl (by decide) (Nat.le_of_ble_eq_true rfl)) rfl rfl rfl ?_
  refine me1 (pc' := 37) dm_X2_copyOf_36 rfl rfl rfl rfl ?_
  refine me3 (pc' := 40) dm_X2_copyOf_37 (g_get (v := .ref 129) (le_ (n := 2) (u := 100) (v := 25) (j := 0) hn rfl hv rfl) rfl rfl (Nat.le_of_ble_eq_true rfl)) rfl rfl rfl ?_
  refine me1 (pc' := 41) dm_X2_copyOf_40 rfl rfl rfl rfl ?_
  refine me1 (pc' := 42) dm_X2_copyOf_41 rfl rfl rfl rfl ?_
  refine me3 (pc' := 45) dm_X2_copyOf_42 (g_get (v := .ref 6) (lu (n := 2) (j := 2) hn rfl) rfl rfl (Nat.le_of_ble_eq_true rfl)) rfl rfl rfl ?_
  refine me1 (pc' := 46) dm_X2_copyOf_45 rfl rfl rfl rfl ?_
  refine me3 (pc' := 47) dm_X2_copyOf_46 (g_aald (v := .null) (lu (n := 2) (j := 4) hn rfl) rfl (by decide) rfl (Nat.le_of_ble_eq_true rfl)) rfl rfl rfl ?_
  refine me3 (pc' := 48) dm_X2_copyOf_47 (g_aastn (le_ (n := 2) (u := 100) (v := 25) (j := 2) hn rfl hv rfl) (se (n := 2) (u := 100) (v := 25) (j := 2) hn rfl hv _) rfl (by decide) (Nat.le_of_ble_eq_true rfl)) rfl rfl rfl ?_
  refine me1 (pc' := 49) dm_X2_copyOf_48 rfl rfl rfl rfl ?_
  refine me3 (pc' := 52) dm_X2_copyOf_49 (g_get (v := .ref 130) (le_ (n := 2) (u := 100) (v := 25) (j := 0) hn rfl hv rfl) rfl rfl (Nat.le_of_ble_eq_true rfl)) rfl rfl rfl ?_
  refine me1 (pc' := 53) dm_X2_copyOf_52 rfl rfl rfl rfl ?_
  refine me1 (pc' := 54) dm_X2_copyOf_53 rfl rfl rfl rfl ?_
  refine me3 (pc' := 57) dm_X2_copyOf_54 (g_get (v := .ref 7) (lu (n := 2) (j := 2) hn rfl) rfl rfl (Nat.le_of_ble_eq_true rfl)) rfl rfl rfl ?_
  refine me1 (pc' := 58) dm_X2_copyOf_57 rfl rfl rfl rfl ?_
  refine me3 (pc' := 59) dm_X2_copyOf_58 (g_lald (v := (0 : Int64)) (lu (n := 2) (j := 5) hn rfl) rfl (by decide) rfl (Nat.le_of_ble_eq_true rfl)) rfl rfl rfl ?_
  refine me3 (pc' := 60) dm_X2_copyOf_59 (g_last (le_ (n := 2) (u := 100) (v := 25) (j := 3) hn rfl hv rfl) (se (n := 2) (u := 100) (v := 25) (j := 3) hn rfl hv _) rfl (by decide) (Nat.le_of_ble_eq_true rfl)) rfl rfl rfl ?_
  refine me1 (pc' := 61) dm_X2_copyOf_60 rfl rfl rfl rfl ?_
  refine me3 (pc' := 64) dm_X2_copyOf_61 (g_get (v := .ref 131) (le_ (n := 2) (u := 100) (v := 25) (j := 0) hn rfl hv rfl) rfl rfl (Nat.le_of_ble_eq_true rfl)) rfl rfl rfl ?_
  refine me1 (pc' := 65) dm_X2_copyOf_64 rfl rfl rfl rfl ?_
  refine me1 (pc' := 66) dm_X2_copyOf_65 rfl rfl rfl rfl ?_
  refine me3 (pc' := 69) dm_X2_copyOf_66 (g_get (v := .ref 8) (lu (n := 2) (j := 2) hn rfl) rfl rfl (Nat.le_of_ble_eq_true rfl)) rfl rfl rfl ?_
  refine me1 (pc' := 70) dm_X2_copyOf_69 rfl rfl rfl rfl ?_
  refine me3 (pc' := 71) dm_X2_copyOf_70 (g_aald (v := .null) (lu (n := 2) (j := 6) hn rfl) rfl (by decide) rfl (Nat.le_of_ble_eq_true rfl)) rfl rfl rfl ?_
  refine me3 (pc' := 72) dm_X2_copyOf_71 (g_aastn (le_ (n := 2) (u := 100) (v := 25) (j := 4) hn rfl hv rfl) (se (n := 2) (u := 100) (v := 25) (j := 4) hn rfl hv _) rfl (by decide) (Nat.le_of_ble_eq_true rfl)) rfl rfl rfl ?_
  refine me1 (pc' := 75) (L' := [(2, .int (29 : Int32)), (0, .ref 127), (1, .ref 4)]) dm_X2_copyOf_72 rfl rfl rfl rfl ?_
  refine me2 (pc' := 18) dm_X2_copyOf_75 rfl rfl rfl ?_
  refine me1 (pc' := 19) dm_X2_copyOf_18 rfl rfl rfl rfl ?_
  refine me0 (pc' := 21) (S' := .int (40 : Int32) :: _) dm_X2_copyOf_19 rfl rfl rfl rfl ?_
  refine me_2f (pc' := 24) dm_X2_copyOf_21 rfl (by decide) rfl ?_
  refine me1 (pc' := 25) dm_X2_copyOf_24 rfl rfl rfl rfl ?_
  refine me3 (pc' := 28) dm_X2_copyOf_25 (g_get (v := .ref 128) (le_ (n := 2) (u := 100) (v := 25) (j := 0) hn rfl hv rfl) rfl rfl (Nat.le_of_ble_eq_true rfl)) rfl rfl rfl ?_
  refine me1 (pc' := 29) dm_X2_copyOf_28 rfl rfl rfl rfl ?_
  refine me1 (pc' := 30) dm_X2_copyOf_29 rfl rfl rfl rfl ?_
  refine me3 (pc' := 33) dm_X2_copyOf_30 (g_get (v := .ref 5) (lu (n := 2) (j := 2) hn rfl) rfl rfl (Nat.le_of_ble_eq_true rfl)) rfl rfl rfl ?_
  refine me1 (pc' := 34) dm_X2_copyOf_33 rfl rfl rfl rfl ?_
  refine me3 (pc' := 35) dm_X2_copyOf_34 (g_lald (v := (0 : Int64)) (lu (n := 2) (j := 3) hn rfl) rfl (by decide) rfl (Nat.le_of_ble_eq_true rfl)) rfl rfl rfl ?_
  refine me3 (pc' := 36) dm_X2_copyOf_35 (g_last (le_ (n := 2) (u := 100) (v := 25) (j := 1) hn rfl hv rfl) (se (n := 2) (u := 100) (v := 25) (j := 1) hn rfl hv _) rfl (by decide) (Nat.le_of_ble_eq_true rfl)) rfl rfl rfl ?_
  refine me1 (pc' := 37) dm_X2_copyOf_36 rfl rfl rfl rfl ?_
  refine me3 (pc' := 40) dm_X2_copyOf_37 (g_get (v := .ref 129) (le_ (n := 2) (u := 100) (v := 25) (j := 0) hn rfl hv rfl) rfl rfl (Nat.le_of_ble_eq_true rfl)) rfl rfl rfl ?_
  refine me1 (pc' := 41) dm_X2_copyOf_40 rfl rfl rfl rfl ?_
  refine me1 (pc' := 42) dm_X2_copyOf_41 rfl rfl rfl rfl ?_
  refine me3 (pc' := 45) dm_X2_copyOf_42 (g_get (v := .ref 6) (lu (n := 2) (j := 2) hn rfl) rfl rfl (Nat.le_of_ble_eq_true rfl)) rfl rfl rfl ?_
  refine me1 (pc' := 46) dm_X2_copyOf_45 rfl rfl rfl rfl ?_
  refine me3 (pc' := 47) dm_X2_copyOf_46 (g_aald (v := .null) (lu (n := 2) (j := 4) hn rfl) rfl (by decide) rfl (Nat.le_of_ble_eq_true rfl)) rfl rfl rfl ?_
  refine me3 (pc' := 48) dm_X2_copyOf_47 (g_aastn (le_ (n := 2) (u := 100) (v := 25) (j := 2) hn rfl hv rfl) (se (n := 2) (u := 100) (v := 25) (j := 2) hn rfl hv _) rfl (by decide) (Nat.le_of_ble_eq_true rfl)) rfl rfl rfl ?_
  refine me1 (pc' := 49) dm_X2_copyOf_48 rfl rfl rfl rfl ?_
  refine me3 (pc' := 52) dm_X2_copyOf_49 (g_get (v := .ref 130) (le_ (n := 2) (u := 100) (v := 25) (j := 0) hn rfl hv rfl) rfl rfl (Nat.le_of_ble_eq_true rfl)) rfl rfl rfl ?_
  refine me1 (pc' := 53) dm_X2_copyOf_52 rfl rfl rfl rfl ?_
  refine me1 (pc' := 54) dm_X2_copyOf_53 rfl rfl rfl rfl ?_
  refine me3 (pc' := 57) dm_X2_copyOf_54 (g_get (v := .ref 7) (lu (n := 2) (j := 2) hn rfl) rfl rfl (Nat.le_of_ble_eq_true rfl)) rfl rfl rfl ?_
  refine me1 (pc' := 58) dm_X2_copyOf_57 rfl rfl rfl rfl ?_
  refine me3 (pc' := 59) dm_X2_copyOf_58 (g_lald (v := (0 : Int64)) (lu (n := 2) (j := 5) hn rfl) rfl (by decide) rfl (Nat.le_of_ble_eq_true rfl)) rfl rfl rfl ?_
  refine me3 (pc' := 60) dm_X2_copyOf_59 (g_last (le_ (n := 2) (u := 100) (v := 25) (j := 3) hn rfl hv rfl) (se (n := 2) (u := 100) (v := 25) (j := 3) hn rfl hv _) rfl (by decide) (Nat.le_of_ble_eq_true rfl)) rfl rfl rfl ?_
  refine me1 (pc' := 61) dm_X2_copyOf_60 rfl rfl rfl rfl ?_
  refine me3 (pc' := 64) dm_X2_copyOf_61 (g_get (v := .ref 131) (le_ (n := 2) (u := 100) (v := 25) (j := 0) hn rfl hv rfl) rfl rfl (Nat.le_of_ble_eq_true rfl)) rfl rfl rfl ?_
  refine me1 (pc' := 65) dm_X2_copyOf_64 rfl rfl rfl rfl ?_
  refine me1 (pc' := 66) dm_X2_copyOf_65 rfl rfl rfl rfl ?_
  refine me3 (pc' := 69) dm_X2_copyOf_66 (g_get (v := .ref 8) (lu (n := 2) (j := 2) hn rfl) rfl rfl (Nat.le_of_ble_eq_true rfl)) rfl rfl rfl ?_
  refine me1 (pc' := 70) dm_X2_copyOf_69 rfl rfl rfl rfl ?_
  refine me3 (pc' := 71) dm_X2_copyOf_70 (g_aald (v := .null) (lu (n := 2) (j := 6) hn rfl) rfl (by decide) rfl (Nat.le_of_ble_eq_true rfl)) rfl rfl rfl ?_
  refine me3 (pc' := 72) dm_X2_copyOf_71 (g_aastn (le_ (n := 2) (u := 100) (v := 25) (j := 4) hn rfl hv rfl) (se (n := 2) (u := 100) (v := 25) (j := 4) hn rfl hv _) rfl (by decide) (Nat.le_of_ble_eq_true rfl)) rfl rfl rfl ?_
  refine me1 (pc' := 75) (L' := [(2, .int (30 : Int32)), (0, .ref 127), (1, .ref 4)]) dm_X2_copyOf_72 rfl rfl rfl rfl ?_
  refine me2 (pc' := 18) dm_X2_copyOf_75 rfl rfl rfl ?_
  refine me1 (pc' := 19) dm_X2_copyOf_18 rfl rfl rfl rfl ?_
  refine me0 (pc' := 21) (S' := .int (40 : Int32) :: _) dm_X2_copyOf_19 rfl rfl rfl rfl ?_
  refine me_2f (pc' := 24) dm_X2_copyOf_21 rfl (by decide) rfl ?_
  refine me1 (pc' := 25) dm_X2_copyOf_24 rfl rfl rfl rfl ?_
  refine me3 (pc' := 28) dm_X2_copyOf_25 (g_get (v := .ref 128) (le_ (n := 2) (u := 100) (v := 25) (j := 0) hn rfl hv rfl) rfl rfl (Nat.le_of_ble_eq_true rfl)) rfl rfl rfl ?_
  refine me1 (pc' := 29) dm_X2_copyOf_28 rfl rfl rfl rfl ?_
  refine me1 (pc' := 30) dm_X2_copyOf_29 rfl rfl rfl rfl ?_
  refine me3 (pc' := 33) dm_X2_copyOf_30 (g_get (v := .ref 5) (lu (n := 2) (j := 2) hn rfl) rfl rfl (Nat.le_of_ble_eq_true rfl)) rfl rfl rfl ?_
  refine me1 (pc' := 34) dm_X2_copyOf_33 rfl rfl rfl rfl ?_
  refine me3 (pc' := 35) dm_X2_copyOf_34 (g_lald (v := (0 : Int64)) (lu (n := 2) (j := 3) hn rfl) rfl (by decide) rfl (Nat.le_of_ble_eq_true rfl)) rfl rfl rfl ?_
  refine me3 (pc' := 36) dm_X2_copyOf_35 (g_last (le_ (n := 2) (u := 100) (v := 25) (j := 1) hn rfl hv rfl) (se (n := 2) (u := 100) (v := 25) (j := 1) hn rfl hv _) rfl (by decide) (Nat.le_of_ble_eq_true rfl)) rfl rfl rfl ?_
  refine me1 (pc' := 37) dm_X2_copyOf_36 rfl rfl rfl rfl ?_
  refine me3 (pc' := 40) dm_X2_copyOf_37 (g_get (v := .ref 129) (le_ (n := 2) (u := 100) (v := 25) (j := 0) hn rfl hv rfl) rfl rfl (Nat.le_of_ble_eq_true rfl)) rfl rfl rfl ?_
  refine me1 (pc' := 41) dm_X2_copyOf_40 rfl rfl rfl rfl ?_
  refine me1 (pc' := 42) dm_X2_copyOf_41 rfl rfl rfl rfl ?_
  refine me3 (pc' := 45) dm_X2_copyOf_42 (g_get (v := .ref 6) (lu (n := 2) (j := 2) hn rfl) rfl rfl (Nat.le_of_ble_eq_true rfl)) rfl rfl rfl ?_
  refine me1 (pc' := 46) dm_X2_copyOf_45 rfl rfl rfl rfl ?_
  refine me3 (pc' := 47) dm_X2_copyOf_46 (g_aald (v := .null) (lu (n := 2) (j := 4) hn rfl) rfl (by decide) rfl (Nat.le_of_ble_eq_true rfl)) rfl rfl rfl ?_
  refine me3 (pc' := 48) dm_X2_copyOf_47 (g_aastn (le_ (n := 2) (u := 100) (v := 25) (j := 2) hn rfl hv rfl) (se (n := 2) (u := 100) (v := 25) (j := 2) hn rfl hv _) rfl (by decide) (Nat.le_of_ble_eq_true rfl)) rfl rfl rfl ?_
  refine me1 (pc' := 49) dm_X2_copyOf_48 rfl rfl rfl rfl ?_
  refine me3 (pc' := 52) dm_X2_copyOf_49 (g_get (v := .ref 130) (le_ (n := 2) (u := 100) (v := 25) (j := 0) hn rfl hv rfl) rfl rfl (Nat.le_of_ble_eq_true rfl)) rfl rfl rfl ?_
  refine me1 (pc' := 53) dm_X2_copyOf_52 rfl rfl rfl rfl ?_
  refine me1 (pc' := 54) dm_X2_copyOf_53 rfl rfl rfl rfl ?_
  refine me3 (pc' := 57) dm_X2_copyOf_54 (g_get (v := .ref 7) (lu (n := 2) (j := 2) hn rfl) rfl rfl (Nat.le_of_ble_eq_true rfl)) rfl rfl rfl ?_
  refine me1 (pc' := 58) dm_X2_copyOf_57 rfl rfl rfl rfl ?_
  refine me3 (pc' := 59) dm_X2_copyOf_58 (g_lald (v := (0 : Int64)) (lu (n := 2) (j := 5) hn rfl) rfl (by decide) rfl (Nat.le_of_ble_eq_true rfl)) rfl rfl rfl ?_
  refine me3 (pc' := 60) dm_X2_copyOf_59 (g_last (le_ (n := 2) (u := 100) (v := 25) (j := 3) hn rfl hv rfl) (se (n := 2) (u := 100) (v := 25) (j := 3) hn rfl hv _) rfl (by decide) (Nat.le_of_ble_eq_true rfl)) rfl rfl rfl ?_
  refine me1 (pc' := 61) dm_X2_copyOf_60 rfl rfl rfl rfl ?_
  refine me3 (pc' := 64) dm_X2_copyOf_61 (g_get (v := .ref 131) (le_ (n := 2) (u := 100) (v := 25) (j := 0) hn rfl hv rfl) rfl rfl (Nat.le_of_ble_eq_true rfl)) rfl rfl rfl ?_
  refine me1 (pc' := 65) dm_X2_copyOf_64 rfl rfl rfl rfl ?_
  refine me1 (pc' := 66) dm_X2_copyOf_65 rfl rfl rfl rfl ?_
  refine me3 (pc' := 69) dm_X2_copyOf_66 (g_get (v := .ref 8) (lu (n := 2) (j := 2) hn rfl) rfl rfl (Nat.le_of_ble_eq_true rfl)) rfl rfl rfl ?_
  refine me1 (pc' := 70) dm_X2_copyOf_69 rfl rfl rfl rfl ?_
  refine me3 (pc' := 71) dm_X2_copyOf_70 (g_aald (v := .null) (lu (n := 2) (j := 6) hn rfl) rfl (by decide) rfl (Nat.le_of_ble_eq_true rfl)) rfl rfl rfl ?_
  refine me3 (pc' := 72) dm_X2_copyOf_71 (g_aastn (le_ (n := 2) (u := 100) (v := 25) (j := 4) hn rfl hv rfl) (se (n := 2) (u := 100) (v := 25) (j := 4) hn rfl hv _) rfl (by decide) (Nat.le_of_ble_eq_true rfl)) rfl rfl rfl ?_
  refine me1 (pc' := 75) (L' := [(2, .int (31 : Int32)), (0, .ref 127), (1, .ref 4)]) dm_X2_copyOf_72 rfl rfl rfl rfl ?_
  refine me2 (pc' := 18) dm_X2_copyOf_75 rfl rfl rfl ?_
  refine me1 (pc' := 19) dm_X2_copyOf_18 rfl rfl rfl rfl ?_
  refine me0 (pc' := 21) (S' := .int (40 : Int32) :: _) dm_X2_copyOf_19 rfl rfl rfl rfl ?_
  refine me_2f (pc' := 24) dm_X2_copyOf_21 rfl (by decide) rfl ?_
  refine me1 (pc' := 25) dm_X2_copyOf_24 rfl rfl rfl rfl ?_
  refine me3 (pc' := 28) dm_X2_copyOf_25 (g_get (v := .ref 128) (le_ (n := 2) (u := 100) (v := 25) (j := 0) hn rfl hv rfl) rfl rfl (Nat.le_of_ble_eq_true rfl)) rfl rfl rfl ?_
  refine me1 (pc' := 29) dm_X2_copyOf_28 rfl rfl rfl rfl ?_
  refine me1 (pc' := 30) dm_X2_copyOf_29 rfl rfl rfl rfl ?_
  refine me3 (pc' := 33) dm_X2_copyOf_30 (g_get (v := .ref 5) (lu (n := 2) (j := 2) hn rfl) rfl rfl (Nat.le_of_ble_eq_true rfl)) rfl rfl rfl ?_
  refine me1 (pc' := 34) dm_X2_copyOf_33 rfl rfl rfl rfl ?_
  refine me3 (pc' := 35) dm_X2_copyOf_34 (g_lald (v := (0 : Int64)) (lu (n := 2) (j := 3) hn rfl) rfl (by decide) rfl (Nat.le_of_ble_eq_true rfl)) rfl rfl rfl ?_
  refine me3 (pc' := 36) dm_X2_copyOf_35 (g_last (le_ (n := 2) (u := 100) (v := 25) (j := 1) hn rfl hv rfl) (se (n := 2) (u := 100) (v := 25) (j := 1) hn rfl hv _) rfl (by decide) (Nat.le_of_ble_eq_true rfl)) rfl rfl rfl ?_
  refine me1 (pc' := 37) dm_X2_copyOf_36 rfl rfl rfl rfl ?_
  refine me3 (pc' := 40) dm_X2_copyOf_37 (g_get (v := .ref 129) (le_ (n := 2) (u := 100) (v := 25) (j := 0) hn rfl hv rfl) rfl rfl (Nat.le_of_ble_eq_true rfl)) rfl rfl rfl ?_
  refine me1 (pc' := 41) dm_X2_copyOf_40 rfl rfl rfl rfl ?_
  refine me1 (pc' := 42) dm_X2_copyOf_41 rfl rfl rfl rfl ?_
  refine me3 (pc' := 45) dm_X2_copyOf_42 (g_get (v := .ref 6) (lu (n := 2) (j := 2) hn rfl) rfl rfl (Nat.le_of_ble_eq_true rfl)) rfl rfl rfl ?_
  refine me1 (pc' := 46) dm_X2_copyOf_45 rfl rfl rfl rfl ?_
  refine me3 (pc' := 47) dm_X2_copyOf_46 (g_aald (v := .null) (lu (n := 2) (j := 4) hn rfl) rfl (by decide) rfl (Nat.le_of_ble_eq_true rfl)) rfl rfl rfl ?_
  refine me3 (pc' := 48) dm_X2_copyOf_47 (g_aastn (le_ (n := 2) (u := 100) (v := 25) (j := 2) hn rfl hv rfl) (se (n := 2) (u := 100) (v := 25) (j := 2) hn rfl hv _) rfl (by decide) (Nat.le_of_ble_eq_true rfl)) rfl rfl rfl ?_
  refine me1 (pc' := 49) dm_X2_copyOf_48 rfl rfl rfl rfl ?_
  refine me3 (pc' := 52) dm_X2_copyOf_49 (g_get (v := .ref 130) (le_ (n := 2) (u := 100) (v := 25) (j := 0) hn rfl hv rfl) rfl rfl (Nat.le_of_ble_eq_true rfl)) rfl rfl rfl ?_
  refine me1 (pc' := 53) dm_X2_copyOf_52 rfl rfl rfl rfl ?_
  refine me1 (pc' := 54) dm_X2_copyOf_53 rfl rfl rfl rfl ?_
  refine me3 (pc' := 57) dm_X2_copyOf_54 (g_get (v := .ref 7) (lu (n := 2) (j := 2) hn rfl) rfl rfl (Nat.le_of_ble_eq_true rfl)) rfl rfl rfl ?_
  refine me1 (pc' := 58) dm_X2_copyOf_57 rfl rfl rfl rfl ?_
  refine me3 (pc' := 59) dm_X2_copyOf_58 (g_lald (v := (0 : Int64)) (lu (n := 2) (j := 5) hn rfl) rfl (by decide) rfl (Nat.le_of_ble_eq_true rfl)) rfl rfl rfl ?_
  refine me3 (pc' := 60) dm_X2_copyOf_59 (g_last (le_ (n := 2) (u := 100) (v := 25) (j := 3) hn rfl hv rfl) (se (n := 2) (u := 100) (v := 25) (j := 3) hn rfl hv _) rfl (by decide) (Nat.le_of_ble_eq_true rfl)) rfl rfl rfl ?_
  refine me1 (pc' := 61) dm_X2_copyOf_60 rfl rfl rfl rfl ?_
  refine me3 (pc' := 64) dm_X2_copyOf_61 (g_get (v := .ref 131) (le_ (n := 2) (u := 100) (v := 25) (j := 0) hn rfl hv rfl) rfl rfl (Nat.le_of_ble_eq_true rfl)) rfl rfl rfl ?_
  refine me1 (pc' := 65) dm_X2_copyOf_64 rfl rfl rfl rfl ?_
  refine me1 (pc' := 66) dm_X2_copyOf_65 rfl rfl rfl rfl ?_
  refine me3 (pc' := 69) dm_X2_copyOf_66 (g_get (v := .ref 8) (lu (n := 2) (j := 2) hn rfl) rfl rfl (Nat.le_of_ble_eq_true rfl)) rfl rfl rfl ?_
  refine me1 (pc' := 70) dm_X2_copyOf_69 rfl rfl rfl rfl ?_
  refine me3 (pc' := 71) dm_X2_copyOf_70 (g_aald (v := .null) (lu (n := 2) (j := 6) hn rfl) rfl (by decide) rfl (Nat.le_of_ble_eq_true rfl)) rfl rfl rfl ?_
  refine me3 (pc' := 72) dm_X2_copyOf_71 (g_aastn (le_ (n := 2) (u := 100) (v := 25) (j := 4) hn rfl hv rfl) (se (n := 2) (u := 100) (v := 25) (j := 4) hn rfl hv _) rfl (by decide) (Nat.le_of_ble_eq_true rfl)) rfl rfl rfl ?_
  refine me1 (pc' := 75) (L' := [(2, .int (32 : Int32)), (0, .ref 127), (1, .ref 4)]) dm_X2_copyOf_72 rfl rfl rfl rfl ?_
  refine me2 (pc' := 18) dm_X2_copyOf_75 rfl rfl rfl ?_
  refine me1 (pc' := 19) dm_X2_copyOf_18 rfl rfl rfl rfl ?_
  refine me0 (pc' := 21) (S' := .int (40 : Int32) :: _) dm_X2_copyOf_19 rfl rfl rfl rfl ?_
  refine me_2f (pc' := 24) dm_X2_copyOf_21 rfl (by decide) rfl ?_
  refine me1 (pc' := 25) dm_X2_copyOf_24 rfl rfl rfl rfl ?_
  refine me3 (pc' := 28) dm_X2_copyOf_25 (g_get (v := .ref 128) (le_ (n := 2) (u := 100) (v := 25) (j := 0) hn rfl hv rfl) rfl rfl (Nat.le_of_ble_eq_true rfl)) rfl rfl rfl ?_
  refine me1 (pc' := 29) dm_X2_copyOf_28 rfl rfl rfl rfl ?_
  refine me1 (pc' := 30) dm_X2_copyOf_29 rfl rfl rfl rfl ?_
  refine me3 (pc' := 33) dm_X2_copyOf_30 (g_get (v := .ref 5) (lu (n := 2) (j := 2) hn rfl) rfl rfl (Nat.le_of_ble_eq_true rfl)) rfl rfl rfl ?_
  refine me1 (pc' := 34) dm_X2_copyOf_33 rfl rfl rfl rfl ?_
  refine me3 (pc' := 35) dm_X2_copyOf_34 (g_lald (v := (0 : Int64)) (lu (n := 2) (j := 3) hn rfl) rfl (by decide) rfl (Nat.le_of_ble_eq_true rfl)) rfl rfl rfl ?_
  refine me3 (pc' := 36) dm_X2_copyOf_35 (g_last (le_ (n := 2) (u := 100) (v := 25) (j := 1) hn rfl hv rfl) (se (n := 2) (u := 100) (v := 25) (j := 1) hn rfl hv _) rfl (by decide) (Nat.le_of_ble_eq_true rfl)) rfl rfl rfl ?_
  refine me1 (pc' := 37) dm_X2_copyOf_36 rfl rfl rfl rfl ?_
  refine me3 (pc' := 40) dm_X2_copyOf_37 (g_get (v := .ref 129) (le_ (n := 2) (u := 100) (v := 25) (j := 0) hn rfl hv rfl) rfl rfl (Nat.le_of_ble_eq_true rfl)) rfl rfl rfl ?_
  refine me1 (pc' := 41) dm_X2_copyOf_40 rfl rfl rfl rfl ?_
  refine me1 (pc' := 42) dm_X2_copyOf_41 rfl rfl rfl rfl ?_
  refine me3 (pc' := 45) dm_X2_copyOf_42 (g_get (v := .ref 6) (lu (n := 2) (j := 2) hn rfl) rfl rfl (Nat.le_of_ble_eq_true rfl)) rfl rfl rfl ?_
  refine me1 (pc' := 46) dm_X2_copyOf_45 rfl rfl rfl rfl ?_
  refine me3 (pc' := 47) dm_X2_copyOf_46 (g_aald (v := .null) (lu (n := 2) (j := 4) hn rfl) rfl (by decide) rfl (Nat.le_of_ble_eq_true rfl)) rfl rfl rfl ?_
  refine me3 (pc' := 48) dm_X2_copyOf_47 (g_aastn (le_ (n := 2) (u := 100) (v := 25) (j := 2) hn rfl hv rfl) (se (n := 2) (u := 100) (v := 25) (j := 2) hn rfl hv _) rfl (by decide) (Nat.le_of_ble_eq_true rfl)) rfl rfl rfl ?_
  refine me1 (pc' := 49) dm_X2_copyOf_48 rfl rfl rfl rfl ?_
  refine me3 (pc' := 52) dm_X2_copyOf_49 (g_get (v := .ref 130) (le_ (n := 2) (u := 100) (v := 25) (j := 0) hn rfl hv rfl) rfl rfl (Nat.le_of_ble_eq_true rfl)) rfl rfl rfl ?_
  refine me1 (pc' := 53) dm_X2_copyOf_52 rfl rfl rfl rfl ?_
  refine me1 (pc' := 54) dm_X2_copyOf_53 rfl rfl rfl rfl ?_
  refine me3 (pc' := 57) dm_X2_copyOf_54 (g_get (v := .ref 7) (lu (n := 2) (j := 2) hn rfl) rfl rfl (Nat.le_of_ble_eq_true rfl)) rfl rfl rfl ?_
  refine me1 (pc' := 58) dm_X2_copyOf_57 rfl rfl rfl rfl ?_
  refine me3 (pc' := 59) dm_X2_copyOf_58 (g_lald (v := (0 : Int64)) (lu (n := 2) (j := 5) hn rfl) rfl (by decide) rfl (Nat.le_of_ble_eq_true rfl)) rfl rfl rfl ?_
  refine me3 (pc' := 60) dm_X2_copyOf_59 (g_last (le_ (n := 2) (u := 100) (v := 25) (j := 3) hn rfl hv rfl) (se (n := 2) (u := 100) (v := 25) (j := 3) hn rfl hv _) rfl (by decide) (Nat.le_of_ble_eq_true rfl)) rfl rfl rfl ?_
  refine me1 (pc' := 61) dm_X2_copyOf_60 rfl rfl rfl rfl ?_
  refine me3 (pc' := 64) dm_X2_copyOf_61 (g_get (v := .ref 131) (le_ (n := 2) (u := 100) (v := 25) (j := 0) hn rfl hv rfl) rfl rfl (Nat.le_of_ble_eq_true rfl)) rfl rfl rfl ?_
  refine me1 (pc' := 65) dm_X2_copyOf_64 rfl rfl rfl rfl ?_
  refine me1 (pc' := 66) dm_X2_copyOf_65 rfl rfl rfl rfl ?_
  refine me3 (pc' := 69) dm_X2_copyOf_66 (g_get (v := .ref 8) (lu (n := 2) (j := 2) hn rfl) rfl rfl (Nat.le_of_ble_eq_true rfl)) rfl rfl rfl ?_
  refine me1 (pc' := 70) dm_X2_copyOf_69 rfl rfl rfl rfl ?_
  refine me3 (pc' := 71) dm_X2_copyOf_70 (g_aald (v := .null) (lu (n := 2) (j := 6) hn rfl) rfl (by decide) rfl (Nat.le_of_ble_eq_true rfl)) rfl rfl rfl ?_
  refine me3 (pc' := 72) dm_X2_copyOf_71 (g_aastn (le_ (n := 2) (u := 100) (v := 25) (j := 4) hn rfl hv rfl) (se (n := 2) (u := 100) (v := 25) (j := 4) hn rfl hv _) rfl (by decide) (Nat.le_of_ble_eq_true rfl)) rfl rfl rfl ?_
  refine me1 (pc' := 75) (L' := [(2, .int (33 : Int32)), (0, .ref 127), (1, .ref 4)]) dm_X2_copyOf_72 rfl rfl rfl rfl ?_
  refine me2 (pc' := 18) dm_X2_copyOf_75 rfl rfl rfl ?_
  refine me1 (pc' := 19) dm_X2_copyOf_18 rfl rfl rfl rfl ?_
  refine me0 (pc' := 21) (S' := .int (40 : Int32) :: _) dm_X2_copyOf_19 rfl rfl rfl rfl ?_
  refine me_2f (pc' := 24) dm_X2_copyOf_21 rfl (by decide) rfl ?_
  refine me1 (pc' := 25) dm_X2_copyOf_24 rfl rfl rfl rfl ?_
  refine me3 (pc' := 28) dm_X2_copyOf_25 (g_get (v := .ref 128) (le_ (n := 2) (u := 100) (v := 25) (j := 0) hn rfl hv rfl) rfl rfl (Nat.le_of_ble_eq_true rfl)) rfl rfl rfl ?_
  refine me1 (pc' := 29) dm_X2_copyOf_28 rfl rfl rfl rfl ?_
  refine me1 (pc' := 30) dm_X2_copyOf_29 rfl rfl rfl rfl ?_
  refine me3 (pc' := 33) dm_X2_copyOf_30 (g_get (v := .ref 5) (lu (n := 2) (j := 2) hn rfl) rfl rfl (Nat.le_of_ble_eq_true rfl)) rfl rfl rfl ?_
  refine me1 (pc' := 34) dm_X2_copyOf_33 rfl rfl rfl rfl ?_
  refine me3 (pc' := 35) dm_X2_copyOf_34 (g_lald (v := (0 : Int64)) (lu (n := 2) (j := 3) hn rfl) rfl (by decide) rfl (Nat.le_of_ble_eq_true rfl)) rfl rfl rfl ?_
  refine me3 (pc' := 36) dm_X2_copyOf_35 (g_last (le_ (n := 2) (u := 100) (v := 25) (j := 1) hn rfl hv rfl) (se (n := 2) (u := 100) (v := 25) (j := 1) hn rfl hv _) rfl (by decide) (Nat.le_of_ble_eq_true rfl)) rfl rfl rfl ?_
  refine me1 (pc' := 37) dm_X2_copyOf_36 rfl rfl rfl rfl ?_
  refine me3 (pc' := 40) dm_X2_copyOf_37 (g_get (v := .ref 129) (le_ (n := 2) (u := 100) (v := 25) (j := 0) hn rfl hv rfl) rfl rfl (Nat.le_of_ble_eq_true rfl)) rfl rfl rfl ?_
  refine me1 (pc' := 41) dm_X2_copyOf_40 rfl rfl rfl rfl ?_
  refine me1 (pc' := 42) dm_X2_copyOf_41 rfl rfl rfl rfl ?_
  refine me3 (pc' := 45) dm_X2_copyOf_42 (g_get (v := .ref 6) (lu (n := 2) (j := 2) hn rfl) rfl rfl (Nat.le_of_ble_eq_true rfl)) rfl rfl rfl ?_
  refine me1 (pc' := 46) dm_X2_copyOf_45 rfl rfl rfl rfl ?_
  refine me3 (pc' := 47) dm_X2_copyOf_46 (g_aald (v := .null) (lu (n := 2) (j := 4) hn rfl) rfl (by decide) rfl (Nat.le_of_ble_eq_true rfl)) rfl rfl rfl ?_
  refine me3 (pc' := 48) dm_X2_copyOf_47 (g_aastn (le_ (n := 2) (u := 100) (v := 25) (j := 2) hn rfl hv rfl) (se (n := 2) (u := 100) (v := 25) (j := 2) hn rfl hv _) rfl (by decide) (Nat.le_of_ble_eq_true rfl)) rfl rfl rfl ?_
  refine me1 (pc' := 49) dm_X2_copyOf_48 rfl rfl rfl rfl ?_
  refine me3 (pc' := 52) dm_X2_copyOf_49 (g_get (v := .ref 130) (le_ (n := 2) (u := 100) (v := 25) (j := 0) hn rfl hv rfl) rfl rfl (Nat.le_of_ble_eq_true rfl)) rfl rfl rfl ?_
  refine me1 (pc' := 53) dm_X2_copyOf_52 rfl rfl rfl rfl ?_
  refine me1 (pc' := 54) dm_X2_copyOf_53 rfl rfl rfl rfl ?_
  refine me3 (pc' := 57) dm_X2_copyOf_54 (g_get (v := .ref 7) (lu (n := 2) (j := 2) hn rfl) rfl rfl (Nat.le_of_ble_eq_true rfl)) rfl rfl rfl ?_
  refine me1 (pc' := 58) dm_X2_copyOf_57 rfl rfl rfl rfl ?_
  refine me3 (pc' := 59) dm_X2_copyOf_58 (g_lald (v := (0 : Int64)) (lu (n := 2) (j := 5) hn rfl) rfl (by decide) rfl (Nat.le_of_ble_eq_true rfl)) rfl rfl rfl ?_
  refine me3 (pc' := 60) dm_X2_copyOf_59 (g_last (le_ (n := 2) (u := 100) (v := 25) (j := 3) hn rfl hv rfl) (se (n := 2) (u := 100) (v := 25) (j := 3) hn rfl hv _) rfl (by decide) (Nat.le_of_ble_eq_true rfl)) rfl rfl rfl ?_
  refine me1 (pc' := 61) dm_X2_copyOf_60 rfl rfl rfl rfl ?_
  refine me3 (pc' := 64) dm_X2_copyOf_61 (g_get (v := .ref 131) (le_ (n := 2) (u := 100) (v := 25) (j := 0) hn rfl hv rfl) rfl rfl (Nat.le_of_ble_eq_true rfl)) rfl rfl rfl ?_
  refine me1 (pc' := 65) dm_X2_copyOf_64 rfl rfl rfl rfl ?_
  refine me1 (pc' := 66) dm_X2_copyOf_65 rfl rfl rfl rfl ?_
  refine me3 (pc' := 69) dm_X2_copyOf_66 (g_get (v := .ref 8) (lu (n := 2) (j := 2) hn rfl) rfl rfl (Nat.le_of_ble_eq_true rfl)) rfl rfl rfl ?_
  refine me1 (pc' := 70) dm_X2_copyOf_69 rfl rfl rfl rfl ?_
  refine me3 (pc' := 71) dm_X2_copyOf_70 (g_aald (v := .null) (lu (n := 2) (j := 6) hn rfl) rfl (by decide) rfl (Nat.le_of_ble_eq_true rfl)) rfl rfl rfl ?_
  refine me3 (pc' := 72) dm_X2_copyOf_71 (g_aastn (le_ (n := 2) (u := 100) (v := 25) (j := 4) hn rfl hv rfl) (se (n := 2) (u := 100) (v := 25) (j := 4) hn rfl hv _) rfl (by decide) (Nat.le_of_ble_eq_true rfl)) rfl rfl rfl ?_
  refine me1 (pc' := 75) (L' := [(2, .int (34 : Int32)), (0, .ref 127), (1, .ref 4)]) dm_X2_copyOf_72 rfl rfl rfl rfl ?_
  refine me2 (pc' := 18) dm_X2_copyOf_75 rfl rfl rfl ?_
  refine me1 (pc' := 19) dm_X2_copyOf_18 rfl rfl rfl rfl ?_
  refine me0 (pc' := 21) (S' := .int (40 : Int32) :: _) dm_X2_copyOf_19 rfl rfl rfl rfl ?_
  refine me_2f (pc' := 24) dm_X2_copyOf_21 rfl (by decide) rfl ?_
  refine me1 (pc' := 25) dm_X2_copyOf_24 rfl rfl rfl rfl ?_
  refine me3 (pc' := 28) dm_X2_copyOf_25 (g_get (v := .ref 128) (le_ (n := 2) (u := 100) (v := 25) (j := 0) hn rfl hv rfl) rfl rfl (Nat.le_of_ble_eq_true rfl)) rfl rfl rfl ?_
  refine me1 (pc' := 29) dm_X2_copyOf_28 rfl rfl rfl rfl ?_
  refine me1 (pc' := 30) dm_X2_copyOf_29 rfl rfl rfl rfl ?_
  refine me3 (pc' := 33) dm_X2_copyOf_30 (g_get (v := .ref 5) (lu (n := 2) (j := 2) hn rfl) rfl rfl (Nat.le_of_ble_eq_true rfl)) rfl rfl rfl ?_
  refine me1 (pc' := 34) dm_X2_copyOf_33 rfl rfl rfl rfl ?_
  refine me3 (pc' := 35) dm_X2_copyOf_34 (g_lald (v := (0 : Int64)) (lu (n := 2) (j := 3) hn rfl) rfl (by decide) rfl (Nat.le_of_ble_eq_true rfl)) rfl rfl rfl ?_
  refine me3 (pc' := 36) dm_X2_copyOf_35 (g_last (le_ (n := 2) (u := 100) (v := 25) (j := 1) hn rfl hv rfl) (se (n := 2) (u := 100) (v := 25) (j := 1) hn rfl hv _) rfl (by decide) (Nat.le_of_ble_eq_true rfl)) rfl rfl rfl ?_
  refine me1 (pc' := 37) dm_X2_copyOf_36 rfl rfl rfl rfl ?_
  refine me3 (pc' := 40) dm_X2_copyOf_37 (g_get (v := .ref 129) (le_ (n := 2) (u := 100) (v := 25) (j := 0) hn rfl hv rfl) rfl rfl (Nat.le_of_ble_eq_true rfl)) rfl rfl rfl ?_
  refine me1 (pc' := 41) dm_X2_copyOf_40 rfl rfl rfl rfl ?_
  refine me1 (pc' := 42) dm_X2_copyOf_41 rfl rfl rfl rfl ?_
  refine me3 (pc' := 45) dm_X2_copyOf_42 (g_get (v := .ref 6) (lu (n := 2) (j := 2) hn rfl) rfl rfl (Nat.le_of_ble_eq_true rfl)) rfl rfl rfl ?_
  refine me1 (pc' := 46) dm_X2_copyOf_45 rfl rfl rfl rfl ?_
  refine me3 (pc' := 47) dm_X2_copyOf_46 (g_aald (v := .null) (lu (n := 2) (j := 4) hn rfl) rfl (by decide) rfl (Nat.le_of_ble_eq_true rfl)) rfl rfl rfl ?_
  refine me3 (pc' := 48) dm_X2_copyOf_47 (g_aastn (le_ (n := 2) (u := 100) (v := 25) (j := 2) hn rfl hv rfl) (se (n := 2) (u := 100) (v := 25) (j := 2) hn rfl hv _) rfl (by decide) (Nat.le_of_ble_eq_true rfl)) rfl rfl rfl ?_
  refine me1 (pc' := 49) dm_X2_copyOf_48 rfl rfl rfl rfl ?_
  refine me3 (pc' := 52) dm_X2_copyOf_49 (g_get (v := .ref 130) (le_ (n := 2) (u := 100) (v := 25) (j := 0) hn rfl hv rfl) rfl rfl (Nat.le_of_ble_eq_true rfl)) rfl rfl rfl ?_
  refine me1 (pc' := 53) dm_X2_copyOf_52 rfl rfl rfl rfl ?_
  refine me1 (pc' := 54) dm_X2_copyOf_53 rfl rfl rfl rfl ?_
  refine me3 (pc' := 57) dm_X2_copyOf_54 (g_get (v := .ref 7) (lu (n := 2) (j := 2) hn rfl) rfl rfl (Nat.le_of_ble_eq_true rfl)) rfl rfl rfl ?_
  refine me1 (pc' := 58) dm_X2_copyOf_57 rfl rfl rfl rfl ?_
  refine me3 (pc' := 59) dm_X2_copyOf_58 (g_lald (v := (0 : Int64)) (lu (n := 2) (j := 5) hn rfl) rfl (by decide) rfl (Nat.le_of_ble_eq_true rfl)) rfl rfl rfl ?_
  refine me3 (pc' := 60) dm_X2_copyOf_59 (g_last (le_ (n := 2) (u := 100) (v := 25) (j := 3) hn rfl hv rfl) (se (n := 2) (u := 100) (v := 25) (j := 3) hn rfl hv _) rfl (by decide) (Nat.le_of_ble_eq_true rfl)) rfl rfl rfl ?_
  refine me1 (pc' := 61) dm_X2_copyOf_60 rfl rfl rfl rfl ?_
  refine me3 (pc' := 64) dm_X2_copyOf_61 (g_get (v := .ref 131) (le_ (n := 2) (u := 100) (v := 25) (j := 0) hn rfl hv rfl) rfl rfl (Nat.le_of_ble_eq_true rfl)) rfl rfl rfl ?_
  refine me1 (pc' := 65) dm_X2_copyOf_64 rfl rfl rfl rfl ?_
  refine me1 (pc' := 66) dm_X2_copyOf_65 rfl rfl rfl rfl ?_
  refine me3 (pc' := 69) dm_X2_copyOf_66 (g_get (v := .ref 8) (lu (n := 2) (j := 2) hn rfl) rfl rfl (Nat.le_of_ble_eq_true rfl)) rfl rfl rfl ?_
  refine me1 (pc' := 70) dm_X2_copyOf_69 rfl rfl rfl rfl ?_
  refine me3 (pc' := 71) dm_X2_copyOf_70 (g_aald (v := .null) (lu (n := 2) (j := 6) hn rfl) rfl (by decide) rfl (Nat.le_of_ble_eq_true rfl)) rfl rfl rfl ?_
  refine me3 (pc' := 72) dm_X2_copyOf_71 (g_aastn (le_ (n := 2) (u := 100) (v := 25) (j := 4) hn rfl hv rfl) (se (n := 2) (u := 100) (v := 25) (j := 4) hn rfl hv _) rfl (by decide) (Nat.le_of_ble_eq_true rfl)) rfl rfl rfl ?_
  refine me1 (pc' := 75) (L' := [(2, .int (35 : Int32)), (0, .ref 127), (1, .ref 4)]) dm_X2_copyOf_72 rfl rfl rfl rfl ?_
  refine me2 (pc' := 18) dm_X2_copyOf_75 rfl rfl rfl ?_
  refine me1 (pc' := 19) dm_X2_copyOf_18 rfl rfl rfl rfl ?_
  refine me0 (pc' := 21) (S' := .int (40 : Int32) :: _) dm_X2_copyOf_19 rfl rfl rfl rfl ?_
  refine me_2f (pc' := 24) dm_X2_copyOf_21 rfl (by decide) rfl ?_
  refine me1 (pc' := 25) dm_X2_copyOf_24 rfl rfl rfl rfl ?_
  refine me3 (pc' := 28) dm_X2_copyOf_25 (g_get (v := .ref 128) (le_ (n := 2) (u := 100) (v := 25) (j := 0) hn rfl hv rfl) rfl rfl (Nat.le_of_ble_eq_true rfl)) rfl rfl rfl ?_
  refine me1 (pc' := 29) dm_X2_copyOf_28 rfl rfl rfl rfl ?_
  refine me1 (pc' := 30) dm_X2_copyOf_29 rfl rfl rfl rfl ?_
  refine me3 (pc' := 33) dm_X2_copyOf_30 (g_get (v := .ref 5) (lu (n := 2) (j := 2) hn rfl) rfl rfl (Nat.le_of_ble_eq_true rfl)) rfl rfl rfl ?_
  refine me1 (pc' := 34) dm_X2_copyOf_33 rfl rfl rfl rfl ?_
  refine me3 (pc' := 35) dm_X2_copyOf_34 (g_lald (v := (0 : Int64)) (lu (n := 2) (j := 3) hn rfl) rfl (by decide) rfl (Nat.le_of_ble_eq_true rfl)) rfl rfl rfl ?_
  refine me3 (pc' := 36) dm_X2_copyOf_35 (g_last (le_ (n := 2) (u := 100) (v := 25) (j := 1) hn rfl hv rfl) (se (n := 2) (u := 100) (v := 25) (j := 1) hn rfl hv _) rfl (by decide) (Nat.le_of_ble_eq_true rfl)) rfl rfl rfl ?_
  refine me1 (pc' := 37) dm_X2_copyOf_36 rfl rfl rfl rfl ?_
  refine me3 (pc' := 40) dm_X2_copyOf_37 (g_get (v := .ref 129) (le_ (n := 2) (u := 100) (v := 25) (j := 0) hn rfl hv rfl) rfl rfl (Nat.le_of_ble_eq_true rfl)) rfl rfl rfl ?_
  refine me1 (pc' := 41) dm_X2_copyOf_40 rfl rfl rfl rfl ?_
  refine me1 (pc' := 42) dm_X2_copyOf_41 rfl rfl rfl rfl ?_
  refine me3 (pc' := 45) dm_X2_copyOf_42 (g_get (v := .ref 6) (lu (n := 2) (j := 2) hn rfl) rfl rfl (Nat.le_of_ble_eq_true rfl)) rfl rfl rfl ?_
  refine me1 (pc' := 46) dm_X2_copyOf_45 rfl rfl rfl rfl ?_
  refine me3 (pc' := 47) dm_X2_copyOf_46 (g_aald (v := .null) (lu (n := 2) (j := 4) hn rfl) rfl (by decide) rfl (Nat.le_of_ble_eq_true rfl)) rfl rfl rfl ?_
  refine me3 (pc' := 48) dm_X2_copyOf_47 (g_aastn (le_ (n := 2) (u := 100) (v := 25) (j := 2) hn rfl hv rfl) (se (n := 2) (u := 100) (v := 25) (j := 2) hn rfl hv _) rfl (by decide) (Nat.le_of_ble_eq_true rfl)) rfl rfl rfl ?_
  refine me1 (pc' := 49) dm_X2_copyOf_48 rfl rfl rfl rfl ?_
  refine me3 (pc' := 52) dm_X2_copyOf_49 (g_get (v := .ref 130) (le_ (n := 2) (u := 100) (v := 25) (j := 0) hn rfl hv rfl) rfl rfl (Nat.le_of_ble_eq_true rfl)) rfl rfl rfl ?_
  refine me1 (pc' := 53) dm_X2_copyOf_52 rfl rfl rfl rfl ?_
  refine me1 (pc' := 54) dm_X2_copyOf_53 rfl rfl rfl rfl ?_
  refine me3 (pc' := 57) dm_X2_copyOf_54 (g_get (v := .ref 7) (lu (n := 2) (j := 2) hn rfl) rfl rfl (Nat.le_of_ble_eq_true rfl)) rfl rfl rfl ?_
  refine me1 (pc' := 58) dm_X2_copyOf_57 rfl rfl rfl rfl ?_
  refine me3 (pc' := 59) dm_X2_copyOf_58 (g_lald (v := (0 : Int64)) (lu (n := 2) (j := 5) hn rfl) rfl (by decide) rfl (Nat.le_of_ble_eq_true rfl)) rfl rfl rfl ?_
  refine me3 (pc' := 60) dm_X2_copyOf_59 (g_last (le_ (n := 2) (u := 100) (v := 25) (j := 3) hn rfl hv rfl) (se (n := 2) (u := 100) (v := 25) (j := 3) hn rfl hv _) rfl (by decide) (Nat.le_of_ble_eq_true rfl)) rfl rfl rfl ?_
  refine me1 (pc' := 61) dm_X2_copyOf_60 rfl rfl rfl rfl ?_
  refine me3 (pc' := 64) dm_X2_copyOf_61 (g_get (v := .ref 131) (le_ (n := 2) (u := 100) (v := 25) (j := 0) hn rfl hv rfl) rfl rfl (Nat.le_of_ble_eq_true rfl)) rfl rfl rfl ?_
  refine me1 (pc' := 65) dm_X2_copyOf_64 rfl rfl rfl rfl ?_
  refine me1 (pc' := 66) dm_X2_copyOf_65 rfl rfl rfl rfl ?_
  refine me3 (pc' := 69) dm_X2_copyOf_66 (g_get (v := .ref 8) (lu (n := 2) (j := 2) hn rfl) rfl rfl (Nat.le_of_ble_eq_true rfl)) rfl rfl rfl ?_
  refine me1 (pc' := 70) dm_X2_copyOf_69 rfl rfl rfl rfl ?_
  refine me3 (pc' := 71) dm_X2_copyOf_70 (g_aald (v := .null) (lu (n := 2) (j := 6) hn rfl) rfl (by decide) rfl (Nat.le_of_ble_eq_true rfl)) rfl rfl rfl ?_
  refine me3 (pc' := 72) dm_X2_copyOf_71 (g_aastn (le_ (n := 2) (u := 100) (v := 25) (j := 4) hn rfl hv rfl) (se (n := 2) (u := 100) (v := 25) (j := 4) hn rfl hv _) rfl (by decide) (Nat.le_of_ble_eq_true rfl)) rfl rfl rfl ?_
  refine me1 (pc' := 75) (L' := [(2, .int (36 : Int32)), (0, .ref 127), (1, .ref 4)]) dm_X2_copyOf_72 rfl rfl rfl rfl ?_
  refine me2 (pc' := 18) dm_X2_copyOf_75 rfl rfl rfl ?_
  refine me1 (pc' := 19) dm_X2_copyOf_18 rfl rfl rfl rfl ?_
  refine me0 (pc' := 21) (S' := .int (40 : Int32) :: _) dm_X2_copyOf_19 rfl rfl rfl rfl ?_
  refine me_2f (pc' := 24) dm_X2_copyOf_21 rfl (by decide) rfl ?_
  refine me1 (pc' := 25) dm_X2_copyOf_24 rfl rfl rfl rfl ?_
  refine me3 (pc' := 28) dm_X2_copyOf_25 (g_get (v := .ref 128) (le_ (n := 2) (u := 100) (v := 25) (j := 0) hn rfl hv rfl) rfl rfl (Nat.le_of_ble_eq_true rfl)) rfl rfl rfl ?_
  refine me1 (pc' := 29) dm_X2_copyOf_28 rfl rfl rfl rfl ?_
  refine me1 (pc' := 30) dm_X2_copyOf_29 rfl rfl rfl rfl ?_
  refine me3 (pc' := 33) dm_X2_copyOf_30 (g_get (v := .ref 5) (lu (n := 2) (j := 2) hn rfl) rfl rfl (Nat.le_of_ble_eq_true rfl)) rfl rfl rfl ?_
  refine me1 (pc' := 34) dm_X2_copyOf_33 rfl rfl rfl rfl ?_
  refine me3 (pc' := 35) dm_X2_copyOf_34 (g_lald (v := (0 : Int64)) (lu (n := 2) (j := 3) hn rfl) rfl (by decide) rfl (Nat.le_of_ble_eq_true rfl)) rfl rfl rfl ?_
  refine me3 (pc' := 36) dm_X2_copyOf_35 (g_last (le_ (n := 2) (u := 100) (v := 25) (j := 1) hn rfl hv rfl) (se (n := 2) (u := 100) (v := 25) (j := 1) hn rfl hv _) rfl (by decide) (Nat.le_of_ble_eq_true rfl)) rfl rfl rfl ?_
  refine me1 (pc' := 37) dm_X2_copyOf_36 rfl rfl rfl rfl ?_
  refine me3 (pc' := 40) dm_X2_copyOf_37 (g_get (v := .ref 129) (le_ (n := 2) (u := 100) (v := 25) (j := 0) hn rfl hv rfl) rfl rfl (Nat.le_of_ble_eq_true rfl)) rfl rfl rfl ?_
  refine me1 (pc' := 41) dm_X2_copyOf_40 rfl rfl rfl rfl ?_
  refine me1 (pc' := 42) dm_X2_copyOf_41 rfl rfl rfl rfl ?_
  refine me3 (pc' := 45) dm_X2_copyOf_42 (g_get (v := .ref 6) (lu (n := 2) (j := 2) hn rfl) rfl rfl (Nat.le_of_ble_eq_true rfl)) rfl rfl rfl ?_
  refine me1 (pc' := 46) dm_X2_copyOf_45 rfl rfl rfl rfl ?_
  refine me3 (pc' := 47) dm_X2_copyOf_46 (g_aald (v := .null) (lu (n := 2) (j := 4) hn rfl) rfl (by decide) rfl (Nat.le_of_ble_eq_true rfl)) rfl rfl rfl ?_
  refine me3 (pc' := 48) dm_X2_copyOf_47 (g_aastn (le_ (n := 2) (u := 100) (v := 25) (j := 2) hn rfl hv rfl) (se (n := 2) (u := 100) (v := 25) (j := 2) hn rfl hv _) rfl (by decide) (Nat.le_of_ble_eq_true rfl)) rfl rfl rfl ?_
  refine me1 (pc' := 49) dm_X2_copyOf_48 rfl rfl rfl rfl ?_
  refine me3 (pc' := 52) dm_X2_copyOf_49 (g_get (v := .ref 130) (le_ (n := 2) (u := 100) (v := 25) (j := 0) hn rfl hv rfl) rfl rfl (Nat.le_of_ble_eq_true rfl)) rfl rfl rfl ?_
  refine me1 (pc' := 53) dm_X2_copyOf_52 rfl rfl rfl rfl ?_
  refine me1 (pc' := 54) dm_X2_copyOf_53 rfl rfl rfl rfl ?_
  refine me3 (pc' := 57) dm_X2_copyOf_54 (g_get (v := .ref 7) (lu (n := 2) (j := 2) hn rfl) rfl rfl (Nat.le_of_ble_eq_true rfl)) rfl rfl rfl ?_
  refine me1 (pc' := 58) dm_X2_copyOf_57 rfl rfl rfl rfl ?_
  refine me3 (pc' := 59) dm_X2_copyOf_58 (g_lald (v := (0 : Int64)) (lu (n := 2) (j := 5) hn rfl) rfl (by decide) rfl (Nat.le_of_ble_eq_true rfl)) rfl rfl rfl ?_
  refine me3 (pc' := 60) dm_X2_copyOf_59 (g_last (le_ (n := 2) (u := 100) (v := 25) (j := 3) hn rfl hv rfl) (se (n := 2) (u := 100) (v := 25) (j := 3) hn rfl hv _) rfl (by decide) (Nat.le_of_ble_eq_true rfl)) rfl rfl rfl ?_
  refine me1 (pc' := 61) dm_X2_copyOf_60 rfl rfl rfl rfl ?_
  refine me3 (pc' := 64) dm_X2_copyOf_61 (g_get (v := .ref 131) (le_ (n := 2) (u := 100) (v := 25) (j := 0) hn rfl hv rfl) rfl rfl (Nat.le_of_ble_eq_true rfl)) rfl rfl rfl ?_
  refine me1 (pc' := 65) dm_X2_copyOf_64 rfl rfl rfl rfl ?_
  refine me1 (pc' := 66) dm_X2_copyOf_65 rfl rfl rfl rfl ?_
  refine me3 (pc' := 69) dm_X2_copyOf_66 (g_get (v := .ref 8) (lu (n := 2) (j := 2) hn rfl) rfl rfl (Nat.le_of_ble_eq_true rfl)) rfl rfl rfl ?_
  refine me1 (pc' := 70) dm_X2_copyOf_69 rfl rfl rfl rfl ?_
  refine me3 (pc' := 71) dm_X2_copyOf_70 (g_aald (v := .null) (lu (n := 2) (j := 6) hn rfl) rfl (by decide) rfl (Nat.le_of_ble_eq_true rfl)) rfl rfl rfl ?_
  refine me3 (pc' := 72) dm_X2_copyOf_71 (g_aastn (le_ (n := 2) (u := 100) (v := 25) (j := 4) hn rfl hv rfl) (se (n := 2) (u := 100) (v := 25) (j := 4) hn rfl hv _) rfl (by decide) (Nat.le_of_ble_eq_true rfl)) rfl rfl rfl ?_
  refine me1 (pc' := 75) (L' := [(2, .int (37 : Int32)), (0, .ref 127), (1, .ref 4)]) dm_X2_copyOf_72 rfl rfl rfl rfl ?_
  refine me2 (pc' := 18) dm_X2_copyOf_75 rfl rfl rfl ?_
  refine me1 (pc' := 19) dm_X2_copyOf_18 rfl rfl rfl rfl ?_
  refine me0 (pc' := 21) (S' := .int (40 : Int32) :: _) dm_X2_copyOf_19 rfl rfl rfl rfl ?_
  refine me_2f (pc' := 24) dm_X2_copyOf_21 rfl (by decide) rfl ?_
  refine me1 (pc' := 25) dm_X2_copyOf_24 rfl rfl rfl rfl ?_
  refine me3 (pc' := 28) dm_X2_copyOf_25 (g_get (v := .ref 128) (le_ (n := 2) (u := 100) (v := 25) (j := 0) hn rfl hv rfl) rfl rfl (Nat.le_of_ble_eq_true rfl)) rfl rfl rfl ?_
  refine me1 (pc' := 29) dm_X2_copyOf_28 rfl rfl rfl rfl ?_
  refine me1 (pc' := 30) dm_X2_copyOf_29 rfl rfl rfl rfl ?_
  refine me3 (pc' := 33) dm_X2_copyOf_30 (g_get (v := .ref 5) (lu (n := 2) (j := 2) hn rfl) rfl rfl (Nat.le_of_ble_eq_true rfl)) rfl rfl rfl ?_
  refine me1 (pc' := 34) dm_X2_copyOf_33 rfl rfl rfl rfl ?_
  refine me3 (pc' := 35) dm_X2_copyOf_34 (g_lald (v := (0 : Int64)) (lu (n := 2) (j := 3) hn rfl) rfl (by decide) rfl (Nat.le_of_ble_eq_true rfl)) rfl rfl rfl ?_
  refine me3 (pc' := 36) dm_X2_copyOf_35 (g_last (le_ (n := 2) (u := 100) (v := 25) (j := 1) hn rfl hv rfl) (se (n := 2) (u := 100) (v := 25) (j := 1) hn rfl hv _) rfl (by decide) (Nat.le_of_ble_eq_true rfl)) rfl rfl rfl ?_
  refine me1 (pc' := 37) dm_X2_copyOf_36 rfl rfl rfl rfl ?_
  refine me3 (pc' := 40) dm_X2_copyOf_37 (g_get (v := .ref 129) (le_ (n := 2) (u := 100) (v := 25) (j := 0) hn rfl hv rfl) rfl rfl (Nat.le_of_ble_eq_true rfl)) rfl rfl rfl ?_
  refine me1 (pc' := 41) dm_X2_copyOf_40 rfl rfl rfl rfl ?_
  refine me1 (pc' := 42) dm_X2_copyOf_41 rfl rfl rfl rfl ?_
  refine me3 (pc' := 45) dm_X2_copyOf_42 (g_get (v := .ref 6) (lu (n := 2) (j := 2) hn rfl) rfl rfl (Nat.le_of_ble_eq_true rfl)) rfl rfl rfl ?_
  refine me1 (pc' := 46) dm_X2_copyOf_45 rfl rfl rfl rfl ?_
  refine me3 (pc' := 47) dm_X2_copyOf_46 (g_aald (v := .null) (lu (n := 2) (j := 4) hn rfl) rfl (by decide) rfl (Nat.le_of_ble_eq_true rfl)) rfl rfl rfl ?_
  refine me3 (pc' := 48) dm_X2_copyOf_47 (g_aastn (le_ (n := 2) (u := 100) (v := 25) (j := 2) hn rfl hv rfl) (se (n := 2) (u := 100) (v := 25) (j := 2) hn rfl hv _) rfl (by decide) (Nat.le_of_ble_eq_true rfl)) rfl rfl rfl ?_
  refine me1 (pc' := 49) dm_X2_copyOf_48 rfl rfl rfl rfl ?_
  refine me3 (pc' := 52) dm_X2_copyOf_49 (g_get (v := .ref 130) (le_ (n := 2) (u := 100) (v := 25) (j := 0) hn rfl hv rfl) rfl rfl (Nat.le_of_ble_eq_true rfl)) rfl rfl rfl ?_
  refine me1 (pc' := 53) dm_X2_copyOf_52 rfl rfl rfl rfl ?_
  refine me1 (pc' := 54) dm_X2_copyOf_53 rfl rfl rfl rfl ?_
  refine me3 (pc' := 57) dm_X2_copyOf_54 (g_get (v := .ref 7) (lu (n := 2) (j := 2) hn rfl) rfl rfl (Nat.le_of_ble_eq_true rfl)) rfl rfl rfl ?_
  refine me1 (pc' := 58) dm_X2_copyOf_57 rfl rfl rfl rfl ?_
  refine me3 (pc' := 59) dm_X2_copyOf_58 (g_lald (v := (0 : Int64)) (lu (n := 2) (j := 5) hn rfl) rfl (by decide) rfl (Nat.le_of_ble_eq_true rfl)) rfl rfl rfl ?_
  refine me3 (pc' := 60) dm_X2_copyOf_59 (g_last (le_ (n := 2) (u := 100) (v := 25) (j := 3) hn rfl hv rfl) (se (n := 2) (u := 100) (v := 25) (j := 3) hn rfl hv _) rfl (by decide) (Nat.le_of_ble_eq_true rfl)) rfl rfl rfl ?_
  refine me1 (pc' := 61) dm_X2_copyOf_60 rfl rfl rfl rfl ?_
  refine me3 (pc' := 64) dm_X2_copyOf_61 (g_get (v := .ref 131) (le_ (n := 2) (u := 100) (v := 25) (j := 0) hn rfl hv rfl) rfl rfl (Nat.le_of_ble_eq_true rfl)) rfl rfl rfl ?_
  refine me1 (pc' := 65) dm_X2_copyOf_64 rfl rfl rfl rfl ?_
  refine me1 (pc' := 66) dm_X2_copyOf_65 rfl rfl rfl rfl ?_
  refine me3 (pc' := 69) dm_X2_copyOf_66 (g_get (v := .ref 8) (lu (n := 2) (j := 2) hn rfl) rfl rfl (Nat.le_of_ble_eq_true rfl)) rfl rfl rfl ?_
  refine me1 (pc' := 70) dm_X2_copyOf_69 rfl rfl rfl rfl ?_
  refine me3 (pc' := 71) dm_X2_copyOf_70 (g_aald (v := .null) (lu (n := 2) (j := 6) hn rfl) rfl (by decide) rfl (Nat.le_of_ble_eq_true rfl)) rfl rfl rfl ?_
  refine me3 (pc' := 72) dm_X2_copyOf_71 (g_aastn (le_ (n := 2) (u := 100) (v := 25) (j := 4) hn rfl hv rfl) (se (n := 2) (u := 100) (v := 25) (j := 4) hn rfl hv _) rfl (by decide) (Nat.le_of_ble_eq_true rfl)) rfl rfl rfl ?_
  refine me1 (pc' := 75) (L' := [(2, .int (38 : Int32)), (0, .ref 127), (1, .ref 4)]) dm_X2_copyOf_72 rfl rfl rfl rfl ?_
  refine me2 (pc' := 18) dm_X2_copyOf_75 rfl rfl rfl ?_
  refine me1 (pc' := 19) dm_X2_copyOf_18 rfl rfl rfl rfl ?_
  refine me0 (pc' := 21) (S' := .int (40 : Int32) :: _) dm_X2_copyOf_19 rfl rfl rfl rfl ?_
  refine me_2f (pc' := 24) dm_X2_copyOf_21 rfl (by decide) rfl ?_
  refine me1 (pc' := 25) dm_X2_copyOf_24 rfl rfl rfl rfl ?_
  refine me3 (pc' := 28) dm_X2_copyOf_25 (g_get (v := .ref 128) (le_ (n := 2) (u := 100) (v := 25) (j := 0) hn rfl hv rfl) rfl rfl (Nat.le_of_ble_eq_true rfl)) rfl rfl rfl ?_
  refine me1 (pc' := 29) dm_X2_copyOf_28 rfl rfl rfl rfl ?_
  refine me1 (pc' := 30) dm_X2_copyOf_29 rfl rfl rfl rfl ?_
  refine me3 (pc' := 33) dm_X2_copyOf_30 (g_get (v := .ref 5) (lu (n := 2) (j := 2) hn rfl) rfl rfl (Nat.le_of_ble_eq_true rfl)) rfl rfl rfl ?_
  refine me1 (pc' := 34) dm_X2_copyOf_33 rfl rfl rfl rfl ?_
  refine me3 (pc' := 35) dm_X2_copyOf_34 (g_lald (v := (0 : Int64)) (lu (n := 2) (j := 3) hn rfl) rfl (by decide) rfl (Nat.le_of_ble_eq_true rfl)) rfl rfl rfl ?_
  refine me3 (pc' := 36) dm_X2_copyOf_35 (g_last (le_ (n := 2) (u := 100) (v := 25) (j := 1) hn rfl hv rfl) (se (n := 2) (u := 100) (v := 25) (j := 1) hn rfl hv _) rfl (by decide) (Nat.le_of_ble_eq_true rfl)) rfl rfl rfl ?_
  refine me1 (pc' := 37) dm_X2_copyOf_36 rfl rfl rfl rfl ?_
  refine me3 (pc' := 40) dm_X2_copyOf_37 (g_get (v := .ref 129) (le_ (n := 2) (u := 100) (v := 25) (j := 0) hn rfl hv rfl) rfl rfl (Nat.le_of_ble_eq_true rfl)) rfl rfl rfl ?_
  refine me1 (pc' := 41) dm_X2_copyOf_40 rfl rfl rfl rfl ?_
  refine me1 (pc' := 42) dm_X2_copyOf_41 rfl rfl rfl rfl ?_
  refine me3 (pc' := 45) dm_X2_copyOf_42 (g_get (v := .ref 6) (lu (n := 2) (j := 2) hn rfl) rfl rfl (Nat.le_of_ble_eq_true rfl)) rfl rfl rfl ?_
  refine me1 (pc' := 46) dm_X2_copyOf_45 rfl rfl rfl rfl ?_
  refine me3 (pc' := 47) dm_X2_copyOf_46 (g_aald (v := .null) (lu (n := 2) (j := 4) hn rfl) rfl (by decide) rfl (Nat.le_of_ble_eq_true rfl)) rfl rfl rfl ?_
  refine me3 (pc' := 48) dm_X2_copyOf_47 (g_aastn (le_ (n := 2) (u := 100) (v := 25) (j := 2) hn rfl hv rfl) (se (n := 2) (u := 100) (v := 25) (j := 2) hn rfl hv _) rfl (by decide) (Nat.le_of_ble_eq_true rfl)) rfl rfl rfl ?_
  refine me1 (pc' := 49) dm_X2_copyOf_48 rfl rfl rfl rfl ?_
  refine me3 (pc' := 52) dm_X2_copyOf_49 (g_get (v := .ref 130) (le_ (n := 2) (u := 100) (v := 25) (j := 0) hn rfl hv rfl) rfl rfl (Nat.le_of_ble_eq_true rfl)) rfl rfl rfl ?_
  refine me1 (pc' := 53) dm_X2_copyOf_52 rfl rfl rfl rfl ?_
  refine me1 (pc' := 54) dm_X2_copyOf_53 rfl rfl rfl rfl ?_
  refine me3 (pc' := 57) dm_X2_copyOf_54 (g_get (v := .ref 7) (lu (n := 2) (j := 2) hn rfl) rfl rfl (Nat.le_of_ble_eq_true rfl)) rfl rfl rfl ?_
  refine me1 (pc' := 58) dm_X2_copyOf_57 rfl rfl rfl rfl ?_
  refine me3 (pc' := 59) dm_X2_copyOf_58 (g_lald (v := (0 : Int64)) (lu (n := 2) (j := 5) hn rfl) rfl (by decide) rfl (Nat.le_of_ble_eq_true rfl)) rfl rfl rfl ?_
  refine me3 (pc' := 60) dm_X2_copyOf_59 (g_last (le_ (n := 2) (u := 100) (v := 25) (j := 3) hn rfl hv rfl) (se (n := 2) (u := 100) (v := 25) (j := 3) hn rfl hv _) rfl (by decide) (Nat.le_of_ble_eq_true rfl)) rfl rfl rfl ?_
  refine me1 (pc' := 61) dm_X2_copyOf_60 rfl rfl rfl rfl ?_
  refine me3 (pc' := 64) dm_X2_copyOf_61 (g_get (v := .ref 131) (le_ (n := 2) (u := 100) (v := 25) (j := 0) hn rfl hv rfl) rfl rfl (Nat.le_of_ble_eq_true rfl)) rfl rfl rfl ?_
  refine me1 (pc' := 65) dm_X2_copyOf_64 rfl rfl rfl rfl ?_
  refine me1 (pc' := 66) dm_X2_copyOf_65 rfl rfl rfl rfl ?_
  refine me3 (pc' := 69) dm_X2_copyOf_66 (g_get (v := .ref 8) (lu (n := 2) (j := 2) hn rfl) rfl rfl (Nat.le_of_ble_eq_true rfl)) rfl rfl rfl ?_
  refine me1 (pc' := 70) dm_X2_copyOf_69 rfl rfl rfl rfl ?_
  refine me3 (pc' := 71) dm_X2_copyOf_70 (g_aald (v := .null) (lu (n := 2) (j := 6) hn rfl) rfl (by decide) rfl (Nat.le_of_ble_eq_true rfl)) rfl rfl rfl ?_
  refine me3 (pc' := 72) dm_X2_copyOf_71 (g_aastn (le_ (n := 2) (u := 100) (v := 25) (j := 4) hn rfl hv rfl) (se (n := 2) (u := 100) (v := 25) (j := 4) hn rfl hv _) rfl (by decide) (Nat.le_of_ble_eq_true rfl)) rfl rfl rfl ?_
  refine me1 (pc' := 75) (L' := [(2, .int (39 : Int32)), (0, .ref 127), (1, .ref 4)]) dm_X2_copyOf_72 rfl rfl rfl rfl ?_
  refine me2 (pc' := 18) dm_X2_copyOf_75 rfl rfl rfl ?_
  refine me1 (pc' := 19) dm_X2_copyOf_18 rfl rfl rfl rfl ?_
  refine me0 (pc' := 21) (S' := .int (40 : Int32) :: _) dm_X2_copyOf_19 rfl rfl rfl rfl ?_
  refine me_2f (pc' := 24) dm_X2_copyOf_21 rfl (by decide) rfl ?_
  refine me1 (pc' := 25) dm_X2_copyOf_24 rfl rfl rfl rfl ?_
  refine me3 (pc' := 28) dm_X2_copyOf_25 (g_get (v := .ref 128) (le_ (n := 2) (u := 100) (v := 25) (j := 0) hn rfl hv rfl) rfl rfl (Nat.le_of_ble_eq_true rfl)) rfl rfl rfl ?_
  refine me1 (pc' := 29) dm_X2_copyOf_28 rfl rfl rfl rfl ?_
  refine me1 (pc' := 30) dm_X2_copyOf_29 rfl rfl rfl rfl ?_
  refine me3 (pc' := 33) dm_X2_copyOf_30 (g_get (v := .ref 5) (lu (n := 2) (j := 2) hn rfl) rfl rfl (Nat.le_of_ble_eq_true rfl)) rfl rfl rfl ?_
  refine me1 (pc' := 34) dm_X2_copyOf_33 rfl rfl rfl rfl ?_
  refine me3 (pc' := 35) dm_X2_copyOf_34 (g_lald (v := (0 : Int64)) (lu (n := 2) (j := 3) hn rfl) rfl (by decide) rfl (Nat.le_of_ble_eq_true rfl)) rfl rfl rfl ?_
  refine me3 (pc' := 36) dm_X2_copyOf_35 (g_last (le_ (n := 2) (u := 100) (v := 25) (j := 1) hn rfl hv rfl) (se (n := 2) (u := 100) (v := 25) (j := 1) hn rfl hv _) rfl (by decide) (Nat.le_of_ble_eq_true rfl)) rfl rfl rfl ?_
  refine me1 (pc' := 37) dm_X2_copyOf_36 rfl rfl rfl rfl ?_
  refine me3 (pc' := 40) dm_X2_copyOf_37 (g_get (v := .ref 129) (le_ (n := 2) (u := 100) (v := 25) (j := 0) hn rfl hv rfl) rfl rfl (Nat.le_of_ble_eq_true rfl)) rfl rfl rfl ?_
  refine me1 (pc' := 41) dm_X2_copyOf_40 rfl rfl rfl rfl ?_
  refine me1 (pc' := 42) dm_X2_copyOf_41 rfl rfl rfl rfl ?_
  refine me3 (pc' := 45) dm_X2_copyOf_42 (g_get (v := .ref 6) (lu (n := 2) (j := 2) hn rfl) rfl rfl (Nat.le_of_ble_eq_true rfl)) rfl rfl rfl ?_
  refine me1 (pc' := 46) dm_X2_copyOf_45 rfl rfl rfl rfl ?_
  refine me3 (pc' := 47) dm_X2_copyOf_46 (g_aald (v := .null) (lu (n := 2) (j := 4) hn rfl) rfl (by decide) rfl (Nat.le_of_ble_eq_true rfl)) rfl rfl rfl ?_
  refine me3 (pc' := 48) dm_X2_copyOf_47 (g_aastn (le_ (n := 2) (u := 100) (v := 25) (j := 2) hn rfl hv rfl) (se (n := 2) (u := 100) (v := 25) (j := 2) hn rfl hv _) rfl (by decide) (Nat.le_of_ble_eq_true rfl)) rfl rfl rfl ?_
  refine me1 (pc' := 49) dm_X2_copyOf_48 rfl rfl rfl rfl ?_
  refine me3 (pc' := 52) dm_X2_copyOf_49 (g_get (v := .ref 130) (le_ (n := 2) (u := 100) (v := 25) (j := 0) hn rfl hv rfl) rfl rfl (Nat.le_of_ble_eq_true rfl)) rfl rfl rfl ?_
  refine me1 (pc' := 53) dm_X2_copyOf_52 rfl rfl rfl rfl ?_
  refine me1 (pc' := 54) dm_X2_copyOf_53 rfl rfl rfl rfl ?_
  refine me3 (pc' := 57) dm_X2_copyOf_54 (g_get (v := .ref 7) (lu (n := 2) (j := 2) hn rfl) rfl rfl (Nat.le_of_ble_eq_true rfl)) rfl rfl rfl ?_
  refine me1 (pc' := 58) dm_X2_copyOf_57 rfl rfl rfl rfl ?_
  refine me3 (pc' := 59) dm_X2_copyOf_58 (g_lald (v := (0 : Int64)) (lu (n := 2) (j := 5) hn rfl) rfl (by decide) rfl (Nat.le_of_ble_eq_true rfl)) rfl rfl rfl ?_
  refine me3 (pc' := 60) dm_X2_copyOf_59 (g_last (le_ (n := 2) (u := 100) (v := 25) (j := 3) hn rfl hv rfl) (se (n := 2) (u := 100) (v := 25) (j := 3) hn rfl hv _) rfl (by decide) (Nat.le_of_ble_eq_true rfl)) rfl rfl rfl ?_
  refine me1 (pc' := 61) dm_X2_copyOf_60 rfl rfl rfl rfl ?_
  refine me3 (pc' := 64) dm_X2_copyOf_61 (g_get (v := .ref 131) (le_ (n := 2) (u := 100) (v := 25) (j := 0) hn rfl hv rfl) rfl rfl (Nat.le_of_ble_eq_true rfl)) rfl rfl rfl ?_
  refine me1 (pc' := 65) dm_X2_copyOf_64 rfl rfl rfl rfl ?_
  refine me1 (pc' := 66) dm_X2_copyOf_65 rfl rfl rfl rfl ?_
  refine me3 (pc' := 69) dm_X2_copyOf_66 (g_get (v := .ref 8) (lu (n := 2) (j := 2) hn rfl) rfl rfl (Nat.le_of_ble_eq_true rfl)) rfl rfl rfl ?_
  refine me1 (pc' := 70) dm_X2_copyOf_69 rfl rfl rfl rfl ?_
  refine me3 (pc' := 71) dm_X2_copyOf_70 (g_aald (v := .null) (lu (n := 2) (j := 6) hn rfl) rfl (by decide) rfl (Nat.le_of_ble_eq_true rfl)) rfl rfl rfl ?_
  refine me3 (pc' := 72) dm_X2_copyOf_71 (g_aastn (le_ (n := 2) (u := 100) (v := 25) (j := 4) hn rfl hv rfl) (se (n := 2) (u := 100) (v := 25) (j := 4) hn rfl hv _) rfl (by decide) (Nat.le_of_ble_eq_true rfl)) rfl rfl rfl ?_
  refine me1 (pc' := 75) (L' := [(2, .int (40 : Int32)), (0, .ref 127), (1, .ref 4)]) dm_X2_copyOf_72 rfl rfl rfl rfl ?_
  refine me2 (pc' := 18) dm_X2_copyOf_75 rfl rfl rfl ?_
  refine me1 (pc' := 19) dm_X2_copyOf_18 rfl rfl rfl rfl ?_
  refine me0 (pc' := 21) (S' := .int (40 : Int32) :: _) dm_X2_copyOf_19 rfl rfl rfl rfl ?_
  refine me_2t (pc' := 78) dm_X2_copyOf_21 rfl rfl ?_
  refine me5 dm_X2_copyOf_78 rfl rfl rfl ?_
  refine me0 (pc' := 51) (S' := .int (1 : Int32) :: _) dm_X11_keep_50 rfl rfl rfl rfl ?_
  refine me5 dm_X11_keep_51 rfl rfl rfl ?_
  exact k _ _ rfl (Nat.le_of_ble_eq_true rfl) (Nat.le_of_ble_eq_true rfl) (Nat.le_of_ble_eq_true rfl)
set_option maxRecDepth 100000 in
set_option maxHeartbeats 40000000 in
theorem c_keep_v2 {xt : mj_X} {d : Nat} {h V : mj_H} (hn : h.length = 2) (hv : V.length = 25) {P : Option Value → mj_H → Prop}  (k : ∀ U D, U.length = 100 → mj_sl U ≤ 20000 → D.length ≤ 10 → mj_sl D ≤ 2000 → P (some (.int (1 : Int32))) (h ++ (U ++ (V ++ D)))) : pgE xt (d + 20) 11 2 false (Option.some FieldType.boolean) (mj_dec prog_1_method_15_code) 0 [(0, .ref 2), (1, .int (2 : Int32))] [] (h ++ (cT ++ (V ++ []))) P := by
  refine me1 (pc' := 1) dm_X11_keep_0 rfl rfl rfl rfl ?_
  refine me_1f (pc' := 4) dm_X11_keep_1 rfl (by decide) rfl ?_
  refine me1 (pc' := 5) dm_X11_keep_4 rfl rfl rfl rfl ?_
  refine me1 (pc' := 6) dm_X11_keep_5 rfl rfl rfl rfl ?_
  refine me3 (pc' := 9) dm_X11_keep_6 (g_get (v := .ref 15) (lu (n := 2) (j := 0) hn rfl) rfl rfl (Nat.le_of_ble_eq_true rfl)) rfl rfl rfl ?_
  refine me3 (pc' := 10) dm_X11_keep_9 (g_len (v := (4 : Int32)) (lu (n := 2) (j := 13) hn rfl) rfl rfl (Nat.le_of_ble_eq_true rfl)) rfl rfl rfl ?_
  refine me_2t (pc' := 15) dm_X11_keep_10 rfl rfl ?_
  refine me1 (pc' := 16) dm_X11_keep_15 rfl rfl rfl rfl ?_
  refine me3 (pc' := 19) dm_X11_keep_16 (g_get (v := .ref 15) (lu (n := 2) (j := 0) hn rfl) rfl rfl (Nat.le_of_ble_eq_true rfl)) rfl rfl rfl ?_
  refine me1 (pc' := 20) dm_X11_keep_19 rfl rfl rfl rfl ?_
  refine me3 (pc' := 21) dm_X11_keep_20 (g_aald (v := .null) (lu (n := 2) (j := 13) hn rfl) rfl (by decide) rfl (Nat.le_of_ble_eq_true rfl)) rfl rfl rfl ?_
  refine me2 (pc' := 24) dm_X11_keep_21 rfl rfl rfl ?_
  refine me1 (pc' := 25) dm_X11_keep_24 rfl rfl rfl rfl ?_
  refine me3 (pc' := 28) dm_X11_keep_25 (g_get (v := .ref 15) (lu (n := 2) (j := 0) hn rfl) rfl rfl (Nat.le_of_ble_eq_true rfl)) rfl rfl rfl ?_
  refine me1 (pc' := 29) dm_X11_keep_28 rfl rfl rfl rfl ?_
  refine me3 (pc' := 32) dm_X11_keep_29 (g_nw (a := 127) (ne_ (n := 2) (u := 100) (v := 25) (j := 0) hn rfl hv rfl) (ae _) rfl) rfl rfl rfl ?_
  refine me0 (pc' := 33) dm_X11_keep_32 rfl rfl rfl rfl ?_
  refine me4 (pc' := 36) (L0 := [(0, .ref 127)]) dm_X11_keep_33 rfl (g_invp (As := []) rfl rfl rfl) pm_X2_init rfl (Nat.le_of_ble_eq_true rfl) rfl rfl rfl ?_
  refine me1 (pc' := 1) dm_X2_init_0 rfl rfl rfl rfl ?_
  refine me4o (pc' := 4) dm_X2_init_1 rfl rfl (by omega) rfl rfl rfl ?_
  refine me1 (pc' := 5) dm_X2_init_4 rfl rfl rfl rfl ?_
  refine me0 (pc' := 7) (S' := .int (40 : Int32) :: _) dm_X2_init_5 rfl rfl rfl rfl ?_
  refine me3 (pc' := 9) dm_X2_init_7 (g_nwa (a := 128) (ne_ (n := 2) (u := 100) (v := 25) (j := 1) hn rfl hv rfl) (ae _) rfl (by decide)) rfl rfl rfl ?_
  refine me3 (pc' := 12) dm_X2_init_9 (g_put (fs' := [.ref 128, .null, .int (0 : Int32), .null, .null, .int (0 : Int32)]) (le_ (n := 2) (u := 100) (v := 25) (j := 0) hn rfl hv rfl) rfl (se (n := 2) (u := 100) (v := 25) (j := 0) hn rfl hv _) rfl (Nat.le_of_ble_eq_true rfl) rfl (by decide) (fun _ => rfl) (Nat.le_of_ble_eq_true rfl)) rfl rfl rfl ?_
  refine me1 (pc' := 13) dm_X2_init_12 rfl rfl rfl rfl ?_
  refine me0 (pc' := 15) (S' := .int (40 : Int32) :: _) dm_X2_init_13 rfl rfl rfl rfl ?_
  refine me3 (pc' := 18) dm_X2_init_15 (g_nwq (a := 129) (ne_ (n := 2) (u := 100) (v := 25) (j := 2) hn rfl hv rfl) (ae _) rfl (by decide)) rfl rfl rfl ?_
  refine me3 (pc' := 21) dm_X2_init_18 (g_put (fs' := [.ref 128, .ref 129, .int (0 : Int32), .null, .null, .int (0 : Int32)]) (le_ (n := 2) (u := 100) (v := 25) (j := 0) hn rfl hv rfl) rfl (se (n := 2) (u := 100) (v := 25) (j := 0) hn rfl hv _) rfl (Nat.le_of_ble_eq_true rfl) rfl (by decide) (fun _ => rfl) (Nat.le_of_ble_eq_true rfl)) rfl rfl rfl ?_
  refine me1 (pc' := 22) dm_X2_init_21 rfl rfl rfl rfl ?_
  refine me0 (pc' := 24) (S' := .int (40 : Int32) :: _) dm_X2_init_22 rfl rfl rfl rfl ?_
  refine me3 (pc' := 26) dm_X2_init_24 (g_nwa (a := 130) (ne_ (n := 2) (u := 100) (v := 25) (j := 3) hn rfl hv rfl) (ae _) rfl (by decide)) rfl rfl rfl ?_
  refine me3 (pc' := 29) dm_X2_init_26 (g_put (fs' := [.ref 128, .ref 129, .int (0 : Int32), .ref 130, .null, .int (0 : Int32)]) (le_ (n := 2) (u := 100) (v := 25) (j := 0) hn rfl hv rfl) rfl (se (n := 2) (u := 100) (v := 25) (j := 0) hn rfl hv _) rfl (Nat.le_of_ble_eq_true rfl) rfl (by decide) (fun _ => rfl) (Nat.le_of_ble_eq_true rfl)) rfl rfl rfl ?_
  refine me1 (pc' := 30) dm_X2_init_29 rfl rfl rfl rfl ?_
  refine me0 (pc' := 32) (S' := .int (40 : Int32) :: _) dm_X2_init_30 rfl rfl rfl rfl ?_
  refine me3 (pc' := 35) dm_X2_init_32 (g_nwq (a := 131) (ne_ (n := 2) (u := 100) (v := 25) (j := 4) hn rfl hv rfl) (ae _) rfl (by decide)) rfl rfl rfl ?_
  refine me3 (pc' := 38) dm_X2_init_35 (g_put (fs' := [.ref 128, .ref 129, .int (0 : Int32), .ref 130, .ref 131, .int (0 : Int32)]) (le_ (n := 2) (u := 100) (v := 25) (j := 0) hn rfl hv rfl) rfl (se (n := 2) (u := 100) (v := 25) (j := 0) hn rfl hv _) rfl (Nat.le_of_ble_eq_true rfl) rfl (by decide) (fun _ => rfl) (Nat.le_of_ble_eq_true rfl)) rfl rfl rfl ?_
  refine me5 dm_X2_init_38 rfl rfl rfl ?_
  refine me3 (pc' := 37) dm_X11_keep_36 (u_aastr (n := 2) (j := 13) hn rfl (le_ (n := 2) (u := 100) (v := 25) (j := 0) hn rfl hv rfl) rfl (by decide) rfl (Nat.le_of_ble_eq_true rfl) (Nat.le_of_ble_eq_true rfl)) rfl rfl rfl ?_
  refine me1 (pc' := 38) dm_X11_keep_37 rfl rfl rfl rfl ?_
  refine me3 (pc' := 41) dm_X11_keep_38 (g_get (v := .ref 15) (lu (n := 2) (j := 0) hn rfl) rfl rfl (Nat.le_of_ble_eq_true rfl)) rfl rfl rfl ?_
  refine me1 (pc' := 42) dm_X11_keep_41 rfl rfl rfl rfl ?_
  refine me3 (pc' := 43) dm_X11_keep_42 (g_aald (v := .ref 127) (lu (n := 2) (j := 13) hn rfl) rfl (by decide) rfl (Nat.le_of_ble_eq_true rfl)) rfl rfl rfl ?_
  refine me1 (pc' := 44) dm_X11_keep_43 rfl rfl rfl rfl ?_
  refine me3 (pc' := 47) dm_X11_keep_44 (g_get (v := .ref 4) (lu (n := 2) (j := 0) hn rfl) rfl rfl (Nat.le_of_ble_eq_true rfl)) rfl rfl rfl ?_
  refine me4 (pc' := 50) (L0 := [(0, .ref 127), (1, .ref 4)]) dm_X11_keep_47 rfl (g_inv (As := [.ref 4]) (le_ (n := 2) (u := 100) (v := 25) (j := 0) hn rfl hv rfl) rfl rfl rfl (Nat.le_of_ble_eq_true rfl)) pm_X2_copyOf rfl (Nat.le_of_ble_eq_true rfl) rfl rfl rfl ?_
  refine me1 (pc' := 1) dm_X2_copyOf_0 rfl rfl rfl rfl ?_
  refine me1 (pc' := 2) dm_X2_copyOf_1 rfl rfl rfl rfl ?_
  refine me3 (pc' := 5) dm_X2_copyOf_2 (g_get (v := .int (0 : Int32)) (lu (n := 2) (j := 2) hn rfl) rfl rfl (Nat.le_of_ble_eq_true rfl)) rfl rfl rfl ?_
  refine me3 (pc' := 8) dm_X2_copyOf_5 (g_put (fs' := [.ref 128, .ref 129, .int (0 : Int32), .ref 130, .ref 131, .int (0 : Int32)]) (le_ (n := 2) (u := 100) (v := 25) (j := 0) hn rfl hv rfl) rfl (se (n := 2) (u := 100) (v := 25) (j := 0) hn rfl hv _) rfl (Nat.le_of_ble_eq_true rfl) rfl (by decide) (fun z => by cases z) (Nat.le_of_ble_eq_true rfl)) rfl rfl rfl ?_
  refine me1 (pc' := 9) dm_X2_copyOf_8 rfl rfl rfl rfl ?_
  refine me1 (pc' := 10) dm_X2_copyOf_9 rfl rfl rfl rfl ?_
  refine me3 (pc' := 13) dm_X2_copyOf_10 (g_get (v := .int (0 : Int32)) (lu (n := 2) (j := 2) hn rfl) rfl rfl (Nat.le_of_ble_eq_true rfl)) rfl rfl rfl ?_
  refine me3 (pc' := 16) dm_X2_copyOf_13 (g_put (fs' := [.ref 128, .ref 129, .int (0 : Int32), .ref 130, .ref 131, .int (0 : Int32)]) (le_ (n := 2) (u := 100) (v := 25) (j := 0) hn rfl hv rfl) rfl (se (n := 2) (u := 100) (v := 25) (j := 0) hn rfl hv _) rfl (Nat.le_of_ble_eq_true rfl) rfl (by decide) (fun z => by cases z) (Nat.le_of_ble_eq_true rfl)) rfl rfl rfl ?_
  refine me0 (pc' := 17) (S' := .int (0 : Int32) :: _) dm_X2_copyOf_16 rfl rfl rfl rfl ?_
  refine me1 (pc' := 18) (L' := [(2, .int (0 : Int32)), (0, .ref 127), (1, .ref 4)]) dm_X2_copyOf_17 rfl rfl rfl rfl ?_
  refine me1 (pc' := 19) dm_X2_copyOf_18 rfl rfl rfl rfl ?_
  refine me0 (pc' := 21) (S' := .int (40 : Int32) :: _) dm_X2_copyOf_19 rfl rfl rfl rfl ?_
  refine me_2f (pc' := 24) dm_X2_copyOf_21 rfl (by decide) rfl ?_
  refine me1 (pc' := 25) dm_X2_copyOf_24 rfl rfl rfl rfl ?_
  refine me3 (pc' := 28) dm_X2_copyOf_25 (g_get (v := .ref 128) (le_ (n := 2) (u := 100) (v := 25) (j := 0) hn rfl hv rfl) rfl rfl (Nat.le_of_ble_eq_true rfl)) rfl rfl rfl ?_
  refine me1 (pc' := 29) dm_X2_copyOf_28 rfl rfl rfl rfl ?_
  refine me1 (pc' := 30) dm_X2_copyOf_29 rfl rfl rfl rfl ?_
  refine me3 (pc' := 33) dm_X2_copyOf_30 (g_get (v := .ref 5) (lu (n := 2) (j := 2) hn rfl) rfl rfl (Nat.le_of_ble_eq_true rfl)) rfl rfl rfl ?_
  refine me1 (pc' := 34) dm_X2_copyOf_33 rfl rfl rfl rfl ?_
  refine me3 (pc' := 35) dm_X2_copyOf_34 (g_lald (v := (0 : Int64)) (lu (n := 2) (j := 3) hn rfl) rfl (by decide) rfl (Nat.le_of_ble_eq_true rfl)) rfl rfl rfl ?_
  refine me3 (pc' := 36) dm_X2_copyOf_35 (g_last (le_ (n := 2) (u := 100) (v := 25) (j := 1) hn rfl hv rfl) (se (n := 2) (u := 100) (v := 25) (j := 1) hn rfl hv _) rfl (by decide) (Nat.le_of_ble_eq_true rfl)) rfl rfl rfl ?_
  refine me1 (pc' := 37) dm_X2_copyOf_36 rfl rfl rfl rfl ?_
  refine me3 (pc' := 40) dm_X2_copyOf_37 (g_get (v := .ref 129) (le_ (n := 2) (u := 100) (v := 25) (j := 0) hn rfl hv rfl) rfl rfl (Nat.le_of_ble_eq_true rfl)) rfl rfl rfl ?_
  refine me1 (pc' := 41) dm_X2_copyOf_40 rfl rfl rfl rfl ?_
  refine me1 (pc' := 42) dm_X2_copyOf_41 rfl rfl rfl rfl ?_
  refine me3 (pc' := 45) dm_X2_copyOf_42 (g_get (v := .ref 6) (lu (n := 2) (j := 2) hn rfl) rfl rfl (Nat.le_of_ble_eq_true rfl)) rfl rfl rfl ?_
  refine me1 (pc' := 46) dm_X2_copyOf_45 rfl rfl rfl rfl ?_
  refine me3 (pc' := 47) dm_X2_copyOf_46 (g_aald (v := .null) (lu (n := 2) (j := 4) hn rfl) rfl (by decide) rfl (Nat.le_of_ble_eq_true rfl)) rfl rfl rfl ?_
  refine me3 (pc' := 48) dm_X2_copyOf_47 (g_aastn (le_ (n := 2) (u := 100) (v := 25) (j := 2) hn rfl hv rfl) (se (n := 2) (u := 100) (v := 25) (j := 2) hn rfl hv _) rfl (by decide) (Nat.le_of_ble_eq_true rfl)) rfl rfl rfl ?_
  refine me1 (pc' := 49) dm_X2_copyOf_48 rfl rfl rfl rfl ?_
  refine me3 (pc' := 52) dm_X2_copyOf_49 (g_get (v := .ref 130) (le_ (n := 2) (u := 100) (v := 25) (j := 0) hn rfl hv rfl) rfl rfl (Nat.le_of_ble_eq_true rfl)) rfl rfl rfl ?_
  refine me1 (pc' := 53) dm_X2_copyOf_52 rfl rfl rfl rfl ?_
  refine me1 (pc' := 54) dm_X2_copyOf_53 rfl rfl rfl rfl ?_
  refine me3 (pc' := 57) dm_X2_copyOf_54 (g_get (v := .ref 7) (lu (n := 2) (j := 2) hn rfl) rfl rfl (Nat.le_of_ble_eq_true rfl)) rfl rfl rfl ?_
  refine me1 (pc' := 58) dm_X2_copyOf_57 rfl rfl rfl rfl ?_
  refine me3 (pc' := 59) dm_X2_copyOf_58 (g_lald (v := (0 : Int64)) (lu (n := 2) (j := 5) hn rfl) rfl (by decide) rfl (Nat.le_of_ble_eq_true rfl)) rfl rfl rfl ?_
  refine me3 (pc' := 60) dm_X2_copyOf_59 (g_last (le_ (n := 2) (u := 100) (v := 25) (j := 3) hn rfl hv rfl) (se (n := 2) (u := 100) (v := 25) (j := 3) hn rfl hv _) rfl (by decide) (Nat.le_of_ble_eq_true rfl)) rfl rfl rfl ?_
  refine me1 (pc' := 61) dm_X2_copyOf_60 rfl rfl rfl rfl ?_
  refine me3 (pc' := 64) dm_X2_copyOf_61 (g_get (v := .ref 131) (le_ (n := 2) (u := 100) (v := 25) (j := 0) hn rfl hv rfl) rfl rfl (Nat.le_of_ble_eq_true rfl)) rfl rfl rfl ?_
  refine me1 (pc' := 65) dm_X2_copyOf_64 rfl rfl rfl rfl ?_
  refine me1 (pc' := 66) dm_X2_copyOf_65 rfl rfl rfl rfl ?_
  refine me3 (pc' := 69) dm_X2_copyOf_66 (g_get (v := .ref 8) (lu (n := 2) (j := 2) hn rfl) rfl rfl (Nat.le_of_ble_eq_true rfl)) rfl rfl rfl ?_
  refine me1 (pc' := 70) dm_X2_copyOf_69 rfl rfl rfl rfl ?_
  refine me3 (pc' := 71) dm_X2_copyOf_70 (g_aald (v := .null) (lu (n := 2) (j := 6) hn rfl) rfl (by decide) rfl (Nat.le_of_ble_eq_true rfl)) rfl rfl rfl ?_
  refine me3 (pc' := 72) dm_X2_copyOf_71 (g_aastn (le_ (n := 2) (u := 100) (v := 25) (j := 4) hn rfl hv rfl) (se (n := 2) (u := 100) (v := 25) (j := 4) hn rfl hv _) rfl (by decide) (Nat.le_of_ble_eq_true rfl)) rfl rfl rfl ?_
  refine me1 (pc' := 75) (L' := [(2, .int (1 : Int32)), (0, .ref 127), (1, .ref 4)]) dm_X2_copyOf_72 rfl rfl rfl rfl ?_
  refine me2 (pc' := 18) dm_X2_copyOf_75 rfl rfl rfl ?_
  refine me1 (pc' := 19) dm_X2_copyOf_18 rfl rfl rfl rfl ?_
  refine me0 (pc' := 21) (S' := .int (40 : Int32) :: _) dm_X2_copyOf_19 rfl rfl rfl rfl ?_
  refine me_2f (pc' := 24) dm_X2_copyOf_21 rfl (by decide) rfl ?_
  refine me1 (pc' := 25) dm_X2_copyOf_24 rfl rfl rfl rfl ?_
  refine me3 (pc' := 28) dm_X2_copyOf_25 (g_get (v := .ref 128) (le_ (n := 2) (u := 100) (v := 25) (j := 0) hn rfl hv rfl) rfl rfl (Nat.le_of_ble_eq_true rfl)) rfl rfl rfl ?_
  refine me1 (pc' := 29) dm_X2_copyOf_28 rfl rfl rfl rfl ?_
  refine me1 (pc' := 30) dm_X2_copyOf_29 rfl rfl rfl rfl ?_
  refine me3 (pc' := 33) dm_X2_copyOf_30 (g_get (v := .ref 5) (lu (n := 2) (j := 2) hn rfl) rfl rfl (Nat.le_of_ble_eq_true rfl)) rfl rfl rfl ?_
  refine me1 (pc' := 34) dm_X2_copyOf_33 rfl rfl rfl rfl ?_
  refine me3 (pc' := 35) dm_X2_copyOf_34 (g_lald (v := (0 : Int64)) (lu (n := 2) (j := 3) hn rfl) rfl (by decide) rfl (Nat.le_of_ble_eq_true rfl)) rfl rfl rfl ?_
  refine me3 (pc' := 36) dm_X2_copyOf_35 (g_last (le_ (n := 2) (u := 100) (v := 25) (j := 1) hn rfl hv rfl) (se (n := 2) (u := 100) (v := 25) (j := 1) hn rfl hv _) rfl (by decide) (Nat.le_of_ble_eq_true rfl)) rfl rfl rfl ?_
  refine me1 (pc' := 37) dm_X2_copyOf_36 rfl rfl rfl rfl ?_
  refine me3 (pc' := 40) dm_X2_copyOf_37 (g_get (v := .ref 129) (le_ (n := 2) (u := 100) (v := 25) (j := 0) hn rfl hv rfl) rfl rfl (Nat.le_of_ble_eq_true rfl)) rfl rfl rfl ?_
  refine me1 (pc' := 41) dm_X2_copyOf_40 rfl rfl rfl rfl ?_
  refine me1 (pc' := 42) dm_X2_copyOf_41 rfl rfl rfl rfl ?_
  refine me3 (pc' := 45) dm_X2_copyOf_42 (g_get (v := .ref 6) (lu (n := 2) (j := 2) hn rfl) rfl rfl (Nat.le_of_ble_eq_true rfl)) rfl rfl rfl ?_
  refine me1 (pc' := 46) dm_X2_copyOf_45 rfl rfl rfl rfl ?_
  refine me3 (pc' := 47) dm_X2_copyOf_46 (g_aald (v := .null) (lu (n := 2) (j := 4) hn rfl) rfl (by decide) rfl (Nat.le_of_ble_eq_true rfl)) rfl rfl rfl ?_
  refine me3 (pc' := 48) dm_X2_copyOf_47 (g_aastn (le_ (n := 2) (u := 100) (v := 25) (j := 2) hn rfl hv rfl) (se (n := 2) (u := 100) (v := 25) (j := 2) hn rfl hv _) rfl (by decide) (Nat.le_of_ble_eq_true rfl)) rfl rfl rfl ?_
  refine me1 (pc' := 49) dm_X2_copyOf_48 rfl rfl rfl rfl ?_
  refine me3 (pc' := 52) dm_X2_copyOf_49 (g_get (v := .ref 130) (le_ (n := 2) (u := 100) (v := 25) (j := 0) hn rfl hv rfl) rfl rfl (Nat.le_of_ble_eq_true rfl)) rfl rfl rfl ?_
  refine me1 (pc' := 53) dm_X2_copyOf_52 rfl rfl rfl rfl ?_
  refine me1 (pc' := 54) dm_X2_copyOf_53 rfl rfl rfl rfl ?_
  refine me3 (pc' := 57) dm_X2_copyOf_54 (g_get (v := .ref 7) (lu (n := 2) (j := 2) hn rfl) rfl rfl (Nat.le_of_ble_eq_true rfl)) rfl rfl rfl ?_
  refine me1 (pc' := 58) dm_X2_copyOf_57 rfl rfl rfl rfl ?_
  refine me3 (pc' := 59) dm_X2_copyOf_58 (g_lald (v := (0 : Int64)) (lu (n := 2) (j := 5) hn rfl) rfl (by decide) rfl (Nat.le_of_ble_eq_true rfl)) rfl rfl rfl ?_
  refine me3 (pc' := 60) dm_X2_copyOf_59 (g_last (le_ (n := 2) (u := 100) (v := 25) (j := 3) hn rfl hv rfl) (se (n := 2) (u := 100) (v := 25) (j := 3) hn rfl hv _) rfl (by decide) (Nat.le_of_ble_eq_true rfl)) rfl rfl rfl ?_
  refine me1 (pc' := 61) dm_X2_copyOf_60 rfl rfl rfl rfl ?_
  refine me3 (pc' := 64) dm_X2_copyOf_61 (g_get (v := .ref 131) (le_ (n := 2) (u := 100) (v := 25) (j := 0) hn rfl hv rfl) rfl rfl (Nat.le_of_ble_eq_true rfl)) rfl rfl rfl ?_
  refine me1 (pc' := 65) dm_X2_copyOf_64 rfl rfl rfl rfl ?_
  refine me1 (pc' := 66) dm_X2_copyOf_65 rfl rfl rfl rfl ?_
  refine me3 (pc' := 69) dm_X2_copyOf_66 (g_get (v := .ref 8) (lu (n := 2) (j := 2) hn rfl) rfl rfl (Nat.le_of_ble_eq_true rfl)) rfl rfl rfl ?_
  refine me1 (pc' := 70) dm_X2_copyOf_69 rfl rfl rfl rfl ?_
  refine me3 (pc' := 71) dm_X2_copyOf_70 (g_aald (v := .null) (lu (n := 2) (j := 6) hn rfl) rfl (by decide) rfl (Nat.le_of_ble_eq_true rfl)) rfl rfl rfl ?_
  refine me3 (pc' := 72) dm_X2_copyOf_71 (g_aastn (le_ (n := 2) (u := 100) (v := 25) (j := 4) hn rfl hv rfl) (se (n := 2) (u := 100) (v := 25) (j := 4) hn rfl hv _) rfl (by decide) (Nat.le_of_ble_eq_true rfl)) rfl rfl rfl ?_
  refine me1 (pc' := 75) (L' := [(2, .int (2 : Int32)), (0, .ref 127), (1, .ref 4)]) dm_X2_copyOf_72 rfl rfl rfl rfl ?_
  refine me2 (pc' := 18) dm_X2_copyOf_75 rfl rfl rfl ?_
  refine me1 (pc' := 19) dm_X2_copyOf_18 rfl rfl rfl rfl ?_
  refine me0 (pc' := 21) (S' := .int (40 : Int32) :: _) dm_X2_copyOf_19 rfl rfl rfl rfl ?_
  refine me_2f (pc' := 24) dm_X2_copyOf_21 rfl (by decide) rfl ?_
  refine me1 (pc' := 25) dm_X2_copyOf_24 rfl rfl rfl rfl ?_
  refine me3 (pc' := 28) dm_X2_copyOf_25 (g_get (v := .ref 128) (le_ (n := 2) (u := 100) (v := 25) (j := 0) hn rfl hv rfl) rfl rfl (Nat.le_of_ble_eq_true rfl)) rfl rfl rfl ?_
  refine me1 (pc' := 29) dm_X2_copyOf_28 rfl rfl rfl rfl ?_
  refine me1 (pc' := 30) dm_X2_copyOf_29 rfl rfl rfl rfl ?_
  refine me3 (pc' := 33) dm_X2_copyOf_30 (g_get (v := .ref 5) (lu (n := 2) (j := 2) hn rfl) rfl rfl (Nat.le_of_ble_eq_true rfl)) rfl rfl rfl ?_
  refine me1 (pc' := 34) dm_X2_copyOf_33 rfl rfl rfl rfl ?_
  refine me3 (pc' := 35) dm_X2_copyOf_34 (g_lald (v := (0 : Int64)) (lu (n := 2) (j := 3) hn rfl) rfl (by decide) rfl (Nat.le_of_ble_eq_true rfl)) rfl rfl rfl ?_
  refine me3 (pc' := 36) dm_X2_copyOf_35 (g_last (le_ (n := 2) (u := 100) (v := 25) (j := 1) hn rfl hv rfl) (se (n := 2) (u := 100) (v := 25) (j := 1) hn rfl hv _) rfl (by decide) (Nat.le_of_ble_eq_true rfl)) rfl rfl rfl ?_
  refine me1 (pc' := 37) dm_X2_copyOf_36 rfl rfl rfl rfl ?_
  refine me3 (pc' := 40) dm_X2_copyOf_37 (g_get (v := .ref 129) (le_ (n := 2) (u := 100) (v := 25) (j := 0) hn rfl hv rfl) rfl rfl (Nat.le_of_ble_eq_true rfl)) rfl rfl rfl ?_
  refine me1 (pc' := 41) dm_X2_copyOf_40 rfl rfl rfl rfl ?_
  refine me1 (pc' := 42) dm_X2_copyOf_41 rfl rfl rfl rfl ?_
  refine me3 (pc' := 45) dm_X2_copyOf_42 (g_get (v := .ref 6) (lu (n := 2) (j := 2) hn rfl) rfl rfl (Nat.le_of_ble_eq_true rfl)) rfl rfl rfl ?_
  refine me1 (pc' := 46) dm_X2_copyOf_45 rfl rfl rfl rfl ?_
  refine me3 (pc' := 47) dm_X2_copyOf_46 (g_aald (v := .null) (lu (n := 2) (j := 4) hn rfl) rfl (by decide) rfl (Nat.le_of_ble_eq_true rfl)) rfl rfl rfl ?_
  refine me3 (pc' := 48) dm_X2_copyOf_47 (g_aastn (le_ (n := 2) (u := 100) (v := 25) (j := 2) hn rfl hv rfl) (se (n := 2) (u := 100) (v := 25) (j := 2) hn rfl hv _) rfl (by decide) (Nat.le_of_ble_eq_true rfl)) rfl rfl rfl ?_
  refine me1 (pc' := 49) dm_X2_copyOf_48 rfl rfl rfl rfl ?_
  refine me3 (pc' := 52) dm_X2_copyOf_49 (g_get (v := .ref 130) (le_ (n := 2) (u := 100) (v := 25) (j := 0) hn rfl hv rfl) rfl rfl (Nat.le_of_ble_eq_true rfl)) rfl rfl rfl ?_
  refine me1 (pc' := 53) dm_X2_copyOf_52 rfl rfl rfl rfl ?_
  refine me1 (pc' := 54) dm_X2_copyOf_53 rfl rfl rfl rfl ?_
  refine me3 (pc' := 57) dm_X2_copyOf_54 (g_get (v := .ref 7) (lu (n := 2) (j := 2) hn rfl) rfl rfl (Nat.le_of_ble_eq_true rfl)) rfl rfl rfl ?_
  refine me1 (pc' := 58) dm_X2_copyOf_57 rfl rfl rfl rfl ?_
  refine me3 (pc' := 59) dm_X2_copyOf_58 (g_lald (v := (0 : Int64)) (lu (n := 2) (j := 5) hn rfl) rfl (by decide) rfl (Nat.le_of_ble_eq_true rfl)) rfl rfl rfl ?_
  refine me3 (pc' := 60) dm_X2_copyOf_59 (g_last (le_ (n := 2) (u := 100) (v := 25) (j := 3) hn rfl hv rfl) (se (n := 2) (u := 100) (v := 25) (j := 3) hn rfl hv _) rfl (by decide) (Nat.le_of_ble_eq_true rfl)) rfl rfl rfl ?_
  refine me1 (pc' := 61) dm_X2_copyOf_60 rfl rfl rfl rfl ?_
  refine me3 (pc' := 64) dm_X2_copyOf_61 (g_get (v := .ref 131) (le_ (n := 2) (u := 100) (v := 25) (j := 0) hn rfl hv rfl) rfl rfl (Nat.le_of_ble_eq_true rfl)) rfl rfl rfl ?_
  refine me1 (pc' := 65) dm_X2_copyOf_64 rfl rfl rfl rfl ?_
  refine me1 (pc' := 66) dm_X2_copyOf_65 rfl rfl rfl rfl ?_
  refine me3 (pc' := 69) dm_X2_copyOf_66 (g_get (v := .ref 8) (lu (n := 2) (j := 2) hn rfl) rfl rfl (Nat.le_of_ble_eq_true rfl)) rfl rfl rfl ?_
  refine me1 (pc' := 70) dm_X2_copyOf_69 rfl rfl rfl rfl ?_
  refine me3 (pc' := 71) dm_X2_copyOf_70 (g_aald (v := .null) (lu (n := 2) (j := 6) hn rfl) rfl (by decide) rfl (Nat.le_of_ble_eq_true rfl)) rfl rfl rfl ?_
  refine me3 (pc' := 72) dm_X2_copyOf_71 (g_aastn (le_ (n := 2) (u := 100) (v := 25) (j := 4) hn rfl hv rfl) (se (n := 2) (u := 100) (v := 25) (j := 4) hn rfl hv _) rfl (by decide) (Nat.le_of_ble_eq_true rfl)) rfl rfl rfl ?_
  refine me1 (pc' := 75) (L' := [(2, .int (3 : Int32)), (0, .ref 127), (1, .ref 4)]) dm_X2_copyOf_72 rfl rfl rfl rfl ?_
  refine me2 (pc' := 18) dm_X2_copyOf_75 rfl rfl rfl ?_
  refine me1 (pc' := 19) dm_X2_copyOf_18 rfl rfl rfl rfl ?_
  refine me0 (pc' := 21) (S' := .int (40 : Int32) :: _) dm_X2_copyOf_19 rfl rfl rfl rfl ?_
  refine me_2f (pc' := 24) dm_X2_copyOf_21 rfl (by decide) rfl ?_
  refine me1 (pc' := 25) dm_X2_copyOf_24 rfl rfl rfl rfl ?_
  refine me3 (pc' := 28) dm_X2_copyOf_25 (g_get (v := .ref 128) (le_ (n := 2) (u := 100) (v := 25) (j := 0) hn rfl hv rfl) rfl rfl (Nat.le_of_ble_eq_true rfl)) rfl rfl rfl ?_
  refine me1 (pc' := 29) dm_X2_copyOf_28 rfl rfl rfl rfl ?_
  refine me1 (pc' := 30) dm_X2_copyOf_29 rfl rfl rfl rfl ?_
  refine me3 (pc' := 33) dm_X2_copyOf_30 (g_get (v := .ref 5) (lu (n := 2) (j := 2) hn rfl) rfl rfl (Nat.le_of_ble_eq_true rfl)) rfl rfl rfl ?_
  refine me1 (pc' := 34) dm_X2_copyOf_33 rfl rfl rfl rfl ?_
  refine me3 (pc' := 35) dm_X2_copyOf_34 (g_lald (v := (0 : Int64)) (lu (n := 2) (j := 3) hn rfl) rfl (by decide) rfl (Nat.le_of_ble_eq_true rfl)) rfl rfl rfl ?_
  refine me3 (pc' := 36) dm_X2_copyOf_35 (g_last (le_ (n := 2) (u := 100) (v := 25) (j := 1) hn rfl hv rfl) (se (n := 2) (u := 100) (v := 25) (j := 1) hn rfl hv _) rfl (by decide) (Nat.le_of_ble_eq_true rfl)) rfl rfl rfl ?_
  refine me1 (pc' := 37) dm_X2_copyOf_36 rfl rfl rfl rfl ?_
  refine me3 (pc' := 40) dm_X2_copyOf_37 (g_get (v := .ref 129) (le_ (n := 2) (u := 100) (v := 25) (j := 0) hn rfl hv rfl) rfl rfl (Nat.le_of_ble_eq_true rfl)) rfl rfl rfl ?_
  refine me1 (pc' := 41) dm_X2_copyOf_40 rfl rfl rfl rfl ?_
  refine me1 (pc' := 42) dm_X2_copyOf_41 rfl rfl rfl rfl ?_
  refine me3 (pc' := 45) dm_X2_copyOf_42 (g_get (v := .ref 6) (lu (n := 2) (j := 2) hn rfl) rfl rfl (Nat.le_of_ble_eq_true rfl)) rfl rfl rfl ?_
  refine me1 (pc' := 46) dm_X2_copyOf_45 rfl rfl rfl rfl ?_
  refine me3 (pc' := 47) dm_X2_copyOf_46 (g_aald (v := .null) (lu (n := 2) (j := 4) hn rfl) rfl (by decide) rfl (Nat.le_of_ble_eq_true rfl)) rfl rfl rfl ?_
  refine me3 (pc' := 48) dm_X2_copyOf_47 (g_aastn (le_ (n := 2) (u := 100) (v := 25) (j := 2) hn rfl hv rfl) (se (n := 2) (u := 100) (v := 25) (j := 2) hn rfl hv _) rfl (by decide) (Nat.le_of_ble_eq_true rfl)) rfl rfl rfl ?_
  refine me1 (pc' := 49) dm_X2_copyOf_48 rfl rfl rfl rfl ?_
  refine me3 (pc' := 52) dm_X2_copyOf_49 (g_get (v := .ref 130) (le_ (n := 2) (u := 100) (v := 25) (j := 0) hn rfl hv rfl) rfl rfl (Nat.le_of_ble_eq_true rfl)) rfl rfl rfl ?_
  refine me1 (pc' := 53) dm_X2_copyOf_52 rfl rfl rfl rfl ?_
  refine me1 (pc' := 54) dm_X2_copyOf_53 rfl rfl rfl rfl ?_
  refine me3 (pc' := 57) dm_X2_copyOf_54 (g_get (v := .ref 7) (lu (n := 2) (j := 2) hn rfl) rfl rfl (Nat.le_of_ble_eq_true rfl)) rfl rfl rfl ?_
  refine me1 (pc' := 58) dm_X2_copyOf_57 rfl rfl rfl rfl ?_
  refine me3 (pc' := 59) dm_X2_copyOf_58 (g_lald (v := (0 : Int64)) (lu (n := 2) (j := 5) hn rfl) rfl (by decide) rfl (Nat.le_of_ble_eq_true rfl)) rfl rfl rfl ?_
  refine me3 (pc' := 60) dm_X2_copyOf_59 (g_last (le_ (n := 2) (u := 100) (v := 25) (j := 3) hn rfl hv rfl) (se (n := 2) (u := 100) (v := 25) (j := 3) hn rfl hv _) rfl (by decide) (Nat.le_of_ble_eq_true rfl)) rfl rfl rfl ?_
  refine me1 (pc' := 61) dm_X2_copyOf_60 rfl rfl rfl rfl ?_
  refine me3 (pc' := 64) dm_X2_copyOf_61 (g_get (v := .ref 131) (le_ (n := 2) (u := 100) (v := 25) (j := 0) hn rfl hv rfl) rfl rfl (Nat.le_of_ble_eq_true rfl)) rfl rfl rfl ?_
  refine me1 (pc' := 65) dm_X2_copyOf_64 rfl rfl rfl rfl ?_
  refine me1 (pc' := 66) dm_X2_copyOf_65 rfl rfl rfl rfl ?_
  refine me3 (pc' := 69) dm_X2_copyOf_66 (g_get (v := .ref 8) (lu (n := 2) (j := 2) hn rfl) rfl rfl (Nat.le_of_ble_eq_true rfl)) rfl rfl rfl ?_
  refine me1 (pc' := 70) dm_X2_copyOf_69 rfl rfl rfl rfl ?_
  refine me3 (pc' := 71) dm_X2_copyOf_70 (g_aald (v := .null) (lu (n := 2) (j := 6) hn rfl) rfl (by decide) rfl (Nat.le_of_ble_eq_true rfl)) rfl rfl rfl ?_
  refine me3 (pc' := 72) dm_X2_copyOf_71 (g_aastn (le_ (n := 2) (u := 100) (v := 25) (j := 4) hn rfl hv rfl) (se (n := 2) (u := 100) (v := 25) (j := 4) hn rfl hv _) rfl (by decide) (Nat.le_of_ble_eq_true rfl)) rfl rfl rfl ?_
  refine me1 (pc' := 75) (L' := [(2, .int (4 : Int32)), (0, .ref 127), (1, .ref 4)]) dm_X2_copyOf_72 rfl rfl rfl rfl ?_
  refine me2 (pc' := 18) dm_X2_copyOf_75 rfl rfl rfl ?_
  refine me1 (pc' := 19) dm_X2_copyOf_18 rfl rfl rfl rfl ?_
  refine me0 (pc' := 21) (S' := .int (40 : Int32) :: _) dm_X2_copyOf_19 rfl rfl rfl rfl ?_
  refine me_2f (pc' := 24) dm_X2_copyOf_21 rfl (by decide) rfl ?_
  refine me1 (pc' := 25) dm_X2_copyOf_24 rfl rfl rfl rfl ?_
  refine me3 (pc' := 28) dm_X2_copyOf_25 (g_get (v := .ref 128) (le_ (n := 2) (u := 100) (v := 25) (j := 0) hn rfl hv rfl) rfl rfl (Nat.le_of_ble_eq_true rfl)) rfl rfl rfl ?_
  refine me1 (pc' := 29) dm_X2_copyOf_28 rfl rfl rfl rfl ?_
  refine me1 (pc' := 30) dm_X2_copyOf_29 rfl rfl rfl rfl ?_
  refine me3 (pc' := 33) dm_X2_copyOf_30 (g_get (v := .ref 5) (lu (n := 2) (j := 2) hn rfl) rfl rfl (Nat.le_of_ble_eq_true rfl)) rfl rfl rfl ?_
  refine me1 (pc' := 34) dm_X2_copyOf_33 rfl rfl rfl rfl ?_
  refine me3 (pc' := 35) dm_X2_copyOf_34 (g_lald (v := (0 : Int64)) (lu (n := 2) (j := 3) hn rfl) rfl (by decide) rfl (Nat.le_of_ble_eq_true rfl)) rfl rfl rfl ?_
  refine me3 (pc' := 36) dm_X2_copyOf_35 (g_last (le_ (n := 2) (u := 100) (v := 25) (j := 1) hn rfl hv rfl) (se (n := 2) (u := 100) (v := 25) (j := 1) hn rfl hv _) rfl (by decide) (Nat.le_of_ble_eq_true rfl)) rfl rfl rfl ?_
  refine me1 (pc' := 37) dm_X2_copyOf_36 rfl rfl rfl rfl ?_
  refine me3 (pc' := 40) dm_X2_copyOf_37 (g_get (v := .ref 129) (le_ (n := 2) (u := 100) (v := 25) (j := 0) hn rfl hv rfl) rfl rfl (Nat.le_of_ble_eq_true rfl)) rfl rfl rfl ?_
  refine me1 (pc' := 41) dm_X2_copyOf_40 rfl rfl rfl rfl ?_
  refine me1 (pc' := 42) dm_X2_copyOf_41 rfl rfl rfl rfl ?_
  refine me3 (pc' := 45) dm_X2_copyOf_42 (g_get (v := .ref 6) (lu (n := 2) (j := 2) hn rfl) rfl rfl (Nat.le_of_ble_eq_true rfl)) rfl rfl rfl ?_
  refine me1 (pc' := 46) dm_X2_copyOf_45 rfl rfl rfl rfl ?_
  refine me3 (pc' := 47) dm_X2_copyOf_46 (g_aald (v := .null) (lu (n := 2) (j := 4) hn rfl) rfl (by decide) rfl (Nat.le_of_ble_eq_true rfl)) rfl rfl rfl ?_
  refine me3 (pc' := 48) dm_X2_copyOf_47 (g_aastn (le_ (n := 2) (u := 100) (v := 25) (j := 2) hn rfl hv rfl) (se (n := 2) (u := 100) (v := 25) (j := 2) hn rfl hv _) rfl (by decide) (Nat.le_of_ble_eq_true rfl)) rfl rfl rfl ?_
  refine me1 (pc' := 49) dm_X2_copyOf_48 rfl rfl rfl rfl ?_
  refine me3 (pc' := 52) dm_X2_copyOf_49 (g_get (v := .ref 130) (le_ (n := 2) (u := 100) (v := 25) (j := 0) hn rfl hv rfl) rfl rfl (Nat.le_of_ble_eq_true rfl)) rfl rfl rfl ?_
  refine me1 (pc' := 53) dm_X2_copyOf_52 rfl rfl rfl rfl ?_
  refine me1 (pc' := 54) dm_X2_copyOf_53 rfl rfl rfl rfl ?_
  refine me3 (pc' := 57) dm_X2_copyOf_54 (g_get (v := .ref 7) (lu (n := 2) (j := 2) hn rfl) rfl rfl (Nat.le_of_ble_eq_true rfl)) rfl rfl rfl ?_
  refine me1 (pc' := 58) dm_X2_copyOf_57 rfl rfl rfl rfl ?_
  refine me3 (pc' := 59) dm_X2_copyOf_58 (g_lald (v := (0 : Int64)) (lu (n := 2) (j := 5) hn rfl) rfl (by decide) rfl (Nat.le_of_ble_eq_true rfl)) rfl rfl rfl ?_
  refine me3 (pc' := 60) dm_X2_copyOf_59 (g_last (le_ (n := 2) (u := 100) (v := 25) (j := 3) hn rfl hv rfl) (se (n := 2) (u := 100) (v := 25) (j := 3) hn rfl hv _) rfl (by decide) (Nat.le_of_ble_eq_true rfl)) rfl rfl rfl ?_
  refine me1 (pc' := 61) dm_X2_copyOf_60 rfl rfl rfl rfl ?_
  refine me3 (pc' := 64) dm_X2_copyOf_61 (g_get (v := .ref 131) (le_ (n := 2) (u := 100) (v := 25) (j := 0) hn rfl hv rfl) rfl rfl (Nat.le_of_ble_eq_true rfl)) rfl rfl rfl ?_
  refine me1 (pc' := 65) dm_X2_copyOf_64 rfl rfl rfl rfl ?_
  refine me1 (pc' := 66) dm_X2_copyOf_65 rfl rfl rfl rfl ?_
  refine me3 (pc' := 69) dm_X2_copyOf_66 (g_get (v := .ref 8) (lu (n := 2) (j := 2) hn rfl) rfl rfl (Nat.le_of_ble_eq_true rfl)) rfl rfl rfl ?_
  refine me1 (pc' := 70) dm_X2_copyOf_69 rfl rfl rfl rfl ?_
  refine me3 (pc' := 71) dm_X2_copyOf_70 (g_aald (v := .null) (lu (n := 2) (j := 6) hn rfl) rfl (by decide) rfl (Nat.le_of_ble_eq_true rfl)) rfl rfl rfl ?_
  refine me3 (pc' := 72) dm_X2_copyOf_71 (g_aastn (le_ (n := 2) (u := 100) (v := 25) (j := 4) hn rfl hv rfl) (se (n := 2) (u := 100) (v := 25) (j := 4) hn rfl hv _) rfl (by decide) (Nat.le_of_ble_eq_true rfl)) rfl rfl rfl ?_
  refine me1 (pc' := 75) (L' := [(2, .int (5 : Int32)), (0, .ref 127), (1, .ref 4)]) dm_X2_copyOf_72 rfl rfl rfl rfl ?_
  refine me2 (pc' := 18) dm_X2_copyOf_75 rfl rfl rfl ?_
  refine me1 (pc' := 19) dm_X2_copyOf_18 rfl rfl rfl rfl ?_
  refine me0 (pc' := 21) (S' := .int (40 : Int32) :: _) dm_X2_copyOf_19 rfl rfl rfl rfl ?_
  refine me_2f (pc' := 24) dm_X2_copyOf_21 rfl (by decide) rfl ?_
  refine me1 (pc' := 25) dm_X2_copyOf_24 rfl rfl rfl rfl ?_
  refine me3 (pc' := 28) dm_X2_copyOf_25 (g_get (v := .ref 128) (le_ (n := 2) (u := 100) (v := 25) (j := 0) hn rfl hv rfl) rfl rfl (Nat.le_of_ble_eq_true rfl)) rfl rfl rfl ?_
  refine me1 (pc' := 29) dm_X2_copyOf_28 rfl rfl rfl rfl ?_
  refine me1 (pc' := 30) dm_X2_copyOf_29 rfl rfl rfl rfl ?_
  refine me3 (pc' := 33) dm_X2_copyOf_30 (g_get (v := .ref 5) (lu (n := 2) (j := 2) hn rfl) rfl rfl (Nat.le_of_ble_eq_true rfl)) rfl rfl rfl ?_
  refine me1 (pc' := 34) dm_X2_copyOf_33 rfl rfl rfl rfl ?_
  refine me3 (pc' := 35) dm_X2_copyOf_34 (g_lald (v := (0 : Int64)) (lu (n := 2) (j := 3) hn rfl) rfl (by decide) rfl (Nat.le_of_ble_eq_true rfl)) rfl rfl rfl ?_
  refine me3 (pc' := 36) dm_X2_copyOf_35 (g_last (le_ (n := 2) (u := 100) (v := 25) (j := 1) hn rfl hv rfl) (se (n := 2) (u := 100) (v := 25) (j := 1) hn rfl hv _) rfl (by decide) (Nat.le_of_ble_eq_true rfl)) rfl rfl rfl ?_
  refine me1 (pc' := 37) dm_X2_copyOf_36 rfl rfl rfl rfl ?_
  refine me3 (pc' := 40) dm_X2_copyOf_37 (g_get (v := .ref 129) (le_ (n := 2) (u := 100) (v := 25) (j := 0) hn rfl hv rfl) rfl rfl (Nat.le_of_ble_eq_true rfl)) rfl rfl rfl ?_
  refine me1 (pc' := 41) dm_X2_copyOf_40 rfl rfl rfl rfl ?_
  refine me1 (pc' := 42) dm_X2_copyOf_41 rfl rfl rfl rfl ?_
  refine me3 (pc' := 45) dm_X2_copyOf_42 (g_get (v := .ref 6) (lu (n := 2) (j := 2) hn rfl) rfl rfl (Nat.le_of_ble_eq_true rfl)) rfl rfl rfl ?_
  refine me1 (pc' := 46) dm_X2_copyOf_45 rfl rfl rfl rfl ?_
  refine me3 (pc' := 47) dm_X2_copyOf_46 (g_aald (v := .null) (lu (n := 2) (j := 4) hn rfl) rfl (by decide) rfl (Nat.le_of_ble_eq_true rfl)) rfl rfl rfl ?_
  refine me3 (pc' := 48) dm_X2_copyOf_47 (g_aastn (le_ (n := 2) (u := 100) (v := 25) (j := 2) hn rfl hv rfl) (se (n := 2) (u := 100) (v := 25) (j := 2) hn rfl hv _) rfl (by decide) (Nat.le_of_ble_eq_true rfl)) rfl rfl rfl ?_
  refine me1 (pc' := 49) dm_X2_copyOf_48 rfl rfl rfl rfl ?_
  refine me3 (pc' := 52) dm_X2_copyOf_49 (g_get (v := .ref 130) (le_ (n := 2) (u := 100) (v := 25) (j := 0) hn rfl hv rfl) rfl rfl (Nat.le_of_ble_eq_true rfl)) rfl rfl rfl ?_
  refine me1 (pc' := 53) dm_X2_copyOf_52 rfl rfl rfl rfl ?_
  refine me1 (pc' := 54) dm_X2_copyOf_53 rfl rfl rfl rfl ?_
  refine me3 (pc' := 57) dm_X2_copyOf_54 (g_get (v := .ref 7) (lu (n := 2) (j := 2) hn rfl) rfl rfl (Nat.le_of_ble_eq_true rfl)) rfl rfl rfl ?_
  refine me1 (pc' := 58) dm_X2_copyOf_57 rfl rfl rfl rfl ?_
  refine me3 (pc' := 59) dm_X2_copyOf_58 (g_lald (v := (0 : Int64)) (lu (n := 2) (j := 5) hn rfl) rfl (by decide) rfl (Nat.le_of_ble_eq_true rfl)) rfl rfl rfl ?_
  refine me3 (pc' := 60) dm_X2_copyOf_59 (g_last (le_ (n := 2) (u := 100) (v := 25) (j := 3) hn rfl hv rfl) (se (n := 2) (u := 100) (v := 25) (j := 3) hn rfl hv _) rfl (by decide) (Nat.le_of_ble_eq_true rfl)) rfl rfl rfl ?_
  refine me1 (pc' := 61) dm_X2_copyOf_60 rfl rfl rfl rfl ?_
  refine me3 (pc' := 64) dm_X2_copyOf_61 (g_get (v := .ref 131) (le_ (n := 2) (u := 100) (v := 25) (j := 0) hn rfl hv rfl) rfl rfl (Nat.le_of_ble_eq_true rfl)) rfl rfl rfl ?_
  refine me1 (pc' := 65) dm_X2_copyOf_64 rfl rfl rfl rfl ?_
  refine me1 (pc' := 66) dm_X2_copyOf_65 rfl rfl rfl rfl ?_
  refine me3 (pc' := 69) dm_X2_copyOf_66 (g_get (v := .ref 8) (lu (n := 2) (j := 2) hn rfl) rfl rfl (Nat.le_of_ble_eq_true rfl)) rfl rfl rfl ?_
  refine me1 (pc' := 70) dm_X2_copyOf_69 rfl rfl rfl rfl ?_
  refine me3 (pc' := 71) dm_X2_copyOf_70 (g_aald (v := .null) (lu (n := 2) (j := 6) hn rfl) rfl (by decide) rfl (Nat.le_of_ble_eq_true rfl)) rfl rfl rfl ?_
  refine me3 (pc' := 72) dm_X2_copyOf_71 (g_aastn (le_ (n := 2) (u := 100) (v := 25) (j := 4) hn rfl hv rfl) (se (n := 2) (u := 100) (v := 25) (j := 4) hn rfl hv _) rfl (by decide) (Nat.le_of_ble_eq_true rfl)) rfl rfl rfl ?_
  refine me1 (pc' := 75) (L' := [(2, .int (6 : Int32)), (0, .ref 127), (1, .ref 4)]) dm_X2_copyOf_72 rfl rfl rfl rfl ?_
  refine me2 (pc' := 18) dm_X2_copyOf_75 rfl rfl rfl ?_
  refine me1 (pc' := 19) dm_X2_copyOf_18 rfl rfl rfl rfl ?_
  refine me0 (pc' := 21) (S' := .int (40 : Int32) :: _) dm_X2_copyOf_19 rfl rfl rfl rfl ?_
  refine me_2f (pc' := 24) dm_X2_copyOf_21 rfl (by decide) rfl ?_
  refine me1 (pc' := 25) dm_X2_copyOf_24 rfl rfl rfl rfl ?_
  refine me3 (pc' := 28) dm_X2_copyOf_25 (g_get (v := .ref 128) (le_ (n := 2) (u := 100) (v := 25) (j := 0) hn rfl hv rfl) rfl rfl (Nat.le_of_ble_eq_true rfl)) rfl rfl rfl ?_
  refine me1 (pc' := 29) dm_X2_copyOf_28 rfl rfl rfl rfl ?_
  refine me1 (pc' := 30) dm_X2_copyOf_29 rfl rfl rfl rfl ?_
  refine me3 (pc' := 33) dm_X2_copyOf_30 (g_get (v := .ref 5) (lu (n := 2) (j := 2) hn rfl) rfl rfl (Nat.le_of_ble_eq_true rfl)) rfl rfl rfl ?_
  refine me1 (pc' := 34) dm_X2_copyOf_33 rfl rfl rfl rfl ?_
  refine me3 (pc' := 35) dm_X2_copyOf_34 (g_lald (v := (0 : Int64)) (lu (n := 2) (j := 3) hn rfl) rfl (by decide) rfl (Nat.le_of_ble_eq_true rfl)) rfl rfl rfl ?_
  refine me3 (pc' := 36) dm_X2_copyOf_35 (g_last (le_ (n := 2) (u := 100) (v := 25) (j := 1) hn rfl hv rfl) (se (n := 2) (u := 100) (v := 25) (j := 1) hn rfl hv _) rfl (by decide) (Nat.le_of_ble_eq_true rfl)) rfl rfl rfl ?_
  refine me1 (pc' := 37) dm_X2_copyOf_36 rfl rfl rfl rfl ?_
  refine me3 (pc' := 40) dm_X2_copyOf_37 (g_get (v := .ref 129) (le_ (n := 2) (u := 100) (v := 25) (j := 0) hn rfl hv rfl) rfl rfl (Nat.le_of_ble_eq_true rfl)) rfl rfl rfl ?_
  refine me1 (pc' := 41) dm_X2_copyOf_40 rfl rfl rfl rfl ?_
  refine me1 (pc' := 42) dm_X2_copyOf_41 rfl rfl rfl rfl ?_
  refine me3 (pc' := 45) dm_X2_copyOf_42 (g_get (v := .ref 6) (lu (n := 2) (j := 2) hn rfl) rfl rfl (Nat.le_of_ble_eq_true rfl)) rfl rfl rfl ?_
  refine me1 (pc' := 46) dm_X2_copyOf_45 rfl rfl rfl rfl ?_
  refine me3 (pc' := 47) dm_X2_copyOf_46 (g_aald (v := .null) (lu (n := 2) (j := 4) hn rfl) rfl (by decide) rfl (Nat.le_of_ble_eq_true rfl)) rfl rfl rfl ?_
  refine me3 (pc' := 48) dm_X2_copyOf_47 (g_aastn (le_ (n := 2) (u := 100) (v := 25) (j := 2) hn rfl hv rfl) (se (n := 2) (u := 100) (v := 25) (j := 2) hn rfl hv _) rfl (by decide) (Nat.le_of_ble_eq_true rfl)) rfl rfl rfl ?_
  refine me1 (pc' := 49) dm_X2_copyOf_48 rfl rfl rfl rfl ?_
  refine me3 (pc' := 52) dm_X2_copyOf_49 (g_get (v := .ref 130) (le_ (n := 2) (u := 100) (v := 25) (j := 0) hn rfl hv rfl) rfl rfl (Nat.le_of_ble_eq_true rfl)) rfl rfl rfl ?_
  refine me1 (pc' := 53) dm_X2_copyOf_52 rfl rfl rfl rfl ?_
  refine me1 (pc' := 54) dm_X2_copyOf_53 rfl rfl rfl rfl ?_
  refine me3 (pc' := 57) dm_X2_copyOf_54 (g_get (v := .ref 7) (lu (n := 2) (j := 2) hn rfl) rfl rfl (Nat.le_of_ble_eq_true rfl)) rfl rfl rfl ?_
  refine me1 (pc' := 58) dm_X2_copyOf_57 rfl rfl rfl rfl ?_
  refine me3 (pc' := 59) dm_X2_copyOf_58 (g_lald (v := (0 : Int64)) (lu (n := 2) (j := 5) hn rfl) rfl (by decide) rfl (Nat.le_of_ble_eq_true rfl)) rfl rfl rfl ?_
  refine me3 (pc' := 60) dm_X2_copyOf_59 (g_last (le_ (n := 2) (u := 100) (v := 25) (j := 3) hn rfl hv rfl) (se (n := 2) (u := 100) (v := 25) (j := 3) hn rfl hv _) rfl (by decide) (Nat.le_of_ble_eq_true rfl)) rfl rfl rfl ?_
  refine me1 (pc' := 61) dm_X2_copyOf_60 rfl rfl rfl rfl ?_
  refine me3 (pc' := 64) dm_X2_copyOf_61 (g_get (v := .ref 131) (le_ (n := 2) (u := 100) (v := 25) (j := 0) hn rfl hv rfl) rfl rfl (Nat.le_of_ble_eq_true rfl)) rfl rfl rfl ?_
  refine me1 (pc' := 65) dm_X2_copyOf_64 rfl rfl rfl rfl ?_
  refine me1 (pc' := 66) dm_X2_copyOf_65 rfl rfl rfl rfl ?_
  refine me3 (pc' := 69) dm_X2_copyOf_66 (g_get (v := .ref 8) (lu (n := 2) (j := 2) hn rfl) rfl rfl (Nat.le_of_ble_eq_true rfl)) rfl rfl rfl ?_
  refine me1 (pc' := 70) dm_X2_copyOf_69 rfl rfl rfl rfl ?_
  refine me3 (pc' := 71) dm_X2_copyOf_70 (g_aald (v := .null) (lu (n := 2) (j := 6) hn rfl) rfl (by decide) rfl (Nat.le_of_ble_eq_true rfl)) rfl rfl rfl ?_
  refine me3 (pc' := 72) dm_X2_copyOf_71 (g_aastn (le_ (n := 2) (u := 100) (v := 25) (j := 4) hn rfl hv rfl) (se (n := 2) (u := 100) (v := 25) (j := 4) hn rfl hv _) rfl (by decide) (Nat.le_of_ble_eq_true rfl)) rfl rfl rfl ?_
  refine me1 (pc' := 75) (L' := [(2, .int (7 : Int32)), (0, .ref 127), (1, .ref 4)]) dm_X2_copyOf_72 rfl rfl rfl rfl ?_
  refine me2 (pc' := 18) dm_X2_copyOf_75 rfl rfl rfl ?_
  refine me1 (pc' := 19) dm_X2_copyOf_18 rfl rfl rfl rfl ?_
  refine me0 (pc' := 21) (S' := .int (40 : Int32) :: _) dm_X2_copyOf_19 rfl rfl rfl rfl ?_
  refine me_2f (pc' := 24) dm_X2_copyOf_21 rfl (by decide) rfl ?_
  refine me1 (pc' := 25) dm_X2_copyOf_24 rfl rfl rfl rfl ?_
  refine me3 (pc' := 28) dm_X2_copyOf_25 (g_get (v := .ref 128) (le_ (n := 2) (u := 100) (v := 25) (j := 0) hn rfl hv rfl) rfl rfl (Nat.le_of_ble_eq_true rfl)) rfl rfl rfl ?_
  refine me1 (pc' := 29) dm_X2_copyOf_28 rfl rfl rfl rfl ?_
  refine me1 (pc' := 30) dm_X2_copyOf_29 rfl rfl rfl rfl ?_
  refine me3 (pc' := 33) dm_X2_copyOf_30 (g_get (v := .ref 5) (lu (n := 2) (j := 2) hn rfl) rfl rfl (Nat.le_of_ble_eq_true rfl)) rfl rfl rfl ?_
  refine me1 (pc' := 34) dm_X2_copyOf_33 rfl rfl rfl rfl ?_
  refine me3 (pc' := 35) dm_X2_copyOf_34 (g_lald (v := (0 : Int64)) (lu (n := 2) (j := 3) hn rfl) rfl (by decide) rfl (Nat.le_of_ble_eq_true rfl)) rfl rfl rfl ?_
  refine me3 (pc' := 36) dm_X2_copyOf_35 (g_last (le_ (n := 2) (u := 100) (v := 25) (j := 1) hn rfl hv rfl) (se (n := 2) (u := 100) (v := 25) (j := 1) hn rfl hv _) rfl (by decide) (Nat.le_of_ble_eq_true rfl)) rfl rfl rfl ?_
  refine me1 (pc' := 37) dm_X2_copyOf_36 rfl rfl rfl rfl ?_
  refine me3 (pc' := 40) dm_X2_copyOf_37 (g_get (v := .ref 129) (le_ (n := 2) (u := 100) (v := 25) (j := 0) hn rfl hv rfl) rfl rfl (Nat.le_of_ble_eq_true rfl)) rfl rfl rfl ?_
  refine me1 (pc' := 41) dm_X2_copyOf_40 rfl rfl rfl rfl ?_
  refine me1 (pc' := 42) dm_X2_copyOf_41 rfl rfl rfl rfl ?_
  refine me3 (pc' := 45) dm_X2_copyOf_42 (g_get (v := .ref 6) (lu (n := 2) (j := 2) hn rfl) rfl rfl (Nat.le_of_ble_eq_true rfl)) rfl rfl rfl ?_
  refine me1 (pc' := 46) dm_X2_copyOf_45 rfl rfl rfl rfl ?_
  refine me3 (pc' := 47) dm_X2_copyOf_46 (g_aald (v := .null) (lu (n := 2) (j := 4) hn rfl) rfl (by decide) rfl (Nat.le_of_ble_eq_true rfl)) rfl rfl rfl ?_
  refine me3 (pc' := 48) dm_X2_copyOf_47 (g_aastn (le_ (n := 2) (u := 100) (v := 25) (j := 2) hn rfl hv rfl) (se (n := 2) (u := 100) (v := 25) (j := 2) hn rfl hv _) rfl (by decide) (Nat.le_of_ble_eq_true rfl)) rfl rfl rfl ?_
  refine me1 (pc' := 49) dm_X2_copyOf_48 rfl rfl rfl rfl ?_
  refine me3 (pc' := 52) dm_X2_copyOf_49 (g_get (v := .ref 130) (le_ (n := 2) (u := 100) (v := 25) (j := 0) hn rfl hv rfl) rfl rfl (Nat.le_of_ble_eq_true rfl)) rfl rfl rfl ?_
  refine me1 (pc' := 53) dm_X2_copyOf_52 rfl rfl rfl rfl ?_
  refine me1 (pc' := 54) dm_X2_copyOf_53 rfl rfl rfl rfl ?_
  refine me3 (pc' := 57) dm_X2_copyOf_54 (g_get (v := .ref 7) (lu (n := 2) (j := 2) hn rfl) rfl rfl (Nat.le_of_ble_eq_true rfl)) rfl rfl rfl ?_
  refine me1 (pc' := 58) dm_X2_copyOf_57 rfl rfl rfl rfl ?_
  refine me3 (pc' := 59) dm_X2_copyOf_58 (g_lald (v := (0 : Int64)) (lu (n := 2) (j := 5) hn rfl) rfl (by decide) rfl (Nat.le_of_ble_eq_true rfl)) rfl rfl rfl ?_
  refine me3 (pc' := 60) dm_X2_copyOf_59 (g_last (le_ (n := 2) (u := 100) (v := 25) (j := 3) hn rfl hv rfl) (se (n := 2) (u := 100) (v := 25) (j := 3) hn rfl hv _) rfl (by decide) (Nat.le_of_ble_eq_true rfl)) rfl rfl rfl ?_
  refine me1 (pc' := 61) dm_X2_copyOf_60 rfl rfl rfl rfl ?_
  refine me3 (pc' := 64) dm_X2_copyOf_61 (g_get (v := .ref 131) (le_ (n := 2) (u := 100) (v := 25) (j := 0) hn rfl hv rfl) rfl rfl (Nat.le_of_ble_eq_true rfl)) rfl rfl rfl ?_
  refine me1 (pc' := 65) dm_X2_copyOf_64 rfl rfl rfl rfl ?_
  refine me1 (pc' := 66) dm_X2_copyOf_65 rfl rfl rfl rfl ?_
  refine me3 (pc' := 69) dm_X2_copyOf_66 (g_get (v := .ref 8) (lu (n := 2) (j := 2) hn rfl) rfl rfl (Nat.le_of_ble_eq_true rfl)) rfl rfl rfl ?_
  refine me1 (pc' := 70) dm_X2_copyOf_69 rfl rfl rfl rfl ?_
  refine me3 (pc' := 71) dm_X2_copyOf_70 (g_aald (v := .null) (lu (n := 2) (j := 6) hn rfl) rfl (by decide) rfl (Nat.le_of_ble_eq_true rfl)) rfl rfl rfl ?_
  refine me3 (pc' := 72) dm_X2_copyOf_71 (g_aastn (le_ (n := 2) (u := 100) (v := 25) (j := 4) hn rfl hv rfl) (se (n := 2) (u := 100) (v := 25) (j := 4) hn rfl hv _) rfl (by decide) (Nat.le_of_ble_eq_true rfl)) rfl rfl rfl ?_
  refine me1 (pc' := 75) (L' := [(2, .int (8 : Int32)), (0, .ref 127), (1, .ref 4)]) dm_X2_copyOf_72 rfl rfl rfl rfl ?_
  refine me2 (pc' := 18) dm_X2_copyOf_75 rfl rfl rfl ?_
  refine me1 (pc' := 19) dm_X2_copyOf_18 rfl rfl rfl rfl ?_
  refine me0 (pc' := 21) (S' := .int (40 : Int32) :: _) dm_X2_copyOf_19 rfl rfl rfl rfl ?_
  refine me_2f (pc' := 24) dm_X2_copyOf_21 rfl (by decide) rfl ?_
  refine me1 (pc' := 25) dm_X2_copyOf_24 rfl rfl rfl rfl ?_
  refine me3 (pc' := 28) dm_X2_copyOf_25 (g_get (v := .ref 128) (le_ (n := 2) (u := 100) (v := 25) (j := 0) hn rfl hv rfl) rfl rfl (Nat.le_of_ble_eq_true rfl)) rfl rfl rfl ?_
  refine me1 (pc' := 29) dm_X2_copyOf_28 rfl rfl rfl rfl ?_
  refine me1 (pc' := 30) dm_X2_copyOf_29 rfl rfl rfl rfl ?_
  refine me3 (pc' := 33) dm_X2_copyOf_30 (g_get (v := .ref 5) (lu (n := 2) (j := 2) hn rfl) rfl rfl (Nat.le_of_ble_eq_true rfl)) rfl rfl rfl ?_
  refine me1 (pc' := 34) dm_X2_copyOf_33 rfl rfl rfl rfl ?_
  refine me3 (pc' := 35) dm_X2_copyOf_34 (g_lald (v := (0 : Int64)) (lu (n := 2) (j := 3) hn rfl) rfl (by decide) rfl (Nat.le_of_ble_eq_true rfl)) rfl rfl rfl ?_
  refine me3 (pc' := 36) dm_X2_copyOf_35 (g_last (le_ (n := 2) (u := 100) (v := 25) (j := 1) hn rfl hv rfl) (se (n := 2) (u := 100) (v := 25) (j := 1) hn rfl hv _) rfl (by decide) (Nat.le_of_ble_eq_true rfl)) rfl rfl rfl ?_
  refine me1 (pc' := 37) dm_X2_copyOf_36 rfl rfl rfl rfl ?_
  refine me3 (pc' := 40) dm_X2_copyOf_37 (g_get (v := .ref 129) (le_ (n := 2) (u := 100) (v := 25) (j := 0) hn rfl hv rfl) rfl rfl (Nat.le_of_ble_eq_true rfl)) rfl rfl rfl ?_
  refine me1 (pc' := 41) dm_X2_copyOf_40 rfl rfl rfl rfl ?_
  refine me1 (pc' := 42) dm_X2_copyOf_41 rfl rfl rfl rfl ?_
  refine me3 (pc' := 45) dm_X2_copyOf_42 (g_get (v := .ref 6) (lu (n := 2) (j := 2) hn rfl) rfl rfl (Nat.le_of_ble_eq_true rfl)) rfl rfl rfl ?_
  refine me1 (pc' := 46) dm_X2_copyOf_45 rfl rfl rfl rfl ?_
  refine me3 (pc' := 47) dm_X2_copyOf_46 (g_aald (v := .null) (lu (n := 2) (j := 4) hn rfl) rfl (by decide) rfl (Nat.le_of_ble_eq_true rfl)) rfl rfl rfl ?_
  refine me3 (pc' := 48) dm_X2_copyOf_47 (g_aastn (le_ (n := 2) (u := 100) (v := 25) (j := 2) hn rfl hv rfl) (se (n := 2) (u := 100) (v := 25) (j := 2) hn rfl hv _) rfl (by decide) (Nat.le_of_ble_eq_true rfl)) rfl rfl rfl ?_
  refine me1 (pc' := 49) dm_X2_copyOf_48 rfl rfl rfl rfl ?_
  refine me3 (pc' := 52) dm_X2_copyOf_49 (g_get (v := .ref 130) (le_ (n := 2) (u := 100) (v := 25) (j := 0) hn rfl hv rfl) rfl rfl (Nat.le_of_ble_eq_true rfl)) rfl rfl rfl ?_
  refine me1 (pc' := 53) dm_X2_copyOf_52 rfl rfl rfl rfl ?_
  refine me1 (pc' := 54) dm_X2_copyOf_53 rfl rfl rfl rfl ?_
  refine me3 (pc' := 57) dm_X2_copyOf_54 (g_get (v := .ref 7) (lu (n := 2) (j := 2) hn rfl) rfl rfl (Nat.le_of_ble_eq_true rfl)) rfl rfl rfl ?_
  refine me1 (pc' := 58) dm_X2_copyOf_57 rfl rfl rfl rfl ?_
  refine me3 (pc' := 59) dm_X2_copyOf_58 (g_lald (v := (0 : Int64)) (lu (n := 2) (j := 5) hn rfl) rfl (by decide) rfl (Nat.le_of_ble_eq_true rfl)) rfl rfl rfl ?_
  refine me3 (pc' := 60) dm_X2_copyOf_59 (g_last (le_ (n := 2) (u := 100) (v := 25) (j := 3) hn rfl hv rfl) (se (n := 2) (u := 100) (v := 25) (j := 3) hn rfl hv _) rfl (by decide) (Nat.le_of_ble_eq_true rfl)) rfl rfl rfl ?_
  refine me1 (pc' := 61) dm_X2_copyOf_60 rfl rfl rfl rfl ?_
  refine me3 (pc' := 64) dm_X2_copyOf_61 (g_get (v := .ref 131) (le_ (n := 2) (u := 100) (v := 25) (j := 0) hn rfl hv rfl) rfl rfl (Nat.le_of_ble_eq_true rfl)) rfl rfl rfl ?_
  refine me1 (pc' := 65) dm_X2_copyOf_64 rfl rfl rfl rfl ?_
  refine me1 (pc' := 66) dm_X2_copyOf_65 rfl rfl rfl rfl ?_
  refine me3 (pc' := 69) dm_X2_copyOf_66 (g_get (v := .ref 8) (lu (n := 2) (j := 2) hn rfl) rfl rfl (Nat.le_of_ble_eq_true rfl)) rfl rfl rfl ?_
  refine me1 (pc' := 70) dm_X2_copyOf_69 rfl rfl rfl rfl ?_
  refine me3 (pc' := 71) dm_X2_copyOf_70 (g_aald (v := .null) (lu (n := 2) (j := 6) hn rfl) rfl (by decide) rfl (Nat.le_of_ble_eq_true rfl)) rfl rfl rfl ?_
  refine me3 (pc' := 72) dm_X2_copyOf_71 (g_aastn (le_ (n := 2) (u := 100) (v := 25) (j := 4) hn rfl hv rfl) (se (n := 2) (u := 100) (v := 25) (j := 4) hn rfl hv _) rfl (by decide) (Nat.le_of_ble_eq_true rfl)) rfl rfl rfl ?_
  refine me1 (pc' := 75) (L' := [(2, .int (9 : Int32)), (0, .ref 127), (1, .ref 4)]) dm_X2_copyOf_72 rfl rfl rfl rfl ?_
  refine me2 (pc' := 18) dm_X2_copyOf_75 rfl rfl rfl ?_
  refine me1 (pc' := 19) dm_X2_copyOf_18 rfl rfl rfl rfl ?_
  refine me0 (pc' := 21) (S' := .int (40 : Int32) :: _) dm_X2_copyOf_19 rfl rfl rfl rfl ?_
  refine me_2f (pc' := 24) dm_X2_copyOf_21 rfl (by decide) rfl ?_
  refine me1 (pc' := 25) dm_X2_copyOf_24 rfl rfl rfl rfl ?_
  refine me3 (pc' := 28) dm_X2_copyOf_25 (g_get (v := .ref 128) (le_ (n := 2) (u := 100) (v := 25) (j := 0) hn rfl hv rfl) rfl rfl (Nat.le_of_ble_eq_true rfl)) rfl rfl rfl ?_
  refine me1 (pc' := 29) dm_X2_copyOf_28 rfl rfl rfl rfl ?_
  refine me1 (pc' := 30) dm_X2_copyOf_29 rfl rfl rfl rfl ?_
  refine me3 (pc' := 33) dm_X2_copyOf_30 (g_get (v := .ref 5) (lu (n := 2) (j := 2) hn rfl) rfl rfl (Nat.le_of_ble_eq_true rfl)) rfl rfl rfl ?_
  refine me1 (pc' := 34) dm_X2_copyOf_33 rfl rfl rfl rfl ?_
  refine me3 (pc' := 35) dm_X2_copyOf_34 (g_lald (v := (0 : Int64)) (lu (n := 2) (j := 3) hn rfl) rfl (by decide) rfl (Nat.le_of_ble_eq_true rfl)) rfl rfl rfl ?_
  refine me3 (pc' := 36) dm_X2_copyOf_35 (g_last (le_ (n := 2) (u := 100) (v := 25) (j := 1) hn rfl hv rfl) (se (n := 2) (u := 100) (v := 25) (j := 1) hn rfl hv _) rfl (by decide) (Nat.le_of_ble_eq_true rfl)) rfl rfl rfl ?_
  refine me1 (pc' := 37) dm_X2_copyOf_36 rfl rfl rfl rfl ?_
  refine me3 (pc' := 40) dm_X2_copyOf_37 (g_get (v := .ref 129) (le_ (n := 2) (u := 100) (v := 25) (j := 0) hn rfl hv rfl) rfl rfl (Nat.le_of_ble_eq_true rfl)) rfl rfl rfl ?_
  refine me1 (pc' := 41) dm_X2_copyOf_40 rfl rfl rfl rfl ?_
  refine me1 (pc' := 42) dm_X2_copyOf_41 rfl rfl rfl rfl ?_
  refine me3 (pc' := 45) dm_X2_copyOf_42 (g_get (v := .ref 6) (lu (n := 2) (j := 2) hn rfl) rfl rfl (Nat.le_of_ble_eq_true rfl)) rfl rfl rfl ?_
  refine me1 (pc' := 46) dm_X2_copyOf_45 rfl rfl rfl rfl ?_
  refine me3 (pc' := 47) dm_X2_copyOf_46 (g_aald (v := .null) (lu (n := 2) (j := 4) hn rfl) rfl (by decide) rfl (Nat.le_of_ble_eq_true rfl)) rfl rfl rfl ?_
  refine me3 (pc' := 48) dm_X2_copyOf_47 (g_aastn (le_ (n := 2) (u := 100) (v := 25) (j := 2) hn rfl hv rfl) (se (n := 2) (u := 100) (v := 25) (j := 2) hn rfl hv _) rfl (by decide) (Nat.le_of_ble_eq_true rfl)) rfl rfl rfl ?_
  refine me1 (pc' := 49) dm_X2_copyOf_48 rfl rfl rfl rfl ?_
  refine me3 (pc' := 52) dm_X2_copyOf_49 (g_get (v := .ref 130) (le_ (n := 2) (u := 100) (v := 25) (j := 0) hn rfl hv rfl) rfl rfl (Nat.le_of_ble_eq_true rfl)) rfl rfl rfl ?_
  refine me1 (pc' := 53) dm_X2_copyOf_52 rfl rfl rfl rfl ?_
  refine me1 (pc' := 54) dm_X2_copyOf_53 rfl rfl rfl rfl ?_
  refine me3 (pc' := 57) dm_X2_copyOf_54 (g_get (v := .ref 7) (lu (n := 2) (j := 2) hn rfl) rfl rfl (Nat.le_of_ble_eq_true rfl)) rfl rfl rfl ?_
  refine me1 (pc' := 58) dm_X2_copyOf_57 rfl rfl rfl rfl ?_
  refine me3 (pc' := 59) dm_X2_copyOf_58 (g_lald (v := (0 : Int64)) (lu (n := 2) (j := 5) hn rfl) rfl (by decide) rfl (Nat.le_of_ble_eq_true rfl)) rfl rfl rfl ?_
  refine me3 (pc' := 60) dm_X2_copyOf_59 (g_last (le_ (n := 2) (u := 100) (v := 25) (j := 3) hn rfl hv rfl) (se (n := 2) (u := 100) (v := 25) (j := 3) hn rfl hv _) rfl (by decide) (Nat.le_of_ble_eq_true rfl)) rfl rfl rfl ?_
  refine me1 (pc' := 61) dm_X2_copyOf_60 rfl rfl rfl rfl ?_
  refine me3 (pc' := 64) dm_X2_copyOf_61 (g_get (v := .ref 131) (le_ (n := 2) (u := 100) (v := 25) (j := 0) hn rfl hv rfl) rfl rfl (Nat.le_of_ble_eq_true rfl)) rfl rfl rfl ?_
  refine me1 (pc' := 65) dm_X2_copyOf_64 rfl rfl rfl rfl ?_
  refine me1 (pc' := 66) dm_X2_copyOf_65 rfl rfl rfl rfl ?_
  refine me3 (pc' := 69) dm_X2_copyOf_66 (g_get (v := .ref 8) (lu (n := 2) (j := 2) hn rfl) rfl rfl (Nat.le_of_ble_eq_true rfl)) rfl rfl rfl ?_
  refine me1 (pc' := 70) dm_X2_copyOf_69 rfl rfl rfl rfl ?_
  refine me3 (pc' := 71) dm_X2_copyOf_70 (g_aald (v := .null) (lu (n := 2) (j := 6) hn rfl) rfl (by decide) rfl (Nat.le_of_ble_eq_true rfl)) rfl rfl rfl ?_
  refine me3 (pc' := 72) dm_X2_copyOf_71 (g_aastn (le_ (n := 2) (u := 100) (v := 25) (j := 4) hn rfl hv rfl) (se (n := 2) (u := 100) (v := 25) (j := 4) hn rfl hv _) rfl (by decide) (Nat.le_of_ble_eq_true rfl)) rfl rfl rfl ?_
  refine me1 (pc' := 75) (L' := [(2, .int (10 : Int32)), (0, .ref 127), (1, .ref 4)]) dm_X2_copyOf_72 rfl rfl rfl rfl ?_
  refine me2 (pc' := 18) dm_X2_copyOf_75 rfl rfl rfl ?_
  refine me1 (pc' := 19) dm_X2_copyOf_18 rfl rfl rfl rfl ?_
  refine me0 (pc' := 21) (S' := .int (40 : Int32) :: _) dm_X2_copyOf_19 rfl rfl rfl rfl ?_
  refine me_2f (pc' := 24) dm_X2_copyOf_21 rfl (by decide) rfl ?_
  refine me1 (pc' := 25) dm_X2_copyOf_24 rfl rfl rfl rfl ?_
  refine me3 (pc' := 28) dm_X2_copyOf_25 (g_get (v := .ref 128) (le_ (n := 2) (u := 100) (v := 25) (j := 0) hn rfl hv rfl) rfl rfl (Nat.le_of_ble_eq_true rfl)) rfl rfl rfl ?_
  refine me1 (pc' := 29) dm_X2_copyOf_28 rfl rfl rfl rfl ?_
  refine me1 (pc' := 30) dm_X2_copyOf_29 rfl rfl rfl rfl ?_
  refine me3 (pc' := 33) dm_X2_copyOf_30 (g_get (v := .ref 5) (lu (n := 2) (j := 2) hn rfl) rfl rfl (Nat.le_of_ble_eq_true rfl)) rfl rfl rfl ?_
  refine me1 (pc' := 34) dm_X2_copyOf_33 rfl rfl rfl rfl ?_
  refine me3 (pc' := 35) dm_X2_copyOf_34 (g_lald (v := (0 : Int64)) (lu (n := 2) (j := 3) hn rfl) rfl (by decide) rfl (Nat.le_of_ble_eq_true rfl)) rfl rfl rfl ?_
  refine me3 (pc' := 36) dm_X2_copyOf_35 (g_last (le_ (n := 2) (u := 100) (v := 25) (j := 1) hn rfl hv rfl) (se (n := 2) (u := 100) (v := 25) (j := 1) hn rfl hv _) rfl (by decide) (Nat.le_of_ble_eq_true rfl)) rfl rfl rfl ?_
  refine me1 (pc' := 37) dm_X2_copyOf_36 rfl rfl rfl rfl ?_
  refine me3 (pc' := 40) dm_X2_copyOf_37 (g_get (v := .ref 129) (le_ (n := 2) (u := 100) (v := 25) (j := 0) hn rfl hv rfl) rfl rfl (Nat.le_of_ble_eq_true rfl)) rfl rfl rfl ?_
  refine me1 (pc' := 41) dm_X2_copyOf_40 rfl rfl rfl rfl ?_
  refine me1 (pc' := 42) dm_X2_copyOf_41 rfl rfl rfl rfl ?_
  refine me3 (pc' := 45) dm_X2_copyOf_42 (g_get (v := .ref 6) (lu (n := 2) (j := 2) hn rfl) rfl rfl (Nat.le_of_ble_eq_true rfl)) rfl rfl rfl ?_
  refine me1 (pc' := 46) dm_X2_copyOf_45 rfl rfl rfl rfl ?_
  refine me3 (pc' := 47) dm_X2_copyOf_46 (g_aald (v := .null) (lu (n := 2) (j := 4) hn rfl) rfl (by decide) rfl (Nat.le_of_ble_eq_true rfl)) rfl rfl rfl ?_
  refine me3 (pc' := 48) dm_X2_copyOf_47 (g_aastn (le_ (n := 2) (u := 100) (v := 25) (j := 2) hn rfl hv rfl) (se (n := 2) (u := 100) (v := 25) (j := 2) hn rfl hv _) rfl (by decide) (Nat.le_of_ble_eq_true rfl)) rfl rfl rfl ?_
  refine me1 (pc' := 49) dm_X2_copyOf_48 rfl rfl rfl rfl ?_
  refine me3 (pc' := 52) dm_X2_copyOf_49 (g_get (v := .ref 130) (le_ (n := 2) (u := 100) (v := 25) (j := 0) hn rfl hv rfl) rfl rfl (Nat.le_of_ble_eq_true rfl)) rfl rfl rfl ?_
  refine me1 (pc' := 53) dm_X2_copyOf_52 rfl rfl rfl rfl ?_
  refine me1 (pc' := 54) dm_X2_copyOf_53 rfl rfl rfl rfl ?_
  refine me3 (pc' := 57) dm_X2_copyOf_54 (g_get (v := .ref 7) (lu (n := 2) (j := 2) hn rfl) rfl rfl (Nat.le_of_ble_eq_true rfl)) rfl rfl rfl ?_
  refine me1 (pc' := 58) dm_X2_copyOf_57 rfl rfl rfl rfl ?_
  refine me3 (pc' := 59) dm_X2_copyOf_58 (g_lald (v := (0 : Int64)) (lu (n := 2) (j := 5) hn rfl) rfl (by decide) rfl (Nat.le_of_ble_eq_true rfl)) rfl rfl rfl ?_
  refine me3 (pc' := 60) dm_X2_copyOf_59 (g_last (le_ (n := 2) (u := 100) (v := 25) (j := 3) hn rfl hv rfl) (se (n := 2) (u := 100) (v := 25) (j := 3) hn rfl hv _) rfl (by decide) (Nat.le_of_ble_eq_true rfl)) rfl rfl rfl ?_
  refine me1 (pc' := 61) dm_X2_copyOf_60 rfl rfl rfl rfl ?_
  refine me3 (pc' := 64) dm_X2_copyOf_61 (g_get (v := .ref 131) (le_ (n := 2) (u := 100) (v := 25) (j := 0) hn rfl hv rfl) rfl rfl (Nat.le_of_ble_eq_true rfl)) rfl rfl rfl ?_
  refine me1 (pc' := 65) dm_X2_copyOf_64 rfl rfl rfl rfl ?_
  refine me1 (pc' := 66) dm_X2_copyOf_65 rfl rfl rfl rfl ?_
  refine me3 (pc' := 69) dm_X2_copyOf_66 (g_get (v := .ref 8) (lu (n := 2) (j := 2) hn rfl) rfl rfl (Nat.le_of_ble_eq_true rfl)) rfl rfl rfl ?_
  refine me1 (pc' := 70) dm_X2_copyOf_69 rfl rfl rfl rfl ?_
  refine me3 (pc' := 71) dm_X2_copyOf_70 (g_aald (v := .null) (lu (n := 2) (j := 6) hn rfl) rfl (by decide) rfl (Nat.le_of_ble_eq_true rfl)) rfl rfl rfl ?_
  refine me3 (pc' := 72) dm_X2_copyOf_71 (g_aastn (le_ (n := 2) (u := 100) (v := 25) (j := 4) hn rfl hv rfl) (se (n := 2) (u := 100) (v := 25) (j := 4) hn rfl hv _) rfl (by decide) (Nat.le_of_ble_eq_true rfl)) rfl rfl rfl ?_
  refine me1 (pc' := 75) (L' := [(2, .int (11 : Int32)), (0, .ref 127), (1, .ref 4)]) dm_X2_copyOf_72 rfl rfl rfl rfl ?_
  refine me2 (pc' := 18) dm_X2_copyOf_75 rfl rfl rfl ?_
  refine me1 (pc' := 19) dm_X2_copyOf_18 rfl rfl rfl rfl ?_
  refine me0 (pc' := 21) (S' := .int (40 : Int32) :: _) dm_X2_copyOf_19 rfl rfl rfl rfl ?_
  refine me_2f (pc' := 24) dm_X2_copyOf_21 rfl (by decide) rfl ?_
  refine me1 (pc' := 25) dm_X2_copyOf_24 rfl rfl rfl rfl ?_
  refine me3 (pc' := 28) dm_X2_copyOf_25 (g_get (v := .ref 128) (le_ (n := 2) (u := 100) (v := 25) (j := 0) hn rfl hv rfl) rfl rfl (Nat.le_of_ble_eq_true rfl)) rfl rfl rfl ?_
  refine me1 (pc' := 29) dm_X2_copyOf_28 rfl rfl rfl rfl ?_
  refine me1 (pc' := 30) dm_X2_copyOf_29 rfl rfl rfl rfl ?_
  refine me3 (pc' := 33) dm_X2_copyOf_30 (g_get (v := .ref 5) (lu (n := 2) (j := 2) hn rfl) rfl rfl (Nat.le_of_ble_eq_true rfl)) rfl rfl rfl ?_
  refine me1 (pc' := 34) dm_X2_copyOf_33 rfl rfl rfl rfl ?_
  refine me3 (pc' := 35) dm_X2_copyOf_34 (g_lald (v := (0 : Int64)) (lu (n := 2) (j := 3) hn rfl) rfl (by decide) rfl (Nat.le_of_ble_eq_true rfl)) rfl rfl rfl ?_
  refine me3 (pc' := 36) dm_X2_copyOf_35 (g_last (le_ (n := 2) (u := 100) (v := 25) (j := 1) hn rfl hv rfl) (se (n := 2) (u := 100) (v := 25) (j := 1) hn rfl hv _) rfl (by decide) (Nat.le_of_ble_eq_true rfl)) rfl rfl rfl ?_
  refine me1 (pc' := 37) dm_X2_copyOf_36 rfl rfl rfl rfl ?_
  refine me3 (pc' := 40) dm_X2_copyOf_37 (g_get (v := .ref 129) (le_ (n := 2) (u := 100) (v := 25) (j := 0) hn rfl hv rfl) rfl rfl (Nat.le_of_ble_eq_true rfl)) rfl rfl rfl ?_
  refine me1 (pc' := 41) dm_X2_copyOf_40 rfl rfl rfl rfl ?_
  refine me1 (pc' := 42) dm_X2_copyOf_41 rfl rfl rfl rfl ?_
  refine me3 (pc' := 45) dm_X2_copyOf_42 (g_get (v := .ref 6) (lu (n := 2) (j := 2) hn rfl) rfl rfl (Nat.le_of_ble_eq_true rfl)) rfl rfl rfl ?_
  refine me1 (pc' := 46) dm_X2_copyOf_45 rfl rfl rfl rfl ?_
  refine me3 (pc' := 47) dm_X2_copyOf_46 (g_aald (v := .null) (lu (n := 2) (j := 4) hn rfl) rfl (by decide) rfl (Nat.le_of_ble_eq_true rfl)) rfl rfl rfl ?_
  refine me3 (pc' := 48) dm_X2_copyOf_47 (g_aastn (le_ (n := 2) (u := 100) (v := 25) (j := 2) hn rfl hv rfl) (se (n := 2) (u := 100) (v := 25) (j := 2) hn rfl hv _) rfl (by decide) (Nat.le_of_ble_eq_true rfl)) rfl rfl rfl ?_
  refine me1 (pc' := 49) dm_X2_copyOf_48 rfl rfl rfl rfl ?_
  refine me3 (pc' := 52) dm_X2_copyOf_49 (g_get (v := .ref 130) (le_ (n := 2) (u := 100) (v := 25) (j := 0) hn rfl hv rfl) rfl rfl (Nat.le_of_ble_eq_true rfl)) rfl rfl rfl ?_
  refine me1 (pc' := 53) dm_X2_copyOf_52 rfl rfl rfl rfl ?_
  refine me1 (pc' := 54) dm_X2_copyOf_53 rfl rfl rfl rfl ?_
  refine me3 (pc' := 57) dm_X2_copyOf_54 (g_get (v := .ref 7) (lu (n := 2) (j := 2) hn rfl) rfl rfl (Nat.le_of_ble_eq_true rfl)) rfl rfl rfl ?_
  refine me1 (pc' := 58) dm_X2_copyOf_57 rfl rfl rfl rfl ?_
  refine me3 (pc' := 59) dm_X2_copyOf_58 (g_lald (v := (0 : Int64)) (lu (n := 2) (j := 5) hn rfl) rfl (by decide) rfl (Nat.le_of_ble_eq_true rfl)) rfl rfl rfl ?_
  refine me3 (pc' := 60) dm_X2_copyOf_59 (g_last (le_ (n := 2) (u := 100) (v := 25) (j := 3) hn rfl hv rfl) (se (n := 2) (u := 100) (v := 25) (j := 3) hn rfl hv _) rfl (by decide) (Nat.le_of_ble_eq_true rfl)) rfl rfl rfl ?_
  refine me1 (pc' := 61) dm_X2_copyOf_60 rfl rfl rfl rfl ?_
  refine me3 (pc' := 64) dm_X2_copyOf_61 (g_get (v := .ref 131) (le_ (n := 2) (u := 100) (v := 25) (j := 0) hn rfl hv rfl) rfl rfl (Nat.le_of_ble_eq_true rfl)) rfl rfl rfl ?_
  refine me1 (pc' := 65) dm_X2_copyOf_64 rfl rfl rfl rfl ?_
  refine me1 (pc' := 66) dm_X2_copyOf_65 rfl rfl rfl rfl ?_
  refine me3 (pc' := 69) dm_X2_copyOf_66 (g_get (v := .ref 8) (lu (n := 2) (j := 2) hn rfl) rfl rfl (Nat.le_of_ble_eq_true rfl)) rfl rfl rfl ?_
  refine me1 (pc' := 70) dm_X2_copyOf_69 rfl rfl rfl rfl ?_
  refine me3 (pc' := 71) dm_X2_copyOf_70 (g_aald (v := .null) (lu (n := 2) (j := 6) hn rfl) rfl (by decide) rfl (Nat.le_of_ble_eq_true rfl)) rfl rfl rfl ?_
  refine me3 (pc' := 72) dm_X2_copyOf_71 (g_aastn (le_ (n := 2) (u := 100) (v := 25) (j := 4) hn rfl hv rfl) (se (n := 2) (u := 100) (v := 25) (j := 4) hn rfl hv _) rfl (by decide) (Nat.le_of_ble_eq_true rfl)) rfl rfl rfl ?_
  refine me1 (pc' := 75) (L' := [(2, .int (12 : Int32)), (0, .ref 127), (1, .ref 4)]) dm_X2_copyOf_72 rfl rfl rfl rfl ?_
  refine me2 (pc' := 18) dm_X2_copyOf_75 rfl rfl rfl ?_
  refine me1 (pc' := 19) dm_X2_copyOf_18 rfl rfl rfl rfl ?_
  refine me0 (pc' := 21) (S' := .int (40 : Int32) :: _) dm_X2_copyOf_19 rfl rfl rfl rfl ?_
  refine me_2f (pc' := 24) dm_X2_copyOf_21 rfl (by decide) rfl ?_
  refine me1 (pc' := 25) dm_X2_copyOf_24 rfl rfl rfl rfl ?_
  refine me3 (pc' := 28) dm_X2_copyOf_25 (g_get (v := .ref 128) (le_ (n := 2) (u := 100) (v := 25) (j := 0) hn rfl hv rfl) rfl rfl (Nat.le_of_ble_eq_true rfl)) rfl rfl rfl ?_
  refine me1 (pc' := 29) dm_X2_copyOf_28 rfl rfl rfl rfl ?_
  refine me1 (pc' := 30) dm_X2_copyOf_29 rfl rfl rfl rfl ?_
  refine me3 (pc' := 33) dm_X2_copyOf_30 (g_get (v := .ref 5) (lu (n := 2) (j := 2) hn rfl) rfl rfl (Nat.le_of_ble_eq_true rfl)) rfl rfl rfl ?_
  refine me1 (pc' := 34) dm_X2_copyOf_33 rfl rfl rfl rfl ?_
  refine me3 (pc' := 35) dm_X2_copyOf_34 (g_lald (v := (0 : Int64)) (lu (n := 2) (j := 3) hn rfl) rfl (by decide) rfl (Nat.le_of_ble_eq_true rfl)) rfl rfl rfl ?_
  refine me3 (pc' := 36) dm_X2_copyOf_35 (g_last (le_ (n := 2) (u := 100) (v := 25) (j := 1) hn rfl hv rfl) (se (n := 2) (u := 100) (v := 25) (j := 1) hn rfl hv _) rfl (by decide) (Nat.le_of_ble_eq_true rfl)) rfl rfl rfl ?_
  refine me1 (pc' := 37) dm_X2_copyOf_36 rfl rfl rfl rfl ?_
  refine me3 (pc' := 40) dm_X2_copyOf_37 (g_get (v := .ref 129) (le_ (n := 2) (u := 100) (v := 25) (j := 0) hn rfl hv rfl) rfl rfl (Nat.le_of_ble_eq_true rfl)) rfl rfl rfl ?_
  refine me1 (pc' := 41) dm_X2_copyOf_40 rfl rfl rfl rfl ?_
  refine me1 (pc' := 42) dm_X2_copyOf_41 rfl rfl rfl rfl ?_
  refine me3 (pc' := 45) dm_X2_copyOf_42 (g_get (v := .ref 6) (lu (n := 2) (j := 2) hn rfl) rfl rfl (Nat.le_of_ble_eq_true rfl)) rfl rfl rfl ?_
  refine me1 (pc' := 46) dm_X2_copyOf_45 rfl rfl rfl rfl ?_
  refine me3 (pc' := 47) dm_X2_copyOf_46 (g_aald (v := .null) (lu (n := 2) (j := 4) hn rfl) rfl (by decide) rfl (Nat.le_of_ble_eq_true rfl)) rfl rfl rfl ?_
  refine me3 (pc' := 48) dm_X2_copyOf_47 (g_aastn (le_ (n := 2) (u := 100) (v := 25) (j := 2) hn rfl hv rfl) (se (n := 2) (u := 100) (v := 25) (j := 2) hn rfl hv _) rfl (by decide) (Nat.le_of_ble_eq_true rfl)) rfl rfl rfl ?_
  refine me1 (pc' := 49) dm_X2_copyOf_48 rfl rfl rfl rfl ?_
  refine me3 (pc' := 52) dm_X2_copyOf_49 (g_get (v := .ref 130) (le_ (n := 2) (u := 100) (v := 25) (j := 0) hn rfl hv rfl) rfl rfl (Nat.le_of_ble_eq_true rfl)) rfl rfl rfl ?_
  refine me1 (pc' := 53) dm_X2_copyOf_52 rfl rfl rfl rfl ?_
  refine me1 (pc' := 54) dm_X2_copyOf_53 rfl rfl rfl rfl ?_
  refine me3 (pc' := 57) dm_X2_copyOf_54 (g_get (v := .ref 7) (lu (n := 2) (j := 2) hn rfl) rfl rfl (Nat.le_of_ble_eq_true rfl)) rfl rfl rfl ?_
  refine me1 (pc' := 58) dm_X2_copyOf_57 rfl rfl rfl rfl ?_
  refine me3 (pc' := 59) dm_X2_copyOf_58 (g_lald (v := (0 : Int64)) (lu (n := 2) (j := 5) hn rfl) rfl (by decide) rfl (Nat.le_of_ble_eq_true rfl)) rfl rfl rfl ?_
  refine me3 (pc' := 60) dm_X2_copyOf_59 (g_last (le_ (n := 2) (u := 100) (v := 25) (j := 3) hn rfl hv rfl) (se (n := 2) (u := 100) (v := 25) (j := 3) hn rfl hv _) rfl (by decide) (Nat.le_of_ble_eq_true rfl)) rfl rfl rfl ?_
  refine me1 (pc' := 61) dm_X2_copyOf_60 rfl rfl rfl rfl ?_
  refine me3 (pc' := 64) dm_X2_copyOf_61 (g_get (v := .ref 131) (le_ (n := 2) (u := 100) (v := 25) (j := 0) hn rfl hv rfl) rfl rfl (Nat.le_of_ble_eq_true rfl)) rfl rfl rfl ?_
  refine me1 (pc' := 65) dm_X2_copyOf_64 rfl rfl rfl rfl ?_
  refine me1 (pc' := 66) dm_X2_copyOf_65 rfl rfl rfl rfl ?_
  refine me3 (pc' := 69) dm_X2_copyOf_66 (g_get (v := .ref 8) (lu (n := 2) (j := 2) hn rfl) rfl rfl (Nat.le_of_ble_eq_true rfl)) rfl rfl rfl ?_
  refine me1 (pc' := 70) dm_X2_copyOf_69 rfl rfl rfl rfl ?_
  refine me3 (pc' := 71) dm_X2_copyOf_70 (g_aald (v := .null) (lu (n := 2) (j := 6) hn rfl) rfl (by decide) rfl (Nat.le_of_ble_eq_true rfl)) rfl rfl rfl ?_
  refine me3 (pc' := 72) dm_X2_copyOf_71 (g_aastn (le_ (n := 2) (u := 100) (v := 25) (j := 4) hn rfl hv rfl) (se (n := 2) (u := 100) (v := 25) (j := 4) hn rfl hv _) rfl (by decide) (Nat.le_of_ble_eq_true rfl)) rfl rfl rfl ?_
  refine me1 (pc' := 75) (L' := [(2, .int (13 : Int32)), (0, .ref 127), (1, .ref 4)]) dm_X2_copyOf_72 rfl rfl rfl rfl ?_
  refine me2 (pc' := 18) dm_X2_copyOf_75 rfl rfl rfl ?_
  refine me1 (pc' := 19) dm_X2_copyOf_18 rfl rfl rfl rfl ?_
  refine me0 (pc' := 21) (S' := .int (40 : Int32) :: _) dm_X2_copyOf_19 rfl rfl rfl rfl ?_
  refine me_2f (pc' := 24) dm_X2_copyOf_21 rfl (by decide) rfl ?_
  refine me1 (pc' := 25) dm_X2_copyOf_24 rfl rfl rfl rfl ?_
  refine me3 (pc' := 28) dm_X2_copyOf_25 (g_get (v := .ref 128) (le_ (n := 2) (u := 100) (v := 25) (j := 0) hn rfl hv rfl) rfl rfl (Nat.le_of_ble_eq_true rfl)) rfl rfl rfl ?_
  refine me1 (pc' := 29) dm_X2_copyOf_28 rfl rfl rfl rfl ?_
  refine me1 (pc' := 30) dm_X2_copyOf_29 rfl rfl rfl rfl ?_
  refine me3 (pc' := 33) dm_X2_copyOf_30 (g_get (v := .ref 5) (lu (n := 2) (j := 2) hn rfl) rfl rfl (Nat.le_of_ble_eq_true rfl)) rfl rfl rfl ?_
  refine me1 (pc' := 34) dm_X2_copyOf_33 rfl rfl rfl rfl ?_
  refine me3 (pc' := 35) dm_X2_copyOf_34 (g_lald (v := (0 : Int64)) (lu (n := 2) (j := 3) hn rfl) rfl (by decide) rfl (Nat.le_of_ble_eq_true rfl)) rfl rfl rfl ?_
  refine me3 (pc' := 36) dm_X2_copyOf_35 (g_last (le_ (n := 2) (u := 100) (v := 25) (j := 1) hn rfl hv rfl) (se (n := 2) (u := 100) (v := 25) (j := 1) hn rfl hv _) rfl (by decide) (Nat.le_of_ble_eq_true rfl)) rfl rfl rfl ?_
  refine me1 (pc' := 37) dm_X2_copyOf_36 rfl rfl rfl rfl ?_
  refine me3 (pc' := 40) dm_X2_copyOf_37 (g_get (v := .ref 129) (le_ (n := 2) (u := 100) (v := 25) (j := 0) hn rfl hv rfl) rfl rfl (Nat.le_of_ble_eq_true rfl)) rfl rfl rfl ?_
  refine me1 (pc' := 41) dm_X2_copyOf_40 rfl rfl rfl rfl ?_
  refine me1 (pc' := 42) dm_X2_copyOf_41 rfl rfl rfl rfl ?_
  refine me3 (pc' := 45) dm_X2_copyOf_42 (g_get (v := .ref 6) (lu (n := 2) (j := 2) hn rfl) rfl rfl (Nat.le_of_ble_eq_true rfl)) rfl rfl rfl ?_
  refine me1 (pc' := 46) dm_X2_copyOf_45 rfl rfl rfl rfl ?_
  refine me3 (pc' := 47) dm_X2_copyOf_46 (g_aald (v := .null) (lu (n := 2) (j := 4) hn rfl) rfl (by decide) rfl (Nat.le_of_ble_eq_true rfl)) rfl rfl rfl ?_
  refine me3 (pc' := 48) dm_X2_copyOf_47 (g_aastn (le_ (n := 2) (u := 100) (v := 25) (j := 2) hn rfl hv rfl) (se (n := 2) (u := 100) (v := 25) (j := 2) hn rfl hv _) rfl (by decide) (Nat.le_of_ble_eq_true rfl)) rfl rfl rfl ?_
  refine me1 (pc' := 49) dm_X2_copyOf_48 rfl rfl rfl rfl ?_
  refine me3 (pc' := 52) dm_X2_copyOf_49 (g_get (v := .ref 130) (le_ (n := 2) (u := 100) (v := 25) (j := 0) hn rfl hv rfl) rfl rfl (Nat.le_of_ble_eq_true rfl)) rfl rfl rfl ?_
  refine me1 (pc' := 53) dm_X2_copyOf_52 rfl rfl rfl rfl ?_
  refine me1 (pc' := 54) dm_X2_copyOf_53 rfl rfl rfl rfl ?_
  refine me3 (pc' := 57) dm_X2_copyOf_54 (g_get (v := .ref 7) (lu (n := 2) (j := 2) hn rfl) rfl rfl (Nat.le_of_ble_eq_true rfl)) rfl rfl rfl ?_
  refine me1 (pc' := 58) dm_X2_copyOf_57 rfl rfl rfl rfl ?_
  refine me3 (pc' := 59) dm_X2_copyOf_58 (g_lald (v := (0 : Int64)) (lu (n := 2) (j := 5) hn rfl) rfl (by decide) rfl (Nat.le_of_ble_eq_true rfl)) rfl rfl rfl ?_
  refine me3 (pc' := 60) dm_X2_copyOf_59 (g_last (le_ (n := 2) (u := 100) (v := 25) (j := 3) hn rfl hv rfl) (se (n := 2) (u := 100) (v := 25) (j := 3) hn rfl hv _) rfl (by decide) (Nat.le_of_ble_eq_true rfl)) rfl rfl rfl ?_
  refine me1 (pc' := 61) dm_X2_copyOf_60 rfl rfl rfl rfl ?_
  refine me3 (pc' := 64) dm_X2_copyOf_61 (g_get (v := .ref 131) (le_ (n := 2) (u := 100) (v := 25) (j := 0) hn rfl hv rfl) rfl rfl (Nat.le_of_ble_eq_true rfl)) rfl rfl rfl ?_
  refine me1 (pc' := 65) dm_X2_copyOf_64 rfl rfl rfl rfl ?_
  refine me1 (pc' := 66) dm_X2_copyOf_65 rfl rfl rfl rfl ?_
  refine me3 (pc' := 69) dm_X2_copyOf_66 (g_get (v := .ref 8) (lu (n := 2) (j := 2) hn rfl) rfl rfl (Nat.le_of_ble_eq_true rfl)) rfl rfl rfl ?_
  refine me1 (pc' := 70) dm_X2_copyOf_69 rfl rfl rfl rfl ?_
  refine me3 (pc' := 71) dm_X2_copyOf_70 (g_aald (v := .null) (lu (n := 2) (j := 6) hn rfl) rfl (by decide) rfl (Nat.le_of_ble_eq_true rfl)) rfl rfl rfl ?_
  refine me3 (pc' := 72) dm_X2_copyOf_71 (g_aastn (le_ (n := 2) (u := 100) (v := 25) (j := 4) hn rfl hv rfl) (se (n := 2) (u := 100) (v := 25) (j := 4) hn rfl hv _) rfl (by decide) (Nat.le_of_ble_eq_true rfl)) rfl rfl rfl ?_
  refine me1 (pc' := 75) (L' := [(2, .int (14 : Int32)), (0, .ref 127), (1, .ref 4)]) dm_X2_copyOf_72 rfl rfl rfl rfl ?_
  refine me2 (pc' := 18) dm_X2_copyOf_75 rfl rfl rfl ?_
  refine me1 (pc' := 19) dm_X2_copyOf_18 rfl rfl rfl rfl ?_
  refine me0 (pc' := 21) (S' := .int (40 : Int32) :: _) dm_X2_copyOf_19 rfl rfl rfl rfl ?_
  refine me_2f (pc' := 24) dm_X2_copyOf_21 rfl (by decide) rfl ?_
  refine me1 (pc' := 25) dm_X2_copyOf_24 rfl rfl rfl rfl ?_
  refine me3 (pc' := 28) dm_X2_copyOf_25 (g_get (v := .ref 128) (le_ (n := 2) (u := 100) (v := 25) (j := 0) hn rfl hv rfl) rfl rfl (Nat.le_of_ble_eq_true rfl)) rfl rfl rfl ?_
  refine me1 (pc' := 29) dm_X2_copyOf_28 rfl rfl rfl rfl ?_
  refine me1 (pc' := 30) dm_X2_copyOf_29 rfl rfl rfl rfl ?_
  refine me3 (pc' := 33) dm_X2_copyOf_30 (g_get (v := .ref 5) (lu (n := 2) (j := 2) hn rfl) rfl rfl (Nat.le_of_ble_eq_true rfl)) rfl rfl rfl ?_
  refine me1 (pc' := 34) dm_X2_copyOf_33 rfl rfl rfl rfl ?_
  refine me3 (pc' := 35) dm_X2_copyOf_34 (g_lald (v := (0 : Int64)) (lu (n := 2) (j := 3) hn rfl) rfl (by decide) rfl (Nat.le_of_ble_eq_true rfl)) rfl rfl rfl ?_
  refine me3 (pc' := 36) dm_X2_copyOf_35 (g_last (le_ (n := 2) (u := 100) (v := 25) (j := 1) hn rfl hv rfl) (se (n := 2) (u := 100) (v := 25) (j := 1) hn rfl hv _) rfl (by decide) (Nat.le_of_ble_eq_true rfl)) rfl rfl rfl ?_
  refine me1 (pc' := 37) dm_X2_copyOf_36 rfl rfl rfl rfl ?_
  refine me3 (pc' := 40) dm_X2_copyOf_37 (g_get (v := .ref 129) (le_ (n := 2) (u := 100) (v := 25) (j := 0) hn rfl hv rfl) rfl rfl (Nat.le_of_ble_eq_true rfl)) rfl rfl rfl ?_
  refine me1 (pc' := 41) dm_X2_copyOf_40 rfl rfl rfl rfl ?_
  refine me1 (pc' := 42) dm_X2_copyOf_41 rfl rfl rfl rfl ?_
  refine me3 (pc' := 45) dm_X2_copyOf_42 (g_get (v := .ref 6) (lu (n := 2) (j := 2) hn rfl) rfl rfl (Nat.le_of_ble_eq_true rfl)) rfl rfl rfl ?_
  refine me1 (pc' := 46) dm_X2_copyOf_45 rfl rfl rfl rfl ?_
  refine me3 (pc' := 47) dm_X2_copyOf_46 (g_aald (v := .null) (lu (n := 2) (j := 4) hn rfl) rfl (by decide) rfl (Nat.le_of_ble_eq_true rfl)) rfl rfl rfl ?_
  refine me3 (pc' := 48) dm_X2_copyOf_47 (g_aastn (le_ (n := 2) (u := 100) (v := 25) (j := 2) hn rfl hv rfl) (se (n := 2) (u := 100) (v := 25) (j := 2) hn rfl hv _) rfl (by decide) (Nat.le_of_ble_eq_true rfl)) rfl rfl rfl ?_
  refine me1 (pc' := 49) dm_X2_copyOf_48 rfl rfl rfl rfl ?_
  refine me3 (pc' := 52) dm_X2_copyOf_49 (g_get (v := .ref 130) (le_ (n := 2) (u := 100) (v := 25) (j := 0) hn rfl hv rfl) rfl rfl (Nat.le_of_ble_eq_true rfl)) rfl rfl rfl ?_
  refine me1 (pc' := 53) dm_X2_copyOf_52 rfl rfl rfl rfl ?_
  refine me1 (pc' := 54) dm_X2_copyOf_53 rfl rfl rfl rfl ?_
  refine me3 (pc' := 57) dm_X2_copyOf_54 (g_get (v := .ref 7) (lu (n := 2) (j := 2) hn rfl) rfl rfl (Nat.le_of_ble_eq_true rfl)) rfl rfl rfl ?_
  refine me1 (pc' := 58) dm_X2_copyOf_57 rfl rfl rfl rfl ?_
  refine me3 (pc' := 59) dm_X2_copyOf_58 (g_lald (v := (0 : Int64)) (lu (n := 2) (j := 5) hn rfl) rfl (by decide) rfl (Nat.le_of_ble_eq_true rfl)) rfl rfl rfl ?_
  refine me3 (pc' := 60) dm_X2_copyOf_59 (g_last (le_ (n := 2) (u := 100) (v := 25) (j := 3) hn rfl hv rfl) (se (n := 2) (u := 100) (v := 25) (j := 3) hn rfl hv _) rfl (by decide) (Nat.le_of_ble_eq_true rfl)) rfl rfl rfl ?_
  refine me1 (pc' := 61) dm_X2_copyOf_60 rfl rfl rfl rfl ?_
  refine me3 (pc' := 64) dm_X2_copyOf_61 (g_get (v := .ref 131) (le_ (n := 2) (u := 100) (v := 25) (j := 0) hn rfl hv rfl) rfl rfl (Nat.le_of_ble_eq_true rfl)) rfl rfl rfl ?_
  refine me1 (pc' := 65) dm_X2_copyOf_64 rfl rfl rfl rfl ?_
  refine me1 (pc' := 66) dm_X2_copyOf_65 rfl rfl rfl rfl ?_
  refine me3 (pc' := 69) dm_X2_copyOf_66 (g_get (v := .ref 8) (lu (n := 2) (j := 2) hn rfl) rfl rfl (Nat.le_of_ble_eq_true rfl)) rfl rfl rfl ?_
  refine me1 (pc' := 70) dm_X2_copyOf_69 rfl rfl rfl rfl ?_
  refine me3 (pc' := 71) dm_X2_copyOf_70 (g_aald (v := .null) (lu (n := 2) (j := 6) hn rfl) rfl (by decide) rfl (Nat.le_of_ble_eq_true rfl)) rfl rfl rfl ?_
  refine me3 (pc' := 72) dm_X2_copyOf_71 (g_aastn (le_ (n := 2) (u := 100) (v := 25) (j := 4) hn rfl hv rfl) (se (n := 2) (u := 100) (v := 25) (j := 4) hn rfl hv _) rfl (by decide) (Nat.le_of_ble_eq_true rfl)) rfl rfl rfl ?_
  refine me1 (pc' := 75) (L' := [(2, .int (15 : Int32)), (0, .ref 127), (1, .ref 4)]) dm_X2_copyOf_72 rfl rfl rfl rfl ?_
  refine me2 (pc' := 18) dm_X2_copyOf_75 rfl rfl rfl ?_
  refine me1 (pc' := 19) dm_X2_copyOf_18 rfl rfl rfl rfl ?_
  refine me0 (pc' := 21) (S' := .int (40 : Int32) :: _) dm_X2_copyOf_19 rfl rfl rfl rfl ?_
  refine me_2f (pc' := 24) dm_X2_copyOf_21 rfl (by decide) rfl ?_
  refine me1 (pc' := 25) dm_X2_copyOf_24 rfl rfl rfl rfl ?_
  refine me3 (pc' := 28) dm_X2_copyOf_25 (g_get (v := .ref 128) (le_ (n := 2) (u := 100) (v := 25) (j := 0) hn rfl hv rfl) rfl rfl (Nat.le_of_ble_eq_true rfl)) rfl rfl rfl ?_
  refine me1 (pc' := 29) dm_X2_copyOf_28 rfl rfl rfl rfl ?_
  refine me1 (pc' := 30) dm_X2_copyOf_29 rfl rfl rfl rfl ?_
  refine me3 (pc' := 33) dm_X2_copyOf_30 (g_get (v := .ref 5) (lu (n := 2) (j := 2) hn rfl) rfl rfl (Nat.le_of_ble_eq_true rfl)) rfl rfl rfl ?_
  refine me1 (pc' := 34) dm_X2_copyOf_33 rfl rfl rfl rfl ?_
  refine me3 (pc' := 35) dm_X2_copyOf_34 (g_lald (v := (0 : Int64)) (lu (n := 2) (j := 3) hn rfl) rfl (by decide) rfl (Nat.le_of_ble_eq_true rfl)) rfl rfl rfl ?_
  refine me3 (pc' := 36) dm_X2_copyOf_35 (g_last (le_ (n := 2) (u := 100) (v := 25) (j := 1) hn rfl hv rfl) (se (n := 2) (u := 100) (v := 25) (j := 1) hn rfl hv _) rfl (by decide) (Nat.le_of_ble_eq_true rfl)) rfl rfl rfl ?_
  refine me1 (pc' := 37) dm_X2_copyOf_36 rfl rfl rfl rfl ?_
  refine me3 (pc' := 40) dm_X2_copyOf_37 (g_get (v := .ref 129) (le_ (n := 2) (u := 100) (v := 25) (j := 0) hn rfl hv rfl) rfl rfl (Nat.le_of_ble_eq_true rfl)) rfl rfl rfl ?_
  refine me1 (pc' := 41) dm_X2_copyOf_40 rfl rfl rfl rfl ?_
  refine me1 (pc' := 42) dm_X2_copyOf_41 rfl rfl rfl rfl ?_
  refine me3 (pc' := 45) dm_X2_copyOf_42 (g_get (v := .ref 6) (lu (n := 2) (j := 2) hn rfl) rfl rfl (Nat.le_of_ble_eq_true rfl)) rfl rfl rfl ?_
  refine me1 (pc' := 46) dm_X2_copyOf_45 rfl rfl rfl rfl ?_
  refine me3 (pc' := 47) dm_X2_copyOf_46 (g_aald (v := .null) (lu (n := 2) (j := 4) hn rfl) rfl (by decide) rfl (Nat.le_of_ble_eq_true rfl)) rfl rfl rfl ?_
  refine me3 (pc' := 48) dm_X2_copyOf_47 (g_aastn (le_ (n := 2) (u := 100) (v := 25) (j := 2) hn rfl hv rfl) (se (n := 2) (u := 100) (v := 25) (j := 2) hn rfl hv _) rfl (by decide) (Nat.le_of_ble_eq_true rfl)) rfl rfl rfl ?_
  refine me1 (pc' := 49) dm_X2_copyOf_48 rfl rfl rfl rfl ?_
  refine me3 (pc' := 52) dm_X2_copyOf_49 (g_get (v := .ref 130) (le_ (n := 2) (u := 100) (v := 25) (j := 0) hn rfl hv rfl) rfl rfl (Nat.le_of_ble_eq_true rfl)) rfl rfl rfl ?_
  refine me1 (pc' := 53) dm_X2_copyOf_52 rfl rfl rfl rfl ?_
  refine me1 (pc' := 54) dm_X2_copyOf_53 rfl rfl rfl rfl ?_
  refine me3 (pc' := 57) dm_X2_copyOf_54 (g_get (v := .ref 7) (lu (n := 2) (j := 2) hn rfl) rfl rfl (Nat.le_of_ble_eq_true rfl)) rfl rfl rfl ?_
  refine me1 (pc' := 58) dm_X2_copyOf_57 rfl rfl rfl rfl ?_
  refine me3 (pc' := 59) dm_X2_copyOf_58 (g_lald (v := (0 : Int64)) (lu (n := 2) (j := 5) hn rfl) rfl (by decide) rfl (Nat.le_of_ble_eq_true rfl)) rfl rfl rfl ?_
  refine me3 (pc' := 60) dm_X2_copyOf_59 (g_last (le_ (n := 2) (u := 100) (v := 25) (j := 3) hn rfl hv rfl) (se (n := 2) (u := 100) (v := 25) (j := 3) hn rfl hv _) rfl (by decide) (Nat.le_of_ble_eq_true rfl)) rfl rfl rfl ?_
  refine me1 (pc' := 61) dm_X2_copyOf_60 rfl rfl rfl rfl ?_
  refine me3 (pc' := 64) dm_X2_copyOf_61 (g_get (v := .ref 131) (le_ (n := 2) (u := 100) (v := 25) (j := 0) hn rfl hv rfl) rfl rfl (Nat.le_of_ble_eq_true rfl)) rfl rfl rfl ?_
  refine me1 (pc' := 65) dm_X2_copyOf_64 rfl rfl rfl rfl ?_
  refine me1 (pc' := 66) dm_X2_copyOf_65 rfl rfl rfl rfl ?_
  refine me3 (pc' := 69) dm_X2_copyOf_66 (g_get (v := .ref 8) (lu (n := 2) (j := 2) hn rfl) rfl rfl (Nat.le_of_ble_eq_true rfl)) rfl rfl rfl ?_
  refine me1 (pc' := 70) dm_X2_copyOf_69 rfl rfl rfl rfl ?_
  refine me3 (pc' := 71) dm_X2_copyOf_70 (g_aald (v := .null) (lu (n := 2) (j := 6) hn rfl) rfl (by decide) rfl (Nat.le_of_ble_eq_true rfl)) rfl rfl rfl ?_
  refine me3 (pc' := 72) dm_X2_copyOf_71 (g_aastn (le_ (n := 2) (u := 100) (v := 25) (j := 4) hn rfl hv rfl) (se (n := 2) (u := 100) (v := 25) (j := 4) hn rfl hv _) rfl (by decide) (Nat.le_of_ble_eq_true rfl)) rfl rfl rfl ?_
  refine me1 (pc' := 75) (L' := [(2, .int (16 : Int32)), (0, .ref 127), (1, .ref 4)]) dm_X2_copyOf_72 rfl rfl rfl rfl ?_
  refine me2 (pc' := 18) dm_X2_copyOf_75 rfl rfl rfl ?_
  refine me1 (pc' := 19) dm_X2_copyOf_18 rfl rfl rfl rfl ?_
  refine me0 (pc' := 21) (S' := .int (40 : Int32) :: _) dm_X2_copyOf_19 rfl rfl rfl rfl ?_
  refine me_2f (pc' := 24) dm_X2_copyOf_21 rfl (by decide) rfl ?_
  refine me1 (pc' := 25) dm_X2_copyOf_24 rfl rfl rfl rfl ?_
  refine me3 (pc' := 28) dm_X2_copyOf_25 (g_get (v := .ref 128) (le_ (n := 2) (u := 100) (v := 25) (j := 0) hn rfl hv rfl) rfl rfl (Nat.le_of_ble_eq_true rfl)) rfl rfl rfl ?_
  refine me1 (pc' := 29) dm_X2_copyOf_28 rfl rfl rfl rfl ?_
  refine me1 (pc' := 30) dm_X2_copyOf_29 rfl rfl rfl rfl ?_
  refine me3 (pc' := 33) dm_X2_copyOf_30 (g_get (v := .ref 5) (lu (n := 2) (j := 2) hn rfl) rfl rfl (Nat.le_of_ble_eq_true rfl)) rfl rfl rfl ?_
  refine me1 (pc' := 34) dm_X2_copyOf_33 rfl rfl rfl rfl ?_
  refine me3 (pc' := 35) dm_X2_copyOf_34 (g_lald (v := (0 : Int64)) (lu (n := 2) (j := 3) hn rfl) rfl (by decide) rfl (Nat.le_of_ble_eq_true rfl)) rfl rfl rfl ?_
  refine me3 (pc' := 36) dm_X2_copyOf_35 (g_last (le_ (n := 2) (u := 100) (v := 25) (j := 1) hn rfl hv rfl) (se (n := 2) (u := 100) (v := 25) (j := 1) hn rfl hv _) rfl (by decide) (Nat.le_of_ble_eq_true rfl)) rfl rfl rfl ?_
  refine me1 (pc' := 37) dm_X2_copyOf_36 rfl rfl rfl rfl ?_
  refine me3 (pc' := 40) dm_X2_copyOf_37 (g_get (v := .ref 129) (le_ (n := 2) (u := 100) (v := 25) (j := 0) hn rfl hv rfl) rfl rfl (Nat.le_of_ble_eq_true rfl)) rfl rfl rfl ?_
  refine me1 (pc' := 41) dm_X2_copyOf_40 rfl rfl rfl rfl ?_
  refine me1 (pc' := 42) dm_X2_copyOf_41 rfl rfl rfl rfl ?_
  refine me3 (pc' := 45) dm_X2_copyOf_42 (g_get (v := .ref 6) (lu (n := 2) (j := 2) hn rfl) rfl rfl (Nat.le_of_ble_eq_true rfl)) rfl rfl rfl ?_
  refine me1 (pc' := 46) dm_X2_copyOf_45 rfl rfl rfl rfl ?_
  refine me3 (pc' := 47) dm_X2_copyOf_46 (g_aald (v := .null) (lu (n := 2) (j := 4) hn rfl) rfl (by decide) rfl (Nat.le_of_ble_eq_true rfl)) rfl rfl rfl ?_
  refine me3 (pc' := 48) dm_X2_copyOf_47 (g_aastn (le_ (n := 2) (u := 100) (v := 25) (j := 2) hn rfl hv rfl) (se (n := 2) (u := 100) (v := 25) (j := 2) hn rfl hv _) rfl (by decide) (Nat.le_of_ble_eq_true rfl)) rfl rfl rfl ?_
  refine me1 (pc' := 49) dm_X2_copyOf_48 rfl rfl rfl rfl ?_
  refine me3 (pc' := 52) dm_X2_copyOf_49 (g_get (v := .ref 130) (le_ (n := 2) (u := 100) (v := 25) (j := 0) hn rfl hv rfl) rfl rfl (Nat.le_of_ble_eq_true rfl)) rfl rfl rfl ?_
  refine me1 (pc' := 53) dm_X2_copyOf_52 rfl rfl rfl rfl ?_
  refine me1 (pc' := 54) dm_X2_copyOf_53 rfl rfl rfl rfl ?_
  refine me3 (pc' := 57) dm_X2_copyOf_54 (g_get (v := .ref 7) (lu (n := 2) (j := 2) hn rfl) rfl rfl (Nat.le_of_ble_eq_true rfl)) rfl rfl rfl ?_
  refine me1 (pc' := 58) dm_X2_copyOf_57 rfl rfl rfl rfl ?_
  refine me3 (pc' := 59) dm_X2_copyOf_58 (g_lald (v := (0 : Int64)) (lu (n := 2) (j := 5) hn rfl) rfl (by decide) rfl (Nat.le_of_ble_eq_true rfl)) rfl rfl rfl ?_
  refine me3 (pc' := 60) dm_X2_copyOf_59 (g_last (le_ (n := 2) (u := 100) (v := 25) (j := 3) hn rfl hv rfl) (se (n := 2) (u := 100) (v := 25) (j := 3) hn rfl hv _) rfl (by decide) (Nat.le_of_ble_eq_true rfl)) rfl rfl rfl ?_
  refine me1 (pc' := 61) dm_X2_copyOf_60 rfl rfl rfl rfl ?_
  refine me3 (pc' := 64) dm_X2_copyOf_61 (g_get (v := .ref 131) (le_ (n := 2) (u := 100) (v := 25) (j := 0) hn rfl hv rfl) rfl rfl (Nat.le_of_ble_eq_true rfl)) rfl rfl rfl ?_
  refine me1 (pc' := 65) dm_X2_copyOf_64 rfl rfl rfl rfl ?_
  refine me1 (pc' := 66) dm_X2_copyOf_65 rfl rfl rfl rfl ?_
  refine me3 (pc' := 69) dm_X2_copyOf_66 (g_get (v := .ref 8) (lu (n := 2) (j := 2) hn rfl) rfl rfl (Nat.le_of_ble_eq_true rfl)) rfl rfl rfl ?_
  refine me1 (pc' := 70) dm_X2_copyOf_69 rfl rfl rfl rfl ?_
  refine me3 (pc' := 71) dm_X2_copyOf_70 (g_aald (v := .null) (lu (n := 2) (j := 6) hn rfl) rfl (by decide) rfl (Nat.le_of_ble_eq_true rfl)) rfl rfl rfl ?_
  refine me3 (pc' := 72) dm_X2_copyOf_71 (g_aastn (le_ (n := 2) (u := 100) (v := 25) (j := 4) hn rfl hv rfl) (se (n := 2) (u := 100) (v := 25) (j := 4) hn rfl hv _) rfl (by decide) (Nat.le_of_ble_eq_true rfl)) rfl rfl rfl ?_
  refine me1 (pc' := 75) (L' := [(2, .int (17 : Int32)), (0, .ref 127), (1, .ref 4)]) dm_X2_copyOf_72 rfl rfl rfl rfl ?_
  refine me2 (pc' := 18) dm_X2_copyOf_75 rfl rfl rfl ?_
  refine me1 (pc' := 19) dm_X2_copyOf_18 rfl rfl rfl rfl ?_
  refine me0 (pc' := 21) (S' := .int (40 : Int32) :: _) dm_X2_copyOf_19 rfl rfl rfl rfl ?_
  refine me_2f (pc' := 24) dm_X2_copyOf_21 rfl (by decide) rfl ?_
  refine me1 (pc' := 25) dm_X2_copyOf_24 rfl rfl rfl rfl ?_
  refine me3 (pc' := 28) dm_X2_copyOf_25 (g_get (v := .ref 128) (le_ (n := 2) (u := 100) (v := 25) (j := 0) hn rfl hv rfl) rfl rfl (Nat.le_of_ble_eq_true rfl)) rfl rfl rfl ?_
  refine me1 (pc' := 29) dm_X2_copyOf_28 rfl rfl rfl rfl ?_
  refine me1 (pc' := 30) dm_X2_copyOf_29 rfl rfl rfl rfl ?_
  refine me3 (pc' := 33) dm_X2_copyOf_30 (g_get (v := .ref 5) (lu (n := 2) (j := 2) hn rfl) rfl rfl (Nat.le_of_ble_eq_true rfl)) rfl rfl rfl ?_
  refine me1 (pc' := 34) dm_X2_copyOf_33 rfl rfl rfl rfl ?_
  refine me3 (pc' := 35) dm_X2_copyOf_34 (g_lald (v := (0 : Int64)) (lu (n := 2) (j := 3) hn rfl) rfl (by decide) rfl (Nat.le_of_ble_eq_true rfl)) rfl rfl rfl ?_
  refine me3 (pc' := 36) dm_X2_copyOf_35 (g_last (le_ (n := 2) (u := 100) (v := 25) (j := 1) hn rfl hv rfl) (se (n := 2) (u := 100) (v := 25) (j := 1) hn rfl hv _) rfl (by decide) (Nat.le_of_ble_eq_true rfl)) rfl rfl rfl ?_
  refine me1 (pc' := 37) dm_X2_copyOf_36 rfl rfl rfl rfl ?_
  refine me3 (pc' := 40) dm_X2_copyOf_37 (g_get (v := .ref 129) (le_ (n := 2) (u := 100) (v := 25) (j := 0) hn rfl hv rfl) rfl rfl (Nat.le_of_ble_eq_true rfl)) rfl rfl rfl ?_
  refine me1 (pc' := 41) dm_X2_copyOf_40 rfl rfl rfl rfl ?_
  refine me1 (pc' := 42) dm_X2_copyOf_41 rfl rfl rfl rfl ?_
  refine me3 (pc' := 45) dm_X2_copyOf_42 (g_get (v := .ref 6) (lu (n := 2) (j := 2) hn rfl) rfl rfl (Nat.le_of_ble_eq_true rfl)) rfl rfl rfl ?_
  refine me1 (pc' := 46) dm_X2_copyOf_45 rfl rfl rfl rfl ?_
  refine me3 (pc' := 47) dm_X2_copyOf_46 (g_aald (v := .null) (lu (n := 2) (j := 4) hn rfl) rfl (by decide) rfl (Nat.le_of_ble_eq_true rfl)) rfl rfl rfl ?_
  refine me3 (pc' := 48) dm_X2_copyOf_47 (g_aastn (le_ (n := 2) (u := 100) (v := 25) (j := 2) hn rfl hv rfl) (se (n := 2) (u := 100) (v := 25) (j := 2) hn rfl hv _) rfl (by decide) (Nat.le_of_ble_eq_true rfl)) rfl rfl rfl ?_
  refine me1 (pc' := 49) dm_X2_copyOf_48 rfl rfl rfl rfl ?_
  refine me3 (pc' := 52) dm_X2_copyOf_49 (g_get (v := .ref 130) (le_ (n := 2) (u := 100) (v := 25) (j := 0) hn rfl hv rfl) rfl rfl (Nat.le_of_ble_eq_true rfl)) rfl rfl rfl ?_
  refine me1 (pc' := 53) dm_X2_copyOf_52 rfl rfl rfl rfl ?_
  refine me1 (pc' := 54) dm_X2_copyOf_53 rfl rfl rfl rfl ?_
  refine me3 (pc' := 57) dm_X2_copyOf_54 (g_get (v := .ref 7) (lu (n := 2) (j := 2) hn rfl) rfl rfl (Nat.le_of_ble_eq_true rfl)) rfl rfl rfl ?_
  refine me1 (pc' := 58) dm_X2_copyOf_57 rfl rfl rfl rfl ?_
  refine me3 (pc' := 59) dm_X2_copyOf_58 (g_lald (v := (0 : Int64)) (lu (n := 2) (j := 5) hn rfl) rfl (by decide) rfl (Nat.le_of_ble_eq_true rfl)) rfl rfl rfl ?_
  refine me3 (pc' := 60) dm_X2_copyOf_59 (g_last (le_ (n := 2) (u := 100) (v := 25) (j := 3) hn rfl hv rfl) (se (n := 2) (u := 100) (v := 25) (j := 3) hn rfl hv _) rfl (by decide) (Nat.le_of_ble_eq_true rfl)) rfl rfl rfl ?_
  refine me1 (pc' := 61) dm_X2_copyOf_60 rfl rfl rfl rfl ?_
  refine me3 (pc' := 64) dm_X2_copyOf_61 (g_get (v := .ref 131) (le_ (n := 2) (u := 100) (v := 25) (j := 0) hn rfl hv rfl) rfl rfl (Nat.le_of_ble_eq_true rfl)) rfl rfl rfl ?_
  refine me1 (pc' := 65) dm_X2_copyOf_64 rfl rfl rfl rfl ?_
  refine me1 (pc' := 66) dm_X2_copyOf_65 rfl rfl rfl rfl ?_
  refine me3 (pc' := 69) dm_X2_copyOf_66 (g_get (v := .ref 8) (lu (n := 2) (j := 2) hn rfl) rfl rfl (Nat.le_of_ble_eq_true rfl)) rfl rfl rfl ?_
  refine me1 (pc' := 70) dm_X2_copyOf_69 rfl rfl rfl rfl ?_
  refine me3 (pc' := 71) dm_X2_copyOf_70 (g_aald (v := .null) (lu (n := 2) (j := 6) hn rfl) rfl (by decide) rfl (Nat.le_of_ble_eq_true rfl)) rfl rfl rfl ?_
  refine me3 (pc' := 72) dm_X2_copyOf_71 (g_aastn (le_ (n := 2) (u := 100) (v := 25) (j := 4) hn rfl hv rfl) (se (n := 2) (u := 100) (v := 25) (j := 4) hn rfl hv _) rfl (by decide) (Nat.le_of_ble_eq_true rfl)) rfl rfl rfl ?_
  refine me1 (pc' := 75) (L' := [(2, .int (18 : Int32)), (0, .ref 127), (1, .ref 4)]) dm_X2_copyOf_72 rfl rfl rfl rfl ?_
  refine me2 (pc' := 18) dm_X2_copyOf_75 rfl rfl rfl ?_
  refine me1 (pc' := 19) dm_X2_copyOf_18 rfl rfl rfl rfl ?_
  refine me0 (pc' := 21) (S' := .int (40 : Int32) :: _) dm_X2_copyOf_19 rfl rfl rfl rfl ?_
  refine me_2f (pc' := 24) dm_X2_copyOf_21 rfl (by decide) rfl ?_
  refine me1 (pc' := 25) dm_X2_copyOf_24 rfl rfl rfl rfl ?_
  refine me3 (pc' := 28) dm_X2_copyOf_25 (g_get (v := .ref 128) (le_ (n := 2) (u := 100) (v := 25) (j := 0) hn rfl hv rfl) rfl rfl (Nat.le_of_ble_eq_true rfl)) rfl rfl rfl ?_
  refine me1 (pc' := 29) dm_X2_copyOf_28 rfl rfl rfl rfl ?_
  refine me1 (pc' := 30) dm_X2_copyOf_29 rfl rfl rfl rfl ?_
  refine me3 (pc' := 33) dm_X2_copyOf_30 (g_get (v := .ref 5) (lu (n := 2) (j := 2) hn rfl) rfl rfl (Nat.le_of_ble_eq_true rfl)) rfl rfl rfl ?_
  refine me1 (pc' := 34) dm_X2_copyOf_33 rfl rfl rfl rfl ?_
  refine me3 (pc' := 35) dm_X2_copyOf_34 (g_lald (v := (0 : Int64)) (lu (n := 2) (j := 3) hn rfl) rfl (by decide) rfl (Nat.le_of_ble_eq_true rfl)) rfl rfl rfl ?_
  refine me3 (pc' := 36) dm_X2_copyOf_35 (g_last (le_ (n := 2) (u := 100) (v := 25) (j := 1) hn rfl hv rfl) (se (n := 2) (u := 100) (v := 25) (j := 1) hn rfl hv _) rfl (by decide) (Nat.le_of_ble_eq_true rfl)) rfl rfl rfl ?_
  refine me1 (pc' := 37) dm_X2_copyOf_36 rfl rfl rfl rfl ?_
  refine me3 (pc' := 40) dm_X2_copyOf_37 (g_get (v := .ref 129) (le_ (n := 2) (u := 100) (v := 25) (j := 0) hn rfl hv rfl) rfl rfl (Nat.le_of_ble_eq_true rfl)) rfl rfl rfl ?_
  refine me1 (pc' := 41) dm_X2_copyOf_40 rfl rfl rfl rfl ?_
  refine me1 (pc' := 42) dm_X2_copyOf_41 rfl rfl rfl rfl ?_
  refine me3 (pc' := 45) dm_X2_copyOf_42 (g_get (v := .ref 6) (lu (n := 2) (j := 2) hn rfl) rfl rfl (Nat.le_of_ble_eq_true rfl)) rfl rfl rfl ?_
  refine me1 (pc' := 46) dm_X2_copyOf_45 rfl rfl rfl rfl ?_
  refine me3 (pc' := 47) dm_X2_copyOf_46 (g_aald (v := .null) (lu (n := 2) (j := 4) hn rfl) rfl (by decide) rfl (Nat.le_of_ble_eq_true rfl)) rfl rfl rfl ?_
  refine me3 (pc' := 48) dm_X2_copyOf_47 (g_aastn (le_ (n := 2) (u := 100) (v := 25) (j := 2) hn rfl hv rfl) (se (n := 2) (u := 100) (v := 25) (j := 2) hn rfl hv _) rfl (by decide) (Nat.le_of_ble_eq_true rfl)) rfl rfl rfl ?_
  refine me1 (pc' := 49) dm_X2_copyOf_48 rfl rfl rfl rfl ?_
  refine me3 (pc' := 52) dm_X2_copyOf_49 (g_get (v := .ref 130) (le_ (n := 2) (u := 100) (v := 25) (j := 0) hn rfl hv rfl) rfl rfl (Nat.le_of_ble_eq_true rfl)) rfl rfl rfl ?_
  refine me1 (pc' := 53) dm_X2_copyOf_52 rfl rfl rfl rfl ?_
  refine me1 (pc' := 54) dm_X2_copyOf_53 rfl rfl rfl rfl ?_
  refine me3 (pc' := 57) dm_X2_copyOf_54 (g_get (v := .ref 7) (lu (n := 2) (j := 2) hn rfl) rfl rfl (Nat.le_of_ble_eq_true rfl)) rfl rfl rfl ?_
  refine me1 (pc' := 58) dm_X2_copyOf_57 rfl rfl rfl rfl ?_
  refine me3 (pc' := 59) dm_X2_copyOf_58 (g_lald (v := (0 : Int64)) (lu (n := 2) (j := 5) hn rfl) rfl (by decide) rfl (Nat.le_of_ble_eq_true rfl)) rfl rfl rfl ?_
  refine me3 (pc' := 60) dm_X2_copyOf_59 (g_last (le_ (n := 2) (u := 100) (v := 25) (j := 3) hn rfl hv rfl) (se (n := 2) (u := 100) (v := 25) (j := 3) hn rfl hv _) rfl (by decide) (Nat.le_of_ble_eq_true rfl)) rfl rfl rfl ?_
  refine me1 (pc' := 61) dm_X2_copyOf_60 rfl rfl rfl rfl ?_
  refine me3 (pc' := 64) dm_X2_copyOf_61 (g_get (v := .ref 131) (le_ (n := 2) (u := 100) (v := 25) (j := 0) hn rfl hv rfl) rfl rfl (Nat.le_of_ble_eq_true rfl)) rfl rfl rfl ?_
  refine me1 (pc' := 65) dm_X2_copyOf_64 rfl rfl rfl rfl ?_
  refine me1 (pc' := 66) dm_X2_copyOf_65 rfl rfl rfl rfl ?_
  refine me3 (pc' := 69) dm_X2_copyOf_66 (g_get (v := .ref 8) (lu (n := 2) (j := 2) hn rfl) rfl rfl (Nat.le_of_ble_eq_true rfl)) rfl rfl rfl ?_
  refine me1 (pc' := 70) dm_X2_copyOf_69 rfl rfl rfl rfl ?_
  refine me3 (pc' := 71) dm_X2_copyOf_70 (g_aald (v := .null) (lu (n := 2) (j := 6) hn rfl) rfl (by decide) rfl (Nat.le_of_ble_eq_true rfl)) rfl rfl rfl ?_
  refine me3 (pc' := 72) dm_X2_copyOf_71 (g_aastn (le_ (n := 2) (u := 100) (v := 25) (j := 4) hn rfl hv rfl) (se (n := 2) (u := 100) (v := 25) (j := 4) hn rfl hv _) rfl (by decide) (Nat.le_of_ble_eq_true rfl)) rfl rfl rfl ?_
  refine me1 (pc' := 75) (L' := [(2, .int (19 : Int32)), (0, .ref 127), (1, .ref 4)]) dm_X2_copyOf_72 rfl rfl rfl rfl ?_
  refine me2 (pc' := 18) dm_X2_copyOf_75 rfl rfl rfl ?_
  refine me1 (pc' := 19) dm_X2_copyOf_18 rfl rfl rfl rfl ?_
  refine me0 (pc' := 21) (S' := .int (40 : Int32) :: _) dm_X2_copyOf_19 rfl rfl rfl rfl ?_
  refine me_2f (pc' := 24) dm_X2_copyOf_21 rfl (by decide) rfl ?_
  refine me1 (pc' := 25) dm_X2_copyOf_24 rfl rfl rfl rfl ?_
  refine me3 (pc' := 28) dm_X2_copyOf_25 (g_get (v := .ref 128) (le_ (n := 2) (u := 100) (v := 25) (j := 0) hn rfl hv rfl) rfl rfl (Nat.le_of_ble_eq_true rfl)) rfl rfl rfl ?_
  refine me1 (pc' := 29) dm_X2_copyOf_28 rfl rfl rfl rfl ?_
  refine me1 (pc' := 30) dm_X2_copyOf_29 rfl rfl rfl rfl ?_
  refine me3 (pc' := 33) dm_X2_copyOf_30 (g_get (v := .ref 5) (lu (n := 2) (j := 2) hn rfl) rfl rfl (Nat.le_of_ble_eq_true rfl)) rfl rfl rfl ?_
  refine me1 (pc' := 34) dm_X2_copyOf_33 rfl rfl rfl rfl ?_
  refine me3 (pc' := 35) dm_X2_copyOf_34 (g_lald (v := (0 : Int64)) (lu (n := 2) (j := 3) hn rfl) rfl (by decide) rfl (Nat.le_of_ble_eq_true rfl)) rfl rfl rfl ?_
  refine me3 (pc' := 36) dm_X2_copyOf_35 (g_last (le_ (n := 2) (u := 100) (v := 25) (j := 1) hn rfl hv rfl) (se (n := 2) (u := 100) (v := 25) (j := 1) hn rfl hv _) rfl (by decide) (Nat.le_of_ble_eq_true rfl)) rfl rfl rfl ?_
  refine me1 (pc' := 37) dm_X2_copyOf_36 rfl rfl rfl rfl ?_
  refine me3 (pc' := 40) dm_X2_copyOf_37 (g_get (v := .ref 129) (le_ (n := 2) (u := 100) (v := 25) (j := 0) hn rfl hv rfl) rfl rfl (Nat.le_of_ble_eq_true rfl)) rfl rfl rfl ?_
  refine me1 (pc' := 41) dm_X2_copyOf_40 rfl rfl rfl rfl ?_
  refine me1 (pc' := 42) dm_X2_copyOf_41 rfl rfl rfl rfl ?_
  refine me3 (pc' := 45) dm_X2_copyOf_42 (g_get (v := .ref 6) (lu (n := 2) (j := 2) hn rfl) rfl rfl (Nat.le_of_ble_eq_true rfl)) rfl rfl rfl ?_
  refine me1 (pc' := 46) dm_X2_copyOf_45 rfl rfl rfl rfl ?_
  refine me3 (pc' := 47) dm_X2_copyOf_46 (g_aald (v := .null) (lu (n := 2) (j := 4) hn rfl) rfl (by decide) rfl (Nat.le_of_ble_eq_true rfl)) rfl rfl rfl ?_
  refine me3 (pc' := 48) dm_X2_copyOf_47 (g_aastn (le_ (n := 2) (u := 100) (v := 25) (j := 2) hn rfl hv rfl) (se (n := 2) (u := 100) (v := 25) (j := 2) hn rfl hv _) rfl (by decide) (Nat.le_of_ble_eq_true rfl)) rfl rfl rfl ?_
  refine me1 (pc' := 49) dm_X2_copyOf_48 rfl rfl rfl rfl ?_
  refine me3 (pc' := 52) dm_X2_copyOf_49 (g_get (v := .ref 130) (le_ (n := 2) (u := 100) (v := 25) (j := 0) hn rfl hv rfl) rfl rfl (Nat.le_of_ble_eq_true rfl)) rfl rfl rfl ?_
  refine me1 (pc' := 53) dm_X2_copyOf_52 rfl rfl rfl rfl ?_
  refine me1 (pc' := 54) dm_X2_copyOf_53 rfl rfl rfl rfl ?_
  refine me3 (pc' := 57) dm_X2_copyOf_54 (g_get (v := .ref 7) (lu (n := 2) (j := 2) hn rfl) rfl rfl (Nat.le_of_ble_eq_true rfl)) rfl rfl rfl ?_
  refine me1 (pc' := 58) dm_X2_copyOf_57 rfl rfl rfl rfl ?_
  refine me3 (pc' := 59) dm_X2_copyOf_58 (g_lald (v := (0 : Int64)) (lu (n := 2) (j := 5) hn rfl) rfl (by decide) rfl (Nat.le_of_ble_eq_true rfl)) rfl rfl rfl ?_
  refine me3 (pc' := 60) dm_X2_copyOf_59 (g_last (le_ (n := 2) (u := 100) (v := 25) (j := 3) hn rfl hv rfl) (se (n := 2) (u := 100) (v := 25) (j := 3) hn rfl hv _) rfl (by decide) (Nat.le_of_ble_eq_true rfl)) rfl rfl rfl ?_
  refine me1 (pc' := 61) dm_X2_copyOf_60 rfl rfl rfl rfl ?_
  refine me3 (pc' := 64) dm_X2_copyOf_61 (g_get (v := .ref 131) (le_ (n := 2) (u := 100) (v := 25) (j := 0) hn rfl hv rfl) rfl rfl (Nat.le_of_ble_eq_true rfl)) rfl rfl rfl ?_
  refine me1 (pc' := 65) dm_X2_copyOf_64 rfl rfl rfl rfl ?_
  refine me1 (pc' := 66) dm_X2_copyOf_65 rfl rfl rfl rfl ?_
  refine me3 (pc' := 69) dm_X2_copyOf_66 (g_get (v := .ref 8) (lu (n := 2) (j := 2) hn rfl) rfl rfl (Nat.le_of_ble_eq_true rfl)) rfl rfl rfl ?_
  refine me1 (pc' := 70) dm_X2_copyOf_69 rfl rfl rfl rfl ?_
  refine me3 (pc' := 71) dm_X2_copyOf_70 (g_aald (v := .null) (lu (n := 2) (j := 6) hn rfl) rfl (by decide) rfl (Nat.le_of_ble_eq_true rfl)) rfl rfl rfl ?_
  refine me3 (pc' := 72) dm_X2_copyOf_71 (g_aastn (le_ (n := 2) (u := 100) (v := 25) (j := 4) hn rfl hv rfl) (se (n := 2) (u := 100) (v := 25) (j := 4) hn rfl hv _) rfl (by decide) (Nat.le_of_ble_eq_true rfl)) rfl rfl rfl ?_
  refine me1 (pc' := 75) (L' := [(2, .int (20 : Int32)), (0, .ref 127), (1, .ref 4)]) dm_X2_copyOf_72 rfl rfl rfl rfl ?_
  refine me2 (pc' := 18) dm_X2_copyOf_75 rfl rfl rfl ?_
  refine me1 (pc' := 19) dm_X2_copyOf_18 rfl rfl rfl rfl ?_
  refine me0 (pc' := 21) (S' := .int (40 : Int32) :: _) dm_X2_copyOf_19 rfl rfl rfl rfl ?_
  refine me_2f (pc' := 24) dm_X2_copyOf_21 rfl (by decide) rfl ?_
  refine me1 (pc' := 25) dm_X2_copyOf_24 rfl rfl rfl rfl ?_
  refine me3 (pc' := 28) dm_X2_copyOf_25 (g_get (v := .ref 128) (le_ (n := 2) (u := 100) (v := 25) (j := 0) hn rfl hv rfl) rfl rfl (Nat.le_of_ble_eq_true rfl)) rfl rfl rfl ?_
  refine me1 (pc' := 29) dm_X2_copyOf_28 rfl rfl rfl rfl ?_
  refine me1 (pc' := 30) dm_X2_copyOf_29 rfl rfl rfl rfl ?_
  refine me3 (pc' := 33) dm_X2_copyOf_30 (g_get (v := .ref 5) (lu (n := 2) (j := 2) hn rfl) rfl rfl (Nat.le_of_ble_eq_true rfl)) rfl rfl rfl ?_
  refine me1 (pc' := 34) dm_X2_copyOf_33 rfl rfl rfl rfl ?_
  refine me3 (pc' := 35) dm_X2_copyOf_34 (g_lald (v := (0 : Int64)) (lu (n := 2) (j := 3) hn rfl) rfl (by decide) rfl (Nat.le_of_ble_eq_true rfl)) rfl rfl rfl ?_
  refine me3 (pc' := 36) dm_X2_copyOf_35 (g_last (le_ (n := 2) (u := 100) (v := 25) (j := 1) hn rfl hv rfl) (se (n := 2) (u := 100) (v := 25) (j := 1) hn rfl hv _) rfl (by decide) (Nat.le_of_ble_eq_true rfl)) rfl rfl rfl ?_
  refine me1 (pc' := 37) dm_X2_copyOf_36 rfl rfl rfl rfl ?_
  refine me3 (pc' := 40) dm_X2_copyOf_37 (g_get (v := .ref 129) (le_ (n := 2) (u := 100) (v := 25) (j := 0) hn rfl hv rfl) rfl rfl (Nat.le_of_ble_eq_true rfl)) rfl rfl rfl ?_
  refine me1 (pc' := 41) dm_X2_copyOf_40 rfl rfl rfl rfl ?_
  refine me1 (pc' := 42) dm_X2_copyOf_41 rfl rfl rfl rfl ?_
  refine me3 (pc' := 45) dm_X2_copyOf_42 (g_get (v := .ref 6) (lu (n := 2) (j := 2) hn rfl) rfl rfl (Nat.le_of_ble_eq_true rfl)) rfl rfl rfl ?_
  refine me1 (pc' := 46) dm_X2_copyOf_45 rfl rfl rfl rfl ?_
  refine me3 (pc' := 47) dm_X2_copyOf_46 (g_aald (v := .null) (lu (n := 2) (j := 4) hn rfl) rfl (by decide) rfl (Nat.le_of_ble_eq_true rfl)) rfl rfl rfl ?_
  refine me3 (pc' := 48) dm_X2_copyOf_47 (g_aastn (le_ (n := 2) (u := 100) (v := 25) (j := 2) hn rfl hv rfl) (se (n := 2) (u := 100) (v := 25) (j := 2) hn rfl hv _) rfl (by decide) (Nat.le_of_ble_eq_true rfl)) rfl rfl rfl ?_
  refine me1 (pc' := 49) dm_X2_copyOf_48 rfl rfl rfl rfl ?_
  refine me3 (pc' := 52) dm_X2_copyOf_49 (g_get (v := .ref 130) (le_ (n := 2) (u := 100) (v := 25) (j := 0) hn rfl hv rfl) rfl rfl (Nat.le_of_ble_eq_true rfl)) rfl rfl rfl ?_
  refine me1 (pc' := 53) dm_X2_copyOf_52 rfl rfl rfl rfl ?_
  refine me1 (pc' := 54) dm_X2_copyOf_53 rfl rfl rfl rfl ?_
  refine me3 (pc' := 57) dm_X2_copyOf_54 (g_get (v := .ref 7) (lu (n := 2) (j := 2) hn rfl) rfl rfl (Nat.le_of_ble_eq_true rfl)) rfl rfl rfl ?_
  refine me1 (pc' := 58) dm_X2_copyOf_57 rfl rfl rfl rfl ?_
  refine me3 (pc' := 59) dm_X2_copyOf_58 (g_lald (v := (0 : Int64)) (lu (n := 2) (j := 5) hn rfl) rfl (by decide) rfl (Nat.le_of_ble_eq_true rfl)) rfl rfl rfl ?_
  refine me3 (pc' := 60) dm_X2_copyOf_59 (g_last (le_ (n := 2) (u := 100) (v := 25) (j := 3) hn rfl hv rfl) (se (n := 2) (u := 100) (v := 25) (j := 3) hn rfl hv _) rfl (by decide) (Nat.le_of_ble_eq_true rfl)) rfl rfl rfl ?_
  refine me1 (pc' := 61) dm_X2_copyOf_60 rfl rfl rfl rfl ?_
  refine me3 (pc' := 64) dm_X2_copyOf_61 (g_get (v := .ref 131) (le_ (n := 2) (u := 100) (v := 25) (j := 0) hn rfl hv rfl) rfl rfl (Nat.le_of_ble_eq_true rfl)) rfl rfl rfl ?_
  refine me1 (pc' := 65) dm_X2_copyOf_64 rfl rfl rfl rfl ?_
  refine me1 (pc' := 66) dm_X2_copyOf_65 rfl rfl rfl rfl ?_
  refine me3 (pc' := 69) dm_X2_copyOf_66 (g_get (v := .ref 8) (lu (n := 2) (j := 2) hn rfl) rfl rfl (Nat.le_of_ble_eq_true rfl)) rfl rfl rfl ?_
  refine me1 (pc' := 70) dm_X2_copyOf_69 rfl rfl rfl rfl ?_
  refine me3 (pc' := 71) dm_X2_copyOf_70 (g_aald (v := .null) (lu (n := 2) (j := 6) hn rfl) rfl (by decide) rfl (Nat.le_of_ble_eq_true rfl)) rfl rfl rfl ?_
  refine me3 (pc' := 72) dm_X2_copyOf_71 (g_aastn (le_ (n := 2) (u := 100) (v := 25) (j := 4) hn rfl hv rfl) (se (n := 2) (u := 100) (v := 25) (j := 4) hn rfl hv _) rfl (by decide) (Nat.le_of_ble_eq_true rfl)) rfl rfl rfl ?_
  refine me1 (pc' := 75) (L' := [(2, .int (21 : Int32)), (0, .ref 127), (1, .ref 4)]) dm_X2_copyOf_72 rfl rfl rfl rfl ?_
  refine me2 (pc' := 18) dm_X2_copyOf_75 rfl rfl rfl ?_
  refine me1 (pc' := 19) dm_X2_copyOf_18 rfl rfl rfl rfl ?_
  refine me0 (pc' := 21) (S' := .int (40 : Int32) :: _) dm_X2_copyOf_19 rfl rfl rfl rfl ?_
  refine me_2f (pc' := 24) dm_X2_copyOf_21 rfl (by decide) rfl ?_
  refine me1 (pc' := 25) dm_X2_copyOf_24 rfl rfl rfl rfl ?_
  refine me3 (pc' := 28) dm_X2_copyOf_25 (g_get (v := .ref 128) (le_ (n := 2) (u := 100) (v := 25) (j := 0) hn rfl hv rfl) rfl rfl (Nat.le_of_ble_eq_true rfl)) rfl rfl rfl ?_
  refine me1 (pc' := 29) dm_X2_copyOf_28 rfl rfl rfl rfl ?_
  refine me1 (pc' := 30) dm_X2_copyOf_29 rfl rfl rfl rfl ?_
  refine me3 (pc' := 33) dm_X2_copyOf_30 (g_get (v := .ref 5) (lu (n := 2) (j := 2) hn rfl) rfl rfl (Nat.le_of_ble_eq_true rfl)) rfl rfl rfl ?_
  refine me1 (pc' := 34) dm_X2_copyOf_33 rfl rfl rfl rfl ?_
  refine me3 (pc' := 35) dm_X2_copyOf_34 (g_lald (v := (0 : Int64)) (lu (n := 2) (j := 3) hn rfl) rfl (by decide) rfl (Nat.le_of_ble_eq_true rfl)) rfl rfl rfl ?_
  refine me3 (pc' := 36) dm_X2_copyOf_35 (g_last (le_ (n := 2) (u := 100) (v := 25) (j := 1) hn rfl hv rfl) (se (n := 2) (u := 100) (v := 25) (j := 1) hn rfl hv _) rfl (by decide) (Nat.le_of_ble_eq_true rfl)) rfl rfl rfl ?_
  refine me1 (pc' := 37) dm_X2_copyOf_36 rfl rfl rfl rfl ?_
  refine me3 (pc' := 40) dm_X2_copyOf_37 (g_get (v := .ref 129) (le_ (n := 2) (u := 100) (v := 25) (j := 0) hn rfl hv rfl) rfl rfl (Nat.le_of_ble_eq_true rfl)) rfl rfl rfl ?_
  refine me1 (pc' := 41) dm_X2_copyOf_40 rfl rfl rfl rfl ?_
  refine me1 (pc' := 42) dm_X2_copyOf_41 rfl rfl rfl rfl ?_
  refine me3 (pc' := 45) dm_X2_copyOf_42 (g_get (v := .ref 6) (lu (n := 2) (j := 2) hn rfl) rfl rfl (Nat.le_of_ble_eq_true rfl)) rfl rfl rfl ?_
  refine me1 (pc' := 46) dm_X2_copyOf_45 rfl rfl rfl rfl ?_
  refine me3 (pc' := 47) dm_X2_copyOf_46 (g_aald (v := .null) (lu (n := 2) (j := 4) hn rfl) rfl (by decide) rfl (Nat.le_of_ble_eq_true rfl)) rfl rfl rfl ?_
  refine me3 (pc' := 48) dm_X2_copyOf_47 (g_aastn (le_ (n := 2) (u := 100) (v := 25) (j := 2) hn rfl hv rfl) (se (n := 2) (u := 100) (v := 25) (j := 2) hn rfl hv _) rfl (by decide) (Nat.le_of_ble_eq_true rfl)) rfl rfl rfl ?_
  refine me1 (pc' := 49) dm_X2_copyOf_48 rfl rfl rfl rfl ?_
  refine me3 (pc' := 52) dm_X2_copyOf_49 (g_get (v := .ref 130) (le_ (n := 2) (u := 100) (v := 25) (j := 0) hn rfl hv rfl) rfl rfl (Nat.le_of_ble_eq_true rfl)) rfl rfl rfl ?_
  refine me1 (pc' := 53) dm_X2_copyOf_52 rfl rfl rfl rfl ?_
  refine me1 (pc' := 54) dm_X2_copyOf_53 rfl rfl rfl rfl ?_
  refine me3 (pc' := 57) dm_X2_copyOf_54 (g_get (v := .ref 7) (lu (n := 2) (j := 2) hn rfl) rfl rfl (Nat.le_of_ble_eq_true rfl)) rfl rfl rfl ?_
  refine me1 (pc' := 58) dm_X2_copyOf_57 rfl rfl rfl rfl ?_
  refine me3 (pc' := 59) dm_X2_copyOf_58 (g_lald (v := (0 : Int64)) (lu (n := 2) (j := 5) hn rfl) rfl (by decide) rfl (Nat.le_of_ble_eq_true rfl)) rfl rfl rfl ?_
  refine me3 (pc' := 60) dm_X2_copyOf_59 (g_last (le_ (n := 2) (u := 100) (v := 25) (j := 3) hn rfl hv rfl) (se (n := 2) (u := 100) (v := 25) (j := 3) hn rfl hv _) rfl (by decide) (Nat.le_of_ble_eq_true rfl)) rfl rfl rfl ?_
  refine me1 (pc' := 61) dm_X2_copyOf_60 rfl rfl rfl rfl ?_
  refine me3 (pc' := 64) dm_X2_copyOf_61 (g_get (v := .ref 131) (le_ (n := 2) (u := 100) (v := 25) (j := 0) hn rfl hv rfl) rfl rfl (Nat.le_of_ble_eq_true rfl)) rfl rfl rfl ?_
  refine me1 (pc' := 65) dm_X2_copyOf_64 rfl rfl rfl rfl ?_
  refine me1 (pc' := 66) dm_X2_copyOf_65 rfl rfl rfl rfl ?_
  refine me3 (pc' := 69) dm_X2_copyOf_66 (g_get (v := .ref 8) (lu (n := 2) (j := 2) hn rfl) rfl rfl (Nat.le_of_ble_eq_true rfl)) rfl rfl rfl ?_
  refine me1 (pc' := 70) dm_X2_copyOf_69 rfl rfl rfl rfl ?_
  refine me3 (pc' := 71) dm_X2_copyOf_70 (g_aald (v := .null) (lu (n := 2) (j := 6) hn rfl) rfl (by decide) rfl (Nat.le_of_ble_eq_true rfl)) rfl rfl rfl ?_
  refine me3 (pc' := 72) dm_X2_copyOf_71 (g_aastn (le_ (n := 2) (u := 100) (v := 25) (j := 4) hn rfl hv rfl) (se (n := 2) (u := 100) (v := 25) (j := 4) hn rfl hv _) rfl (by decide) (Nat.le_of_ble_eq_true rfl)) rfl rfl rfl ?_
  refine me1 (pc' := 75) (L' := [(2, .int (22 : Int32)), (0, .ref 127), (1, .ref 4)]) dm_X2_copyOf_72 rfl rfl rfl rfl ?_
  refine me2 (pc' := 18) dm_X2_copyOf_75 rfl rfl rfl ?_
  refine me1 (pc' := 19) dm_X2_copyOf_18 rfl rfl rfl rfl ?_
  refine me0 (pc' := 21) (S' := .int (40 : Int32) :: _) dm_X2_copyOf_19 rfl rfl rfl rfl ?_
  refine me_2f (pc' := 24) dm_X2_copyOf_21 rfl (by decide) rfl ?_
  refine me1 (pc' := 25) dm_X2_copyOf_24 rfl rfl rfl rfl ?_
  refine me3 (pc' := 28) dm_X2_copyOf_25 (g_get (v := .ref 128) (le_ (n := 2) (u := 100) (v := 25) (j := 0) hn rfl hv rfl) rfl rfl (Nat.le_of_ble_eq_true rfl)) rfl rfl rfl ?_
  refine me1 (pc' := 29) dm_X2_copyOf_28 rfl rfl rfl rfl ?_
  refine me1 (pc' := 30) dm_X2_copyOf_29 rfl rfl rfl rfl ?_
  refine me3 (pc' := 33) dm_X2_copyOf_30 (g_get (v := .ref 5) (lu (n := 2) (j := 2) hn rfl) rfl rfl (Nat.le_of_ble_eq_true rfl)) rfl rfl rfl ?_
  refine me1 (pc' := 34) dm_X2_copyOf_33 rfl rfl rfl rfl ?_
  refine me3 (pc' := 35) dm_X2_copyOf_34 (g_lald (v := (0 : Int64)) (lu (n := 2) (j := 3) hn rfl) rfl (by decide) rfl (Nat.le_of_ble_eq_true rfl)) rfl rfl rfl ?_
  refine me3 (pc' := 36) dm_X2_copyOf_35 (g_last (le_ (n := 2) (u := 100) (v := 25) (j := 1) hn rfl hv rfl) (se (n := 2) (u := 100) (v := 25) (j := 1) hn rfl hv _) rfl (by decide) (Nat.le_of_ble_eq_true rfl)) rfl rfl rfl ?_
  refine me1 (pc' := 37) dm_X2_copyOf_36 rfl rfl rfl rfl ?_
  refine me3 (pc' := 40) dm_X2_copyOf_37 (g_get (v := .ref 129) (le_ (n := 2) (u := 100) (v := 25) (j := 0) hn rfl hv rfl) rfl rfl (Nat.le_of_ble_eq_true rfl)) rfl rfl rfl ?_
  refine me1 (pc' := 41) dm_X2_copyOf_40 rfl rfl rfl rfl ?_
  refine me1 (pc' := 42) dm_X2_copyOf_41 rfl rfl rfl rfl ?_
  refine me3 (pc' := 45) dm_X2_copyOf_42 (g_get (v := .ref 6) (lu (n := 2) (j := 2) hn rfl) rfl rfl (Nat.le_of_ble_eq_true rfl)) rfl rfl rfl ?_
  refine me1 (pc' := 46) dm_X2_copyOf_45 rfl rfl rfl rfl ?_
  refine me3 (pc' := 47) dm_X2_copyOf_46 (g_aald (v := .null) (lu (n := 2) (j := 4) hn rfl) rfl (by decide) rfl (Nat.le_of_ble_eq_true rfl)) rfl rfl rfl ?_
  refine me3 (pc' := 48) dm_X2_copyOf_47 (g_aastn (le_ (n := 2) (u := 100) (v := 25) (j := 2) hn rfl hv rfl) (se (n := 2) (u := 100) (v := 25) (j := 2) hn rfl hv _) rfl (by decide) (Nat.le_of_ble_eq_true rfl)) rfl rfl rfl ?_
  refine me1 (pc' := 49) dm_X2_copyOf_48 rfl rfl rfl rfl ?_
  refine me3 (pc' := 52) dm_X2_copyOf_49 (g_get (v := .ref 130) (le_ (n := 2) (u := 100) (v := 25) (j := 0) hn rfl hv rfl) rfl rfl (Nat.le_of_ble_eq_true rfl)) rfl rfl rfl ?_
  refine me1 (pc' := 53) dm_X2_copyOf_52 rfl rfl rfl rfl ?_
  refine me1 (pc' := 54) dm_X2_copyOf_53 rfl rfl rfl rfl ?_
  refine me3 (pc' := 57) dm_X2_copyOf_54 (g_get (v := .ref 7) (lu (n := 2) (j := 2) hn rfl) rfl rfl (Nat.le_of_ble_eq_true rfl)) rfl rfl rfl ?_
  refine me1 (pc' := 58) dm_X2_copyOf_57 rfl rfl rfl rfl ?_
  refine me3 (pc' := 59) dm_X2_copyOf_58 (g_lald (v := (0 : Int64)) (lu (n := 2) (j := 5) hn rfl) rfl (by decide) rfl (Nat.le_of_ble_eq_true rfl)) rfl rfl rfl ?_
  refine me3 (pc' := 60) dm_X2_copyOf_59 (g_last (le_ (n := 2) (u := 100) (v := 25) (j := 3) hn rfl hv rfl) (se (n := 2) (u := 100) (v := 25) (j := 3) hn rfl hv _) rfl (by decide) (Nat.le_of_ble_eq_true rfl)) rfl rfl rfl ?_
  refine me1 (pc' := 61) dm_X2_copyOf_60 rfl rfl rfl rfl ?_
  refine me3 (pc' := 64) dm_X2_copyOf_61 (g_get (v := .ref 131) (le_ (n := 2) (u := 100) (v := 25) (j := 0) hn rfl hv rfl) rfl rfl (Nat.le_of_ble_eq_true rfl)) rfl rfl rfl ?_
  refine me1 (pc' := 65) dm_X2_copyOf_64 rfl rfl rfl rfl ?_
  refine me1 (pc' := 66) dm_X2_copyOf_65 rfl rfl rfl rfl ?_
  refine me3 (pc' := 69) dm_X2_copyOf_66 (g_get (v := .ref 8) (lu (n := 2) (j := 2) hn rfl) rfl rfl (Nat.le_of_ble_eq_true rfl)) rfl rfl rfl ?_
  refine me1 (pc' := 70) dm_X2_copyOf_69 rfl rfl rfl rfl ?_
  refine me3 (pc' := 71) dm_X2_copyOf_70 (g_aald (v := .null) (lu (n := 2) (j := 6) hn rfl) rfl (by decide) rfl (Nat.le_of_ble_eq_true rfl)) rfl rfl rfl ?_
  refine me3 (pc' := 72) dm_X2_copyOf_71 (g_aastn (le_ (n := 2) (u := 100) (v := 25) (j := 4) hn rfl hv rfl) (se (n := 2) (u := 100) (v := 25) (j := 4) hn rfl hv _) rfl (by decide) (Nat.le_of_ble_eq_true rfl)) rfl rfl rfl ?_
  refine me1 (pc' := 75) (L' := [(2, .int (23 : Int32)), (0, .ref 127), (1, .ref 4)]) dm_X2_copyOf_72 rfl rfl rfl rfl ?_
  refine me2 (pc' := 18) dm_X2_copyOf_75 rfl rfl rfl ?_
  refine me1 (pc' := 19) dm_X2_copyOf_18 rfl rfl rfl rfl ?_
  refine me0 (pc' := 21) (S' := .int (40 : Int32) :: _) dm_X2_copyOf_19 rfl rfl rfl rfl ?_
  refine me_2f (pc' := 24) dm_X2_copyOf_21 rfl (by decide) rfl ?_
  refine me1 (pc' := 25) dm_X2_copyOf_24 rfl rfl rfl rfl ?_
  refine me3 (pc' := 28) dm_X2_copyOf_25 (g_get (v := .ref 128) (le_ (n := 2) (u := 100) (v := 25) (j := 0) hn rfl hv rfl) rfl rfl (Nat.le_of_ble_eq_true rfl)) rfl rfl rfl ?_
  refine me1 (pc' := 29) dm_X2_copyOf_28 rfl rfl rfl rfl ?_
  refine me1 (pc' := 30) dm_X2_copyOf_29 rfl rfl rfl rfl ?_
  refine me3 (pc' := 33) dm_X2_copyOf_30 (g_get (v := .ref 5) (lu (n := 2) (j := 2) hn rfl) rfl rfl (Nat.le_of_ble_eq_true rfl)) rfl rfl rfl ?_
  refine me1 (pc' := 34) dm_X2_copyOf_33 rfl rfl rfl rfl ?_
  refine me3 (pc' := 35) dm_X2_copyOf_34 (g_lald (v := (0 : Int64)) (lu (n := 2) (j := 3) hn rfl) rfl (by decide) rfl (Nat.le_of_ble_eq_true rfl)) rfl rfl rfl ?_
  refine me3 (pc' := 36) dm_X2_copyOf_35 (g_last (le_ (n := 2) (u := 100) (v := 25) (j := 1) hn rfl hv rfl) (se (n := 2) (u := 100) (v := 25) (j := 1) hn rfl hv _) rfl (by decide) (Nat.le_of_ble_eq_true rfl)) rfl rfl rfl ?_
  refine me1 (pc' := 37) dm_X2_copyOf_36 rfl rfl rfl rfl ?_
  refine me3 (pc' := 40) dm_X2_copyOf_37 (g_get (v := .ref 129) (le_ (n := 2) (u := 100) (v := 25) (j := 0) hn rfl hv rfl) rfl rfl (Nat.le_of_ble_eq_true rfl)) rfl rfl rfl ?_
  refine me1 (pc' := 41) dm_X2_copyOf_40 rfl rfl rfl rfl ?_
  refine me1 (pc' := 42) dm_X2_copyOf_41 rfl rfl rfl rfl ?_
  refine me3 (pc' := 45) dm_X2_copyOf_42 (g_get (v := .ref 6) (lu (n := 2) (j := 2) hn rfl) rfl rfl (Nat.le_of_ble_eq_true rfl)) rfl rfl rfl ?_
  refine me1 (pc' := 46) dm_X2_copyOf_45 rfl rfl rfl rfl ?_
  refine me3 (pc' := 47) dm_X2_copyOf_46 (g_aald (v := .null) (lu (n := 2) (j := 4) hn rfl) rfl (by decide) rfl (Nat.le_of_ble_eq_true rfl)) rfl rfl rfl ?_
  refine me3 (pc' := 48) dm_X2_copyOf_47 (g_aastn (le_ (n := 2) (u := 100) (v := 25) (j := 2) hn rfl hv rfl) (se (n := 2) (u := 100) (v := 25) (j := 2) hn rfl hv _) rfl (by decide) (Nat.le_of_ble_eq_true rfl)) rfl rfl rfl ?_
  refine me1 (pc' := 49) dm_X2_copyOf_48 rfl rfl rfl rfl ?_
  refine me3 (pc' := 52) dm_X2_copyOf_49 (g_get (v := .ref 130) (le_ (n := 2) (u := 100) (v := 25) (j := 0) hn rfl hv rfl) rfl rfl (Nat.le_of_ble_eq_true rfl)) rfl rfl rfl ?_
  refine me1 (pc' := 53) dm_X2_copyOf_52 rfl rfl rfl rfl ?_
  refine me1 (pc' := 54) dm_X2_copyOf_53 rfl rfl rfl rfl ?_
  refine me3 (pc' := 57) dm_X2_copyOf_54 (g_get (v := .ref 7) (lu (n := 2) (j := 2) hn rfl) rfl rfl (Nat.le_of_ble_eq_true rfl)) rfl rfl rfl ?_
  refine me1 (pc' := 58) dm_X2_copyOf_57 rfl rfl rfl rfl ?_
  refine me3 (pc' := 59) dm_X2_copyOf_58 (g_lald (v := (0 : Int64)) (lu (n := 2) (j := 5) hn rfl) rfl (by decide) rfl (Nat.le_of_ble_eq_true rfl)) rfl rfl rfl ?_
  refine me3 (pc' := 60) dm_X2_copyOf_59 (g_last (le_ (n := 2) (u := 100) (v := 25) (j := 3) hn rfl hv rfl) (se (n := 2) (u := 100) (v := 25) (j := 3) hn rfl hv _) rfl (by decide) (Nat.le_of_ble_eq_true rfl)) rfl rfl rfl ?_
  refine me1 (pc' := 61) dm_X2_copyOf_60 rfl rfl rfl rfl ?_
  refine me3 (pc' := 64) dm_X2_copyOf_61 (g_get (v := .ref 131) (le_ (n := 2) (u := 100) (v := 25) (j := 0) hn rfl hv rfl) rfl rfl (Nat.le_of_ble_eq_true rfl)) rfl rfl rfl ?_
  refine me1 (pc' := 65) dm_X2_copyOf_64 rfl rfl rfl rfl ?_
  refine me1 (pc' := 66) dm_X2_copyOf_65 rfl rfl rfl rfl ?_
  refine me3 (pc' := 69) dm_X2_copyOf_66 (g_get (v := .ref 8) (lu (n := 2) (j := 2) hn rfl) rfl rfl (Nat.le_of_ble_eq_true rfl)) rfl rfl rfl ?_
  refine me1 (pc' := 70) dm_X2_copyOf_69 rfl rfl rfl rfl ?_
  refine me3 (pc' := 71) dm_X2_copyOf_70 (g_aald (v := .null) (lu (n := 2) (j := 6) hn rfl) rfl (by decide) rfl (Nat.le_of_ble_eq_true rfl)) rfl rfl rfl ?_
  refine me3 (pc' := 72) dm_X2_copyOf_71 (g_aastn (le_ (n := 2) (u := 100) (v := 25) (j := 4) hn rfl hv rfl) (se (n := 2) (u := 100) (v := 25) (j := 4) hn rfl hv _) rfl (by decide) (Nat.le_of_ble_eq_true rfl)) rfl rfl rfl ?_
  refine me1 (pc' := 75) (L' := [(2, .int (24 : Int32)), (0, .ref 127), (1, .ref 4)]) dm_X2_copyOf_72 rfl rfl rfl rfl ?_
  refine me2 (pc' := 18) dm_X2_copyOf_75 rfl rfl rfl ?_
  refine me1 (pc' := 19) dm_X2_copyOf_18 rfl rfl rfl rfl ?_
  refine me0 (pc' := 21) (S' := .int (40 : Int32) :: _) dm_X2_copyOf_19 rfl rfl rfl rfl ?_
  refine me_2f (pc' := 24) dm_X2_copyOf_21 rfl (by decide) rfl ?_
  refine me1 (pc' := 25) dm_X2_copyOf_24 rfl rfl rfl rfl ?_
  refine me3 (pc' := 28) dm_X2_copyOf_25 (g_get (v := .ref 128) (le_ (n := 2) (u := 100) (v := 25) (j := 0) hn rfl hv rfl) rfl rfl (Nat.le_of_ble_eq_true rfl)) rfl rfl rfl ?_
  refine me1 (pc' := 29) dm_X2_copyOf_28 rfl rfl rfl rfl ?_
  refine me1 (pc' := 30) dm_X2_copyOf_29 rfl rfl rfl rfl ?_
  refine me3 (pc' := 33) dm_X2_copyOf_30 (g_get (v := .ref 5) (lu (n := 2) (j := 2) hn rfl) rfl rfl (Nat.le_of_ble_eq_true rfl)) rfl rfl rfl ?_
  refine me1 (pc' := 34) dm_X2_copyOf_33 rfl rfl rfl rfl ?_
  refine me3 (pc' := 35) dm_X2_copyOf_34 (g_lald (v := (0 : Int64)) (lu (n := 2) (j := 3) hn rfl) rfl (by decide) rfl (Nat.le_of_ble_eq_true rfl)) rfl rfl rfl ?_
  refine me3 (pc' := 36) dm_X2_copyOf_35 (g_last (le_ (n := 2) (u := 100) (v := 25) (j := 1) hn rfl hv rfl) (se (n := 2) (u := 100) (v := 25) (j := 1) hn rfl hv _) rfl (by decide) (Nat.le_of_ble_eq_true rfl)) rfl rfl rfl ?_
  refine me1 (pc' := 37) dm_X2_copyOf_36 rfl rfl rfl rfl ?_
  refine me3 (pc' := 40) dm_X2_copyOf_37 (g_get (v := .ref 129) (le_ (n := 2) (u := 100) (v := 25) (j := 0) hn rfl hv rfl) rfl rfl (Nat.le_of_ble_eq_true rfl)) rfl rfl rfl ?_
  refine me1 (pc' := 41) dm_X2_copyOf_40 rfl rfl rfl rfl ?_
  refine me1 (pc' := 42) dm_X2_copyOf_41 rfl rfl rfl rfl ?_
  refine me3 (pc' := 45) dm_X2_copyOf_42 (g_get (v := .ref 6) (lu (n := 2) (j := 2) hn rfl) rfl rfl (Nat.le_of_ble_eq_true rfl)) rfl rfl rfl ?_
  refine me1 (pc' := 46) dm_X2_copyOf_45 rfl rfl rfl rfl ?_
  refine me3 (pc' := 47) dm_X2_copyOf_46 (g_aald (v := .null) (lu (n := 2) (j := 4) hn rfl) rfl (by decide) rfl (Nat.le_of_ble_eq_true rfl)) rfl rfl rfl ?_
  refine me3 (pc' := 48) dm_X2_copyOf_47 (g_aastn (le_ (n := 2) (u := 100) (v := 25) (j := 2) hn rfl hv rfl) (se (n := 2) (u := 100) (v := 25) (j := 2) hn rfl hv _) rfl (by decide) (Nat.le_of_ble_eq_true rfl)) rfl rfl rfl ?_
  refine me1 (pc' := 49) dm_X2_copyOf_48 rfl rfl rfl rfl ?_
  refine me3 (pc' := 52) dm_X2_copyOf_49 (g_get (v := .ref 130) (le_ (n := 2) (u := 100) (v := 25) (j := 0) hn rfl hv rfl) rfl rfl (Nat.le_of_ble_eq_true rfl)) rfl rfl rfl ?_
  refine me1 (pc' := 53) dm_X2_copyOf_52 rfl rfl rfl rfl ?_
  refine me1 (pc' := 54) dm_X2_copyOf_53 rfl rfl rfl rfl ?_
  refine me3 (pc' := 57) dm_X2_copyOf_54 (g_get (v := .ref 7) (lu (n := 2) (j := 2) hn rfl) rfl rfl (Nat.le_of_ble_eq_true rfl)) rfl rfl rfl ?_
  refine me1 (pc' := 58) dm_X2_copyOf_57 rfl rfl rfl rfl ?_
  refine me3 (pc' := 59) dm_X2_copyOf_58 (g_lald (v := (0 : Int64)) (lu (n := 2) (j := 5) hn rfl) rfl (by decide) rfl (Nat.le_of_ble_eq_true rfl)) rfl rfl rfl ?_
  refine me3 (pc' := 60) dm_X2_copyOf_59 (g_last (le_ (n := 2) (u := 100) (v := 25) (j := 3) hn rfl hv rfl) (se (n := 2) (u := 100) (v := 25) (j := 3) hn rfl hv _) rfl (by decide) (Nat.le_of_ble_eq_true rfl)) rfl rfl rfl ?_
  refine me1 (pc' := 61) dm_X2_copyOf_60 rfl rfl rfl rfl ?_
  refine me3 (pc' := 64) dm_X2_copyOf_61 (g_get (v := .ref 131) (le_ (n := 2) (u := 100) (v := 25) (j := 0) hn rfl hv rfl) rfl rfl (Nat.le_of_ble_eq_true rfl)) rfl rfl rfl ?_
  refine me1 (pc' := 65) dm_X2_copyOf_64 rfl rfl rfl rfl ?_
  refine me1 (pc' := 66) dm_X2_copyOf_65 rfl rfl rfl rfl ?_
  refine me3 (pc' := 69) dm_X2_copyOf_66 (g_get (v := .ref 8) (lu (n := 2) (j := 2) hn rfl) rfl rfl (Nat.le_of_ble_eq_true rfl)) rfl rfl rfl ?_
  refine me1 (pc' := 70) dm_X2_copyOf_69 rfl rfl rfl rfl ?_
  refine me3 (pc' := 71) dm_X2_copyOf_70 (g_aald (v := .null) (lu (n := 2) (j := 6) hn rfl) rfl (by decide) rfl (Nat.le_of_ble_eq_true rfl)) rfl rfl rfl ?_
  refine me3 (pc' := 72) dm_X2_copyOf_71 (g_aastn (le_ (n := 2) (u := 100) (v := 25) (j := 4) hn rfl hv rfl) (se (n := 2) (u := 100) (v := 25) (j := 4) hn rfl hv _) rfl (by decide) (Nat.le_of_ble_eq_true rfl)) rfl rfl rfl ?_
  refine me1 (pc' := 75) (L' := [(2, .int (25 : Int32)), (0, .ref 127), (1, .ref 4)]) dm_X2_copyOf_72 rfl rfl rfl rfl ?_
  refine me2 (pc' := 18) dm_X2_copyOf_75 rfl rfl rfl ?_
  refine me1 (pc' := 19) dm_X2_copyOf_18 rfl rfl rfl rfl ?_
  refine me0 (pc' := 21) (S' := .int (40 : Int32) :: _) dm_X2_copyOf_19 rfl rfl rfl rfl ?_
  refine me_2f (pc' := 24) dm_X2_copyOf_21 rfl (by decide) rfl ?_
  refine me1 (pc' := 25) dm_X2_copyOf_24 rfl rfl rfl rfl ?_
  refine me3 (pc' := 28) dm_X2_copyOf_25 (g_get (v := .ref 128) (le_ (n := 2) (u := 100) (v := 25) (j := 0) hn rfl hv rfl) rfl rfl (Nat.le_of_ble_eq_true rfl)) rfl rfl rfl ?_
  refine me1 (pc' := 29) dm_X2_copyOf_28 rfl rfl rfl rfl ?_
  refine me1 (pc' := 30) dm_X2_copyOf_29 rfl rfl rfl rfl ?_
  refine me3 (pc' := 33) dm_X2_copyOf_30 (g_get (v := .ref 5) (lu (n := 2) (j := 2) hn rfl) rfl rfl (Nat.le_of_ble_eq_true rfl)) rfl rfl rfl ?_
  refine me1 (pc' := 34) dm_X2_copyOf_33 rfl rfl rfl rfl ?_
  refine me3 (pc' := 35) dm_X2_copyOf_34 (g_lald (v := (0 : Int64)) (lu (n := 2) (j := 3) hn rfl) rfl (by decide) rfl (Nat.le_of_ble_eq_true rfl)) rfl rfl rfl ?_
  refine me3 (pc' := 36) dm_X2_copyOf_35 (g_last (le_ (n := 2) (u := 100) (v := 25) (j := 1) hn rfl hv rfl) (se (n := 2) (u := 100) (v := 25) (j := 1) hn rfl hv _) rfl (by decide) (Nat.le_of_ble_eq_true rfl)) rfl rfl rfl ?_
  refine me1 (pc' := 37) dm_X2_copyOf_36 rfl rfl rfl rfl ?_
  refine me3 (pc' := 40) dm_X2_copyOf_37 (g_get (v := .ref 129) (le_ (n := 2) (u := 100) (v := 25) (j := 0) hn rfl hv rfl) rfl rfl (Nat.le_of_ble_eq_true rfl)) rfl rfl rfl ?_
  refine me1 (pc' := 41) dm_X2_copyOf_40 rfl rfl rfl rfl ?_
  refine me1 (pc' := 42) dm_X2_copyOf_41 rfl rfl rfl rfl ?_
  refine me3 (pc' := 45) dm_X2_copyOf_42 (g_get (v := .ref 6) (lu (n := 2) (j := 2) hn rfl) rfl rfl (Nat.le_of_ble_eq_true rfl)) rfl rfl rfl ?_
  refine me1 (pc' := 46) dm_X2_copyOf_45 rfl rfl rfl rfl ?_
  refine me3 (pc' := 47) dm_X2_copyOf_46 (g_aald (v := .null) (lu (n := 2) (j := 4) hn rfl) rfl (by decide) rfl (Nat.le_of_ble_eq_true rfl)) rfl rfl rfl ?_
  refine me3 (pc' := 48) dm_X2_copyOf_47 (g_aastn (le_ (n := 2) (u := 100) (v := 25) (j := 2) hn rfl hv rfl) (se (n := 2) (u := 100) (v := 25) (j := 2) hn rfl hv _) rfl (by decide) (Nat.le_of_ble_eq_true rfl)) rfl rfl rfl ?_
  refine me1 (pc' := 49) dm_X2_copyOf_48 rfl rfl rfl rfl ?_
  refine me3 (pc' := 52) dm_X2_copyOf_49 (g_get (v := .ref 130) (le_ (n := 2) (u := 100) (v := 25) (j := 0) hn rfl hv rfl) rfl rfl (Nat.le_of_ble_eq_true rfl)) rfl rfl rfl ?_
  refine me1 (pc' := 53) dm_X2_copyOf_52 rfl rfl rfl rfl ?_
  refine me1 (pc' := 54) dm_X2_copyOf_53 rfl rfl rfl rfl ?_
  refine me3 (pc' := 57) dm_X2_copyOf_54 (g_get (v := .ref 7) (lu (n := 2) (j := 2) hn rfl) rfl rfl (Nat.le_of_ble_eq_true rfl)) rfl rfl rfl ?_
  refine me1 (pc' := 58) dm_X2_copyOf_57 rfl rfl rfl rfl ?_
  refine me3 (pc' := 59) dm_X2_copyOf_58 (g_lald (v := (0 : Int64)) (lu (n := 2) (j := 5) hn rfl) rfl (by decide) rfl (Nat.le_of_ble_eq_true rfl)) rfl rfl rfl ?_
  refine me3 (pc' := 60) dm_X2_copyOf_59 (g_last (le_ (n := 2) (u := 100) (v := 25) (j := 3) hn rfl hv rfl) (se (n := 2) (u := 100) (v := 25) (j := 3) hn rfl hv _) rfl (by decide) (Nat.le_of_ble_eq_true rfl)) rfl rfl rfl ?_
  refine me1 (pc' := 61) dm_X2_copyOf_60 rfl rfl rfl rfl ?_
  refine me3 (pc' := 64) dm_X2_copyOf_61 (g_get (v := .ref 131) (le_ (n := 2) (u := 100) (v := 25) (j := 0) hn rfl hv rfl) rfl rfl (Nat.le_of_ble_eq_true rfl)) rfl rfl rfl ?_
  refine me1 (pc' := 65) dm_X2_copyOf_64 rfl rfl rfl rfl ?_
  refine me1 (pc' := 66) dm_X2_copyOf_65 rfl rfl rfl rfl ?_
  refine me3 (pc' := 69) dm_X2_copyOf_66 (g_get (v := .ref 8) (lu (n := 2) (j := 2) hn rfl) rfl rfl (Nat.le_of_ble_eq_true rfl)) rfl rfl rfl ?_
  refine me1 (pc' := 70) dm_X2_copyOf_69 rfl rfl rfl rfl ?_
  refine me3 (pc' := 71) dm_X2_copyOf_70 (g_aald (v := .null) (lu (n := 2) (j := 6) hn rfl) rfl (by decide) rfl (Nat.le_of_ble_eq_true rfl)) rfl rfl rfl ?_
  refine me3 (pc' := 72) dm_X2_copyOf_71 (g_aastn (le_ (n := 2) (u := 100) (v := 25) (j := 4) hn rfl hv rfl) (se (n := 2) (u := 100) (v := 25) (j := 4) hn rfl hv _) rfl (by decide) (Nat.le_of_ble_eq_true rfl)) rfl rfl rfl ?_
  refine me1 (pc' := 75) (L' := [(2, .int (26 : Int32)), (0, .ref 127), (1, .ref 4)]) dm_X2_copyOf_72 rfl rfl rfl rfl ?_
  refine me2 (pc' := 18) dm_X2_copyOf_75 rfl rfl rfl ?_
  refine me1 (pc' := 19) dm_X2_copyOf_18 rfl rfl rfl rfl ?_
  refine me0 (pc' := 21) (S' := .int (40 : Int32) :: _) dm_X2_copyOf_19 rfl rfl rfl rfl ?_
  refine me_2f (pc' := 24) dm_X2_copyOf_21 rfl (by decide) rfl ?_
  refine me1 (pc' := 25) dm_X2_copyOf_24 rfl rfl rfl rfl ?_
  refine me3 (pc' := 28) dm_X2_copyOf_25 (g_get (v := .ref 128) (le_ (n := 2) (u := 100) (v := 25) (j := 0) hn rfl hv rfl) rfl rfl (Nat.le_of_ble_eq_true rfl)) rfl rfl rfl ?_
  refine me1 (pc' := 29) dm_X2_copyOf_28 rfl rfl rfl rfl ?_
  refine me1 (pc' := 30) dm_X2_copyOf_29 rfl rfl rfl rfl ?_
  refine me3 (pc' := 33) dm_X2_copyOf_30 (g_get (v := .ref 5) (lu (n := 2) (j := 2) hn rfl) rfl rfl (Nat.le_of_ble_eq_true rfl)) rfl rfl rfl ?_
  refine me1 (pc' := 34) dm_X2_copyOf_33 rfl rfl rfl rfl ?_
  refine me3 (pc' := 35) dm_X2_copyOf_34 (g_lald (v := (0 : Int64)) (lu (n := 2) (j := 3) hn rfl) rfl (by decide) rfl (Nat.le_of_ble_eq_true rfl)) rfl rfl rfl ?_
  refine me3 (pc' := 36) dm_X2_copyOf_35 (g_last (le_ (n := 2) (u := 100) (v := 25) (j := 1) hn rfl hv rfl) (se (n := 2) (u := 100) (v := 25) (j := 1) hn rfl hv _) rfl (by decide) (Nat.le_of_ble_eq_true rfl)) rfl rfl rfl ?_
  refine me1 (pc' := 37) dm_X2_copyOf_36 rfl rfl rfl rfl ?_
  refine me3 (pc' := 40) dm_X2_copyOf_37 (g_get (v := .ref 129) (le_ (n := 2) (u := 100) (v := 25) (j := 0) hn rfl hv rfl) rfl rfl (Nat.le_of_ble_eq_true rfl)) rfl rfl rfl ?_
  refine me1 (pc' := 41) dm_X2_copyOf_40 rfl rfl rfl rfl ?_
  refine me1 (pc' := 42) dm_X2_copyOf_41 rfl rfl rfl rfl ?_
  refine me3 (pc' := 45) dm_X2_copyOf_42 (g_get (v := .ref 6) (lu (n := 2) (j := 2) hn rfl) rfl rfl (Nat.le_of_ble_eq_true rfl)) rfl rfl rfl ?_
  refine me1 (pc' := 46) dm_X2_copyOf_45 rfl rfl rfl rfl ?_
  refine me3 (pc' := 47) dm_X2_copyOf_46 (g_aald (v := .null) (lu (n := 2) (j := 4) hn rfl) rfl (by decide) rfl (Nat.le_of_ble_eq_true rfl)) rfl rfl rfl ?_
  refine me3 (pc' := 48) dm_X2_copyOf_47 (g_aastn (le_ (n := 2) (u := 100) (v := 25) (j := 2) hn rfl hv rfl) (se (n := 2) (u := 100) (v := 25) (j := 2) hn rfl hv _) rfl (by decide) (Nat.le_of_ble_eq_true rfl)) rfl rfl rfl ?_
  refine me1 (pc' := 49) dm_X2_copyOf_48 rfl rfl rfl rfl ?_
  refine me3 (pc' := 52) dm_X2_copyOf_49 (g_get (v := .ref 130) (le_ (n := 2) (u := 100) (v := 25) (j := 0) hn rfl hv rfl) rfl rfl (Nat.le_of_ble_eq_true rfl)) rfl rfl rfl ?_
  refine me1 (pc' := 53) dm_X2_copyOf_52 rfl rfl rfl rfl ?_
  refine me1 (pc' := 54) dm_X2_copyOf_53 rfl rfl rfl rfl ?_
  refine me3 (pc' := 57) dm_X2_copyOf_54 (g_get (v := .ref 7) (lu (n := 2) (j := 2) hn rfl) rfl rfl (Nat.le_of_ble_eq_true rfl)) rfl rfl rfl ?_
  refine me1 (pc' := 58) dm_X2_copyOf_57 rfl rfl rfl rfl ?_
  refine me3 (pc' := 59) dm_X2_copyOf_58 (g_lald (v := (0 : Int64)) (lu (n := 2) (j := 5) hn rfl) rfl (by decide) rfl (Nat.le_of_ble_eq_true rfl)) rfl rfl rfl ?_
  refine me3 (pc' := 60) dm_X2_copyOf_59 (g_last (le_ (n := 2) (u := 100) (v := 25) (j := 3) hn rfl hv rfl) (se (n := 2) (u := 100) (v := 25) (j := 3) hn rfl hv _) rfl (by decide) (Nat.le_of_ble_eq_true rfl)) rfl rfl rfl ?_
  refine me1 (pc' := 61) dm_X2_copyOf_60 rfl rfl rfl rfl ?_
  refine me3 (pc' := 64) dm_X2_copyOf_61 (g_get (v := .ref 131) (le_ (n := 2) (u := 100) (v := 25) (j := 0) hn rfl hv rfl) rfl rfl (Nat.le_of_ble_eq_true rfl)) rfl rfl rfl ?_
  refine me1 (pc' := 65) dm_X2_copyOf_64 rfl rfl rfl rfl ?_
  refine me1 (pc' := 66) dm_X2_copyOf_65 rfl rfl rfl rfl ?_
  refine me3 (pc' := 69) dm_X2_copyOf_66 (g_get (v := .ref 8) (lu (n := 2) (j := 2) hn rfl) rfl rfl (Nat.le_of_ble_eq_true rfl)) rfl rfl rfl ?_
  refine me1 (pc' := 70) dm_X2_copyOf_69 rfl rfl rfl rfl ?_
  refine me3 (pc' := 71) dm_X2_copyOf_70 (g_aald (v := .null) (lu (n := 2) (j := 6) hn rfl) rfl (by decide) rfl (Nat.le_of_ble_eq_true rfl)) rfl rfl rfl ?_
  refine me3 (pc' := 72) dm_X2_copyOf_71 (g_aastn (le_ (n := 2) (u := 100) (v := 25) (j := 4) hn rfl hv rfl) (se (n := 2) (u := 100) (v := 25) (j := 4) hn rfl hv _) rfl (by decide) (Nat.le_of_ble_eq_true rfl)) rfl rfl rfl ?_
  refine me1 (pc' := 75) (L' := [(2, .int (27 : Int32)), (0, .ref 127), (1, .ref 4)]) dm_X2_copyOf_72 rfl rfl rfl rfl ?_
  refine me2 (pc' := 18) dm_X2_copyOf_75 rfl rfl rfl ?_
  refine me1 (pc' := 19) dm_X2_copyOf_18 rfl rfl rfl rfl ?_
  refine me0 (pc' := 21) (S' := .int (40 : Int32) :: _) dm_X2_copyOf_19 rfl rfl rfl rfl ?_
  refine me_2f (pc' := 24) dm_X2_copyOf_21 rfl (by decide) rfl ?_
  refine me1 (pc' := 25) dm_X2_copyOf_24 rfl rfl rfl rfl ?_
  refine me3 (pc' := 28) dm_X2_copyOf_25 (g_get (v := .ref 128) (le_ (n := 2) (u := 100) (v := 25) (j := 0) hn rfl hv rfl) rfl rfl (Nat.le_of_ble_eq_true rfl)) rfl rfl rfl ?_
  refine me1 (pc' := 29) dm_X2_copyOf_28 rfl rfl rfl rfl ?_
  refine me1 (pc' := 30) dm_X2_copyOf_29 rfl rfl rfl rfl ?_
  refine me3 (pc' := 33) dm_X2_copyOf_30 (g_get (v := .ref 5) (lu (n := 2) (j := 2) hn rfl) rfl rfl (Nat.le_of_ble_eq_true rfl)) rfl rfl rfl ?_
  refine me1 (pc' := 34) dm_X2_copyOf_33 rfl rfl rfl rfl ?_
  refine me3 (pc' := 35) dm_X2_copyOf_34 (g_lald (v := (0 : Int64)) (lu (n := 2) (j := 3) hn rfl) rfl (by decide) rfl (Nat.le_of_ble_eq_true rfl)) rfl rfl rfl ?_
  refine me3 (pc' := 36) dm_X2_copyOf_35 (g_last (le_ (n := 2) (u := 100) (v := 25) (j := 1) hn rfl hv rfl) (se (n := 2) (u := 100) (v := 25) (j := 1) hn rfl hv _) rfl (by decide) (Nat.le_of_ble_eq_true rfl)) rfl rfl rfl ?_
  refine me1 (pc' := 37) dm_X2_copyOf_36 rfl rfl rfl rfl ?_
  refine me3 (pc' := 40) dm_X2_copyOf_37 (g_get (v := .ref 129) (le_ (n := 2) (u := 100) (v := 25) (j := 0) hn rfl hv rfl) rfl rfl (Nat.le_of_ble_eq_true rfl)) rfl rfl rfl ?_
  refine me1 (pc' := 41) dm_X2_copyOf_40 rfl rfl rfl rfl ?_
  refine me1 (pc' := 42) dm_X2_copyOf_41 rfl rfl rfl rfl ?_
  refine me3 (pc' := 45) dm_X2_copyOf_42 (g_get (v := .ref 6) (lu (n := 2) (j := 2) hn rfl) rfl rfl (Nat.le_of_ble_eq_true rfl)) rfl rfl rfl ?_
  refine me1 (pc' := 46) dm_X2_copyOf_45 rfl rfl rfl rfl ?_
  refine me3 (pc' := 47) dm_X2_copyOf_46 (g_aald (v := .null) (lu (n := 2) (j := 4) hn rfl) rfl (by decide) rfl (Nat.le_of_ble_eq_true rfl)) rfl rfl rfl ?_
  refine me3 (pc' := 48) dm_X2_copyOf_47 (g_aastn (le_ (n := 2) (u := 100) (v := 25) (j := 2) hn rfl hv rfl) (se (n := 2) (u := 100) (v := 25) (j := 2) hn rfl hv _) rfl (by decide) (Nat.le_of_ble_eq_true rfl)) rfl rfl rfl ?_
  refine me1 (pc' := 49) dm_X2_copyOf_48 rfl rfl rfl rfl ?_
  refine me3 (pc' := 52) dm_X2_copyOf_49 (g_get (v := .ref 130) (le_ (n := 2) (u := 100) (v := 25) (j := 0) hn rfl hv rfl) rfl rfl (Nat.le_of_ble_eq_true rfl)) rfl rfl rfl ?_
  refine me1 (pc' := 53) dm_X2_copyOf_52 rfl rfl rfl rfl ?_
  refine me1 (pc' := 54) dm_X2_copyOf_53 rfl rfl rfl rfl ?_
  refine me3 (pc' := 57) dm_X2_copyOf_54 (g_get (v := .ref 7) (lu (n := 2) (j := 2) hn rfl) rfl rfl (Nat.le_of_ble_eq_true rfl)) rfl rfl rfl ?_
  refine me1 (pc' := 58) dm_X2_copyOf_57 rfl rfl rfl rfl ?_
  refine me3 (pc' := 59) dm_X2_copyOf_58 (g_lald (v := (0 : Int64)) (lu (n := 2) (j := 5) hn rfl) rfl (by decide) rfl (Nat.le_of_ble_eq_true rfl)) rfl rfl rfl ?_
  refine me3 (pc' := 60) dm_X2_copyOf_59 (g_last (le_ (n := 2) (u := 100) (v := 25) (j := 3) hn rfl hv rfl) (se (n := 2) (u := 100) (v := 25) (j := 3) hn rfl hv _) rfl (by decide) (Nat.le_of_ble_eq_true rfl)) rfl rfl rfl ?_
  refine me1 (pc' := 61) dm_X2_copyOf_60 rfl rfl rfl rfl ?_
  refine me3 (pc' := 64) dm_X2_copyOf_61 (g_get (v := .ref 131) (le_ (n := 2) (u := 100) (v := 25) (j := 0) hn rfl hv rfl) rfl rfl (Nat.le_of_ble_eq_true rfl)) rfl rfl rfl ?_
  refine me1 (pc' := 65) dm_X2_copyOf_64 rfl rfl rfl rfl ?_
  refine me1 (pc' := 66) dm_X2_copyOf_65 rfl rfl rfl rfl ?_
  refine me3 (pc' := 69) dm_X2_copyOf_66 (g_get (v := .ref 8) (lu (n := 2) (j := 2) hn rfl) rfl rfl (Nat.le_of_ble_eq_true rfl)) rfl rfl rfl ?_
  refine me1 (pc' := 70) dm_X2_copyOf_69 rfl rfl rfl rfl ?_
  refine me3 (pc' := 71) dm_X2_copyOf_70 (g_aald (v := .null) (lu (n := 2) (j := 6) hn rfl) rfl (by decide) rfl (Nat.le_of_ble_eq_true rfl)) rfl rfl rfl ?_
  refine me3 (pc' := 72) dm_X2_copyOf_71 (g_aastn (le_ (n := 2) (u := 100) (v := 25) (j := 4) hn rfl hv rfl) (se (n := 2) (u := 100) (v := 25) (j := 4) hn rfl hv _) rfl (by decide) (Nat.le_of_ble_eq_true rfl)) rfl rfl rfl ?_
  refine me1 (pc' := 75) (L' := [(2, .int (28 : Int32)), (0, .ref 127), (1, .ref 4)]) dm_X2_copyOf_72 rfl rfl rfl rfl ?_
  refine me2 (pc' := 18) dm_X2_copyOf_75 rfl rfl rfl ?_
  refine me1 (pc' := 19) dm_X2_copyOf_18 rfl rfl rfl rfl ?_
  refine me0 (pc' := 21) (S' := .int (40 : Int32) :: _) dm_X2_copyOf_19 rfl rfl rfl rfl ?_
  refine me_2f (pc' := 24) dm_X2_copyOf_21 rfl (by decide) rfl ?_
  refine me1 (pc' := 25) dm_X2_copyOf_24 rfl rfl rfl rfl ?_
  refine me3 (pc' := 28) dm_X2_copyOf_25 (g_get (v := .ref 128) (le_ (n := 2) (u := 100) (v := 25) (j := 0) hn rfl hv rfl) rfl rfl (Nat.le_of_ble_eq_true rfl)) rfl rfl rfl ?_
  refine me1 (pc' := 29) dm_X2_copyOf_28 rfl rfl rfl rfl ?_
  refine me1 (pc' := 30) dm_X2_copyOf_29 rfl rfl rfl rfl ?_
  refine me3 (pc' := 33) dm_X2_copyOf_30 (g_get (v := .ref 5) (lu (n := 2) (j := 2) hn rfl) rfl rfl (Nat.le_of_ble_eq_true rfl)) rfl rfl rfl ?_
  refine me1 (pc' := 34) dm_X2_copyOf_33 rfl rfl rfl rfl ?_
  refine me3 (pc' := 35) dm_X2_copyOf_34 (g_lald (v := (0 : Int64)) (lu (n := 2) (j := 3) hn rfl) rfl (by decide) rfl (Nat.le_of_ble_eq_true rfl)) rfl rfl rfl ?_
  refine me3 (pc' := 36) dm_X2_copyOf_35 (g_last (le_ (n := 2) (u := 100) (v := 25) (j := 1) hn rfl hv rfl) (se (n := 2) (u := 100) (v := 25) (j := 1) hn rfl hv _) rfl (by decide) (Nat.le_of_ble_eq_true rfl)) rfl rfl rfl ?_
  refine me1 (pc' := 37) dm_X2_copyOf_36 rfl rfl rfl rfl ?_
  refine me3 (pc' := 40) dm_X2_copyOf_37 (g_get (v := .ref 129) (le_ (n := 2) (u := 100) (v := 25) (j := 0) hn rfl hv rfl) rfl rfl (Nat.le_of_ble_eq_true rfl)) rfl rfl rfl ?_
  refine me1 (pc' := 41) dm_X2_copyOf_40 rfl rfl rfl rfl ?_
  refine me1 (pc' := 42) dm_X2_copyOf_41 rfl rfl rfl rfl ?_
  refine me3 (pc' := 45) dm_X2_copyOf_42 (g_get (v := .ref 6) (lu (n := 2) (j := 2) hn rfl) rfl rfl (Nat.le_of_ble_eq_true rfl)) rfl rfl rfl ?_
  refine me1 (pc' := 46) dm_X2_copyOf_45 rfl rfl rfl rfl ?_
  refine me3 (pc' := 47) dm_X2_copyOf_46 (g_aald (v := .null) (lu (n := 2) (j := 4) hn rfl) rfl (by decide) rfl (Nat.le_of_ble_eq_true rfl)) rfl rfl rfl ?_
  refine me3 (pc' := 48) dm_X2_copyOf_47 (g_aastn (le_ (n := 2) (u := 100) (v := 25) (j := 2) hn rfl hv rfl) (se (n := 2) (u := 100) (v := 25) (j := 2) hn rfl hv _) rfl (by decide) (Nat.le_of_ble_eq_true rfl)) rfl rfl rfl ?_
  refine me1 (pc' := 49) dm_X2_copyOf_48 rfl rfl rfl rfl ?_
  refine me3 (pc' := 52) dm_X2_copyOf_49 (g_get (v := .ref 130) (le_ (n := 2) (u := 100) (v := 25) (j := 0) hn rfl hv rfl) rfl rfl (Nat.le_of_ble_eq_true rfl)) rfl rfl rfl ?_
  refine me1 (pc' := 53) dm_X2_copyOf_52 rfl rfl rfl rfl ?_
  refine me1 (pc' := 54) dm_X2_copyOf_53 rfl rfl rfl rfl ?_
  refine me3 (pc' := 57) dm_X2_copyOf_54 (g_get (v := .ref 7) (lu (n := 2) (j := 2) hn rfl) rfl rfl (Nat.le_of_ble_eq_true rfl)) rfl rfl rfl ?_
  refine me1 (pc' := 58) dm_X2_copyOf_57 rfl rfl rfl rfl ?_
  refine me3 (pc' := 59) dm_X2_copyOf_58 (g_lald (v := (0 : Int64)) (lu (n := 2) (j := 5) hn rfl) rfl (by decide) rfl (Nat.le_of_ble_eq_true rfl)) rfl rfl rfl ?_
  refine me3 (pc' := 60) dm_X2_copyOf_59 (g_last (le_ (n := 2) (u := 100) (v := 25) (j := 3) hn rfl hv rfl) (se (n := 2) (u := 100) (v := 25) (j := 3) hn rfl hv _) rfl (by decide) (Nat.le_of_ble_eq_true rfl)) rfl rfl rfl ?_
  refine me1 (pc' := 61) dm_X2_copyOf_60 rfl rfl rfl rfl ?_
  refine me3 (pc' := 64) dm_X2_copyOf_61 (g_get (v := .ref 131) (le_ (n := 2) (u := 100) (v := 25) (j := 0) hn rfl hv rfl) rfl rfl (Nat.le_of_ble_eq_true rfl)) rfl rfl rfl ?_
  refine me1 (pc' := 65) dm_X2_copyOf_64 rfl rfl rfl rfl ?_
  refine me1 (pc' := 66) dm_X2_copyOf_65 rfl rfl rfl rfl ?_
  refine me3 (pc' := 69) dm_X2_copyOf_66 (g_get (v := .ref 8) (lu (n := 2) (j := 2) hn rfl) rfl rfl (Nat.le_of_ble_eq_true rfl)) rfl rfl rfl ?_
  refine me1 (pc' := 70) dm_X2_copyOf_69 rfl rfl rfl rfl ?_
  refine me3 (pc' := 71) dm_X2_copyOf_70 (g_aald (v := .null) (lu (n := 2) (j := 6) hn rfl) rfl (by decide) rfl (Nat.le_of_ble_eq_true rfl)) rfl rfl rfl ?_
  refine me3 (pc' := 72) dm_X2_copyOf_71 (g_aastn (le_ (n := 2) (u := 100) (v := 25) (j := 4) hn rfl hv rfl) (se (n := 2) (u := 100) (v := 25) (j := 4) hn rfl hv _) rfl (by decide) (Nat.le_of_ble_eq_true rfl)) rfl rfl rfl ?_
  refine me1 (pc' := 75) (L' := [(2, .int (29 : Int32)), (0, .ref 127), (1, .ref 4)]) dm_X2_copyOf_72 rfl rfl rfl rfl ?_
  refine me2 (pc' := 18) dm_X2_copyOf_75 rfl rfl rfl ?_
  refine me1 (pc' := 19) dm_X2_copyOf_18 rfl rfl rfl rfl ?_
  refine me0 (pc' := 21) (S' := .int (40 : Int32) :: _) dm_X2_copyOf_19 rfl rfl rfl rfl ?_
  refine me_2f (pc' := 24) dm_X2_copyOf_21 rfl (by decide) rfl ?_
  refine me1 (pc' := 25) dm_X2_copyOf_24 rfl rfl rfl rfl ?_
  refine me3 (pc' := 28) dm_X2_copyOf_25 (g_get (v := .ref 128) (le_ (n := 2) (u := 100) (v := 25) (j := 0) hn rfl hv rfl) rfl rfl (Nat.le_of_ble_eq_true rfl)) rfl rfl rfl ?_
  refine me1 (pc' := 29) dm_X2_copyOf_28 rfl rfl rfl rfl ?_
  refine me1 (pc' := 30) dm_X2_copyOf_29 rfl rfl rfl rfl ?_
  refine me3 (pc' := 33) dm_X2_copyOf_30 (g_get (v := .ref 5) (lu (n := 2) (j := 2) hn rfl) rfl rfl (Nat.le_of_ble_eq_true rfl)) rfl rfl rfl ?_
  refine me1 (pc' := 34) dm_X2_copyOf_33 rfl rfl rfl rfl ?_
  refine me3 (pc' := 35) dm_X2_copyOf_34 (g_lald (v := (0 : Int64)) (lu (n := 2) (j := 3) hn rfl) rfl (by decide) rfl (Nat.le_of_ble_eq_true rfl)) rfl rfl rfl ?_
  refine me3 (pc' := 36) dm_X2_copyOf_35 (g_last (le_ (n := 2) (u := 100) (v := 25) (j := 1) hn rfl hv rfl) (se (n := 2) (u := 100) (v := 25) (j := 1) hn rfl hv _) rfl (by decide) (Nat.le_of_ble_eq_true rfl)) rfl rfl rfl ?_
  refine me1 (pc' := 37) dm_X2_copyOf_36 rfl rfl rfl rfl ?_
  refine me3 (pc' := 40) dm_X2_copyOf_37 (g_get (v := .ref 129) (le_ (n := 2) (u := 100) (v := 25) (j := 0) hn rfl hv rfl) rfl rfl (Nat.le_of_ble_eq_true rfl)) rfl rfl rfl ?_
  refine me1 (pc' := 41) dm_X2_copyOf_40 rfl rfl rfl rfl ?_
  refine me1 (pc' := 42) dm_X2_copyOf_41 rfl rfl rfl rfl ?_
  refine me3 (pc' := 45) dm_X2_copyOf_42 (g_get (v := .ref 6) (lu (n := 2) (j := 2) hn rfl) rfl rfl (Nat.le_of_ble_eq_true rfl)) rfl rfl rfl ?_
  refine me1 (pc' := 46) dm_X2_copyOf_45 rfl rfl rfl rfl ?_
  refine me3 (pc' := 47) dm_X2_copyOf_46 (g_aald (v := .null) (lu (n := 2) (j := 4) hn rfl) rfl (by decide) rfl (Nat.le_of_ble_eq_true rfl)) rfl rfl rfl ?_
  refine me3 (pc' := 48) dm_X2_copyOf_47 (g_aastn (le_ (n := 2) (u := 100) (v := 25) (j := 2) hn rfl hv rfl) (se (n := 2) (u := 100) (v := 25) (j := 2) hn rfl hv _) rfl (by decide) (Nat.le_of_ble_eq_true rfl)) rfl rfl rfl ?_
  refine me1 (pc' := 49) dm_X2_copyOf_48 rfl rfl rfl rfl ?_
  refine me3 (pc' := 52) dm_X2_copyOf_49 (g_get (v := .ref 130) (le_ (n := 2) (u := 100) (v := 25) (j := 0) hn rfl hv rfl) rfl rfl (Nat.le_of_ble_eq_true rfl)) rfl rfl rfl ?_
  refine me1 (pc' := 53) dm_X2_copyOf_52 rfl rfl rfl rfl ?_
  refine me1 (pc' := 54) dm_X2_copyOf_53 rfl rfl rfl rfl ?_
  refine me3 (pc' := 57) dm_X2_copyOf_54 (g_get (v := .ref 7) (lu (n := 2) (j := 2) hn rfl) rfl rfl (Nat.le_of_ble_eq_true rfl)) rfl rfl rfl ?_
  refine me1 (pc' := 58) dm_X2_copyOf_57 rfl rfl rfl rfl ?_
  refine me3 (pc' := 59) dm_X2_copyOf_58 (g_lald (v := (0 : Int64)) (lu (n := 2) (j := 5) hn rfl) rfl (by decide) rfl (Nat.le_of_ble_eq_true rfl)) rfl rfl rfl ?_
  refine me3 (pc' := 60) dm_X2_copyOf_59 (g_last (le_ (n := 2) (u := 100) (v := 25) (j := 3) hn rfl hv rfl) (se (n := 2) (u := 100) (v := 25) (j := 3) hn rfl hv _) rfl (by decide) (Nat.le_of_ble_eq_true rfl)) rfl rfl rfl ?_
  refine me1 (pc' := 61) dm_X2_copyOf_60 rfl rfl rfl rfl ?_
  refine me3 (pc' := 64) dm_X2_copyOf_61 (g_get (v := .ref 131) (le_ (n := 2) (u := 100) (v := 25) (j := 0) hn rfl hv rfl) rfl rfl (Nat.le_of_ble_eq_true rfl)) rfl rfl rfl ?_
  refine me1 (pc' := 65) dm_X2_copyOf_64 rfl rfl rfl rfl ?_
  refine me1 (pc' := 66) dm_X2_copyOf_65 rfl rfl rfl rfl ?_
  refine me3 (pc' := 69) dm_X2_copyOf_66 (g_get (v := .ref 8) (lu (n := 2) (j := 2) hn rfl) rfl rfl (Nat.le_of_ble_eq_true rfl)) rfl rfl rfl ?_
  refine me1 (pc' := 70) dm_X2_copyOf_69 rfl rfl rfl rfl ?_
  refine me3 (pc' := 71) dm_X2_copyOf_70 (g_aald (v := .null) (lu (n := 2) (j := 6) hn rfl) rfl (by decide) rfl (Nat.le_of_ble_eq_true rfl)) rfl rfl rfl ?_
  refine me3 (pc' := 72) dm_X2_copyOf_71 (g_aastn (le_ (n := 2) (u := 100) (v := 25) (j := 4) hn rfl hv rfl) (se (n := 2) (u := 100) (v := 25) (j := 4) hn rfl hv _) rfl (by decide) (Nat.le_of_ble_eq_true rfl)) rfl rfl rfl ?_
  refine me1 (pc' := 75) (L' := [(2, .int (30 : Int32)), (0, .ref 127), (1, .ref 4)]) dm_X2_copyOf_72 rfl rfl rfl rfl ?_
  refine me2 (pc' := 18) dm_X2_copyOf_75 rfl rfl rfl ?_
  refine me1 (pc' := 19) dm_X2_copyOf_18 rfl rfl rfl rfl ?_
  refine me0 (pc' := 21) (S' := .int (40 : Int32) :: _) dm_X2_copyOf_19 rfl rfl rfl rfl ?_
  refine me_2f (pc' := 24) dm_X2_copyOf_21 rfl (by decide) rfl ?_
  refine me1 (pc' := 25) dm_X2_copyOf_24 rfl rfl rfl rfl ?_
  refine me3 (pc' := 28) dm_X2_copyOf_25 (g_get (v := .ref 128) (le_ (n := 2) (u := 100) (v := 25) (j := 0) hn rfl hv rfl) rfl rfl (Nat.le_of_ble_eq_true rfl)) rfl rfl rfl ?_
  refine me1 (pc' := 29) dm_X2_copyOf_28 rfl rfl rfl rfl ?_
  refine me1 (pc' := 30) dm_X2_copyOf_29 rfl rfl rfl rfl ?_
  refine me3 (pc' := 33) dm_X2_copyOf_30 (g_get (v := .ref 5) (lu (n := 2) (j := 2) hn rfl) rfl rfl (Nat.le_of_ble_eq_true rfl)) rfl rfl rfl ?_
  refine me1 (pc' := 34) dm_X2_copyOf_33 rfl rfl rfl rfl ?_
  refine me3 (pc' := 35) dm_X2_copyOf_34 (g_lald (v := (0 : Int64)) (lu (n := 2) (j := 3) hn rfl) rfl (by decide) rfl (Nat.le_of_ble_eq_true rfl)) rfl rfl rfl ?_
  refine me3 (pc' := 36) dm_X2_copyOf_35 (g_last (le_ (n := 2) (u := 100) (v := 25) (j := 1) hn rfl hv rfl) (se (n := 2) (u := 100) (v := 25) (j := 1) hn rfl hv _) rfl (by decide) (Nat.le_of_ble_eq_true rfl)) rfl rfl rfl ?_
  refine me1 (pc' := 37) dm_X2_copyOf_36 rfl rfl rfl rfl ?_
  refine me3 (pc' := 40) dm_X2_copyOf_37 (g_get (v := .ref 129) (le_ (n := 2) (u := 100) (v := 25) (j := 0) hn rfl hv rfl) rfl rfl (Nat.le_of_ble_eq_true rfl)) rfl rfl rfl ?_
  refine me1 (pc' := 41) dm_X2_copyOf_40 rfl rfl rfl rfl ?_
  refine me1 (pc' := 42) dm_X2_copyOf_41 rfl rfl rfl rfl ?_
  refine me3 (pc' := 45) dm_X2_copyOf_42 (g_get (v := .ref 6) (lu (n := 2) (j := 2) hn rfl) rfl rfl (Nat.le_of_ble_eq_true rfl)) rfl rfl rfl ?_
  refine me1 (pc' := 46) dm_X2_copyOf_45 rfl rfl rfl rfl ?_
  refine me3 (pc' := 47) dm_X2_copyOf_46 (g_aald (v := .null) (lu (n := 2) (j := 4) hn rfl) rfl (by decide) rfl (Nat.le_of_ble_eq_true rfl)) rfl rfl rfl ?_
  refine me3 (pc' := 48) dm_X2_copyOf_47 (g_aastn (le_ (n := 2) (u := 100) (v := 25) (j := 2) hn rfl hv rfl) (se (n := 2) (u := 100) (v := 25) (j := 2) hn rfl hv _) rfl (by decide) (Nat.le_of_ble_eq_true rfl)) rfl rfl rfl ?_
  refine me1 (pc' := 49) dm_X2_copyOf_48 rfl rfl rfl rfl ?_
  refine me3 (pc' := 52) dm_X2_copyOf_49 (g_get (v := .ref 130) (le_ (n := 2) (u := 100) (v := 25) (j := 0) hn rfl hv rfl) rfl rfl (Nat.le_of_ble_eq_true rfl)) rfl rfl rfl ?_
  refine me1 (pc' := 53) dm_X2_copyOf_52 rfl rfl rfl rfl ?_
  refine me1 (pc' := 54) dm_X2_copyOf_53 rfl rfl rfl rfl ?_
  refine me3 (pc' := 57) dm_X2_copyOf_54 (g_get (v := .ref 7) (lu (n := 2) (j := 2) hn rfl) rfl rfl (Nat.le_of_ble_eq_true rfl)) rfl rfl rfl ?_
  refine me1 (pc' := 58) dm_X2_copyOf_57 rfl rfl rfl rfl ?_
  refine me3 (pc' := 59) dm_X2_copyOf_58 (g_lald (v := (0 : Int64)) (lu (n := 2) (j := 5) hn rfl) rfl (by decide) rfl (Nat.le_of_ble_eq_true rfl)) rfl rfl rfl ?_
  refine me3 (pc' := 60) dm_X2_copyOf_59 (g_last (le_ (n := 2) (u := 100) (v := 25) (j := 3) hn rfl hv rfl) (se (n := 2) (u := 100) (v := 25) (j := 3) hn rfl hv _) rfl (by decide) (Nat.le_of_ble_eq_true rfl)) rfl rfl rfl ?_
  refine me1 (pc' := 61) dm_X2_copyOf_60 rfl rfl rfl rfl ?_
  refine me3 (pc' := 64) dm_X2_copyOf_61 (g_get (v := .ref 131) (le_ (n := 2) (u := 100) (v := 25) (j := 0) hn rfl hv rfl) rfl rfl (Nat.le_of_ble_eq_true rfl)) rfl rfl rfl ?_
  refine me1 (pc' := 65) dm_X2_copyOf_64 rfl rfl rfl rfl ?_
  refine me1 (pc' := 66) dm_X2_copyOf_65 rfl rfl rfl rfl ?_
  refine me3 (pc' := 69) dm_X2_copyOf_66 (g_get (v := .ref 8) (lu (n := 2) (j := 2) hn rfl) rfl rfl (Nat.le_of_ble_eq_true rfl)) rfl rfl rfl ?_
  refine me1 (pc' := 70) dm_X2_copyOf_69 rfl rfl rfl rfl ?_
  refine me3 (pc' := 71) dm_X2_copyOf_70 (g_aald (v := .null) (lu (n := 2) (j := 6) hn rfl) rfl (by decide) rfl (Nat.le_of_ble_eq_true rfl)) rfl rfl rfl ?_
  refine me3 (pc' := 72) dm_X2_copyOf_71 (g_aastn (le_ (n := 2) (u := 100) (v := 25) (j := 4) hn rfl hv rfl) (se (n := 2) (u := 100) (v := 25) (j := 4) hn rfl hv _) rfl (by decide) (Nat.le_of_ble_eq_true rfl)) rfl rfl rfl ?_
  refine me1 (pc' := 75) (L' := [(2, .int (31 : Int32)), (0, .ref 127), (1, .ref 4)]) dm_X2_copyOf_72 rfl rfl rfl rfl ?_
  refine me2 (pc' := 18) dm_X2_copyOf_75 rfl rfl rfl ?_
  refine me1 (pc' := 19) dm_X2_copyOf_18 rfl rfl rfl rfl ?_
  refine me0 (pc' := 21) (S' := .int (40 : Int32) :: _) dm_X2_copyOf_19 rfl rfl rfl rfl ?_
  refine me_2f (pc' := 24) dm_X2_copyOf_21 rfl (by decide) rfl ?_
  refine me1 (pc' := 25) dm_X2_copyOf_24 rfl rfl rfl rfl ?_
  refine me3 (pc' := 28) dm_X2_copyOf_25 (g_get (v := .ref 128) (le_ (n := 2) (u := 100) (v := 25) (j := 0) hn rfl hv rfl) rfl rfl (Nat.le_of_ble_eq_true rfl)) rfl rfl rfl ?_
  refine me1 (pc' := 29) dm_X2_copyOf_28 rfl rfl rfl rfl ?_
  refine me1 (pc' := 30) dm_X2_copyOf_29 rfl rfl rfl rfl ?_
  refine me3 (pc' := 33) dm_X2_copyOf_30 (g_get (v := .ref 5) (lu (n := 2) (j := 2) hn rfl) rfl rfl (Nat.le_of_ble_eq_true rfl)) rfl rfl rfl ?_
  refine me1 (pc' := 34) dm_X2_copyOf_33 rfl rfl rfl rfl ?_
  refine me3 (pc' := 35) dm_X2_copyOf_34 (g_lald (v := (0 : Int64)) (lu (n := 2) (j := 3) hn rfl) rfl (by decide) rfl (Nat.le_of_ble_eq_true rfl)) rfl rfl rfl ?_
  refine me3 (pc' := 36) dm_X2_copyOf_35 (g_last (le_ (n := 2) (u := 100) (v := 25) (j := 1) hn rfl hv rfl) (se (n := 2) (u := 100) (v := 25) (j := 1) hn rfl hv _) rfl (by decide) (Nat.le_of_ble_eq_true rfl)) rfl rfl rfl ?_
  refine me1 (pc' := 37) dm_X2_copyOf_36 rfl rfl rfl rfl ?_
  refine me3 (pc' := 40) dm_X2_copyOf_37 (g_get (v := .ref 129) (le_ (n := 2) (u := 100) (v := 25) (j := 0) hn rfl hv rfl) rfl rfl (Nat.le_of_ble_eq_true rfl)) rfl rfl rfl ?_
  refine me1 (pc' := 41) dm_X2_copyOf_40 rfl rfl rfl rfl ?_
  refine me1 (pc' := 42) dm_X2_copyOf_41 rfl rfl rfl rfl ?_
  refine me3 (pc' := 45) dm_X2_copyOf_42 (g_get (v := .ref 6) (lu (n := 2) (j := 2) hn rfl) rfl rfl (Nat.le_of_ble_eq_true rfl)) rfl rfl rfl ?_
  refine me1 (pc' := 46) dm_X2_copyOf_45 rfl rfl rfl rfl ?_
  refine me3 (pc' := 47) dm_X2_copyOf_46 (g_aald (v := .null) (lu (n := 2) (j := 4) hn rfl) rfl (by decide) rfl (Nat.le_of_ble_eq_true rfl)) rfl rfl rfl ?_
  refine me3 (pc' := 48) dm_X2_copyOf_47 (g_aastn (le_ (n := 2) (u := 100) (v := 25) (j := 2) hn rfl hv rfl) (se (n := 2) (u := 100) (v := 25) (j := 2) hn rfl hv _) rfl (by decide) (Nat.le_of_ble_eq_true rfl)) rfl rfl rfl ?_
  refine me1 (pc' := 49) dm_X2_copyOf_48 rfl rfl rfl rfl ?_
  refine me3 (pc' := 52) dm_X2_copyOf_49 (g_get (v := .ref 130) (le_ (n := 2) (u := 100) (v := 25) (j := 0) hn rfl hv rfl) rfl rfl (Nat.le_of_ble_eq_true rfl)) rfl rfl rfl ?_
  refine me1 (pc' := 53) dm_X2_copyOf_52 rfl rfl rfl rfl ?_
  refine me1 (pc' := 54) dm_X2_copyOf_53 rfl rfl rfl rfl ?_
  refine me3 (pc' := 57) dm_X2_copyOf_54 (g_get (v := .ref 7) (lu (n := 2) (j := 2) hn rfl) rfl rfl (Nat.le_of_ble_eq_true rfl)) rfl rfl rfl ?_
  refine me1 (pc' := 58) dm_X2_copyOf_57 rfl rfl rfl rfl ?_
  refine me3 (pc' := 59) dm_X2_copyOf_58 (g_lald (v := (0 : Int64)) (lu (n := 2) (j := 5) hn rfl) rfl (by decide) rfl (Nat.le_of_ble_eq_true rfl)) rfl rfl rfl ?_
  refine me3 (pc' := 60) dm_X2_copyOf_59 (g_last (le_ (n := 2) (u := 100) (v := 25) (j := 3) hn rfl hv rfl) (se (n := 2) (u := 100) (v := 25) (j := 3) hn rfl hv _) rfl (by decide) (Nat.le_of_ble_eq_true rfl)) rfl rfl rfl ?_
  refine me1 (pc' := 61) dm_X2_copyOf_60 rfl rfl rfl rfl ?_
  refine me3 (pc' := 64) dm_X2_copyOf_61 (g_get (v := .ref 131) (le_ (n := 2) (u := 100) (v := 25) (j := 0) hn rfl hv rfl) rfl rfl (Nat.le_of_ble_eq_true rfl)) rfl rfl rfl ?_
  refine me1 (pc' := 65) dm_X2_copyOf_64 rfl rfl rfl rfl ?_
  refine me1 (pc' := 66) dm_X2_copyOf_65 rfl rfl rfl rfl ?_
  refine me3 (pc' := 69) dm_X2_copyOf_66 (g_get (v := .ref 8) (lu (n := 2) (j := 2) hn rfl) rfl rfl (Nat.le_of_ble_eq_true rfl)) rfl rfl rfl ?_
  refine me1 (pc' := 70) dm_X2_copyOf_69 rfl rfl rfl rfl ?_
  refine me3 (pc' := 71) dm_X2_copyOf_70 (g_aald (v := .null) (lu (n := 2) (j := 6) hn rfl) rfl (by decide) rfl (Nat.le_of_ble_eq_true rfl)) rfl rfl rfl ?_
  refine me3 (pc' := 72) dm_X2_copyOf_71 (g_aastn (le_ (n := 2) (u := 100) (v := 25) (j := 4) hn rfl hv rfl) (se (n := 2) (u := 100) (v := 25) (j := 4) hn rfl hv _) rfl (by decide) (Nat.le_of_ble_eq_true rfl)) rfl rfl rfl ?_
  refine me1 (pc' := 75) (L' := [(2, .int (32 : Int32)), (0, .ref 127), (1, .ref 4)]) dm_X2_copyOf_72 rfl rfl rfl rfl ?_
  refine me2 (pc' := 18) dm_X2_copyOf_75 rfl rfl rfl ?_
  refine me1 (pc' := 19) dm_X2_copyOf_18 rfl rfl rfl rfl ?_
  refine me0 (pc' := 21) (S' := .int (40 : Int32) :: _) dm_X2_copyOf_19 rfl rfl rfl rfl ?_
  refine me_2f (pc' := 24) dm_X2_copyOf_21 rfl (by decide) rfl ?_
  refine me1 (pc' := 25) dm_X2_copyOf_24 rfl rfl rfl rfl ?_
  refine me3 (pc' := 28) dm_X2_copyOf_25 (g_get (v := .ref 128) (le_ (n := 2) (u := 100) (v := 25) (j := 0) hn rfl hv rfl) rfl rfl (Nat.le_of_ble_eq_true rfl)) rfl rfl rfl ?_
  refine me1 (pc' := 29) dm_X2_copyOf_28 rfl rfl rfl rfl ?_
  refine me1 (pc' := 30) dm_X2_copyOf_29 rfl rfl rfl rfl ?_
  refine me3 (pc' := 33) dm_X2_copyOf_30 (g_get (v := .ref 5) (lu (n := 2) (j := 2) hn rfl) rfl rfl (Nat.le_of_ble_eq_true rfl)) rfl rfl rfl ?_
  refine me1 (pc' := 34) dm_X2_copyOf_33 rfl rfl rfl rfl ?_
  refine me3 (pc' := 35) dm_X2_copyOf_34 (g_lald (v := (0 : Int64)) (lu (n := 2) (j := 3) hn rfl) rfl (by decide) rfl (Nat.le_of_ble_eq_true rfl)) rfl rfl rfl ?_
  refine me3 (pc' := 36) dm_X2_copyOf_35 (g_last (le_ (n := 2) (u := 100) (v := 25) (j := 1) hn rfl hv rfl) (se (n := 2) (u := 100) (v := 25) (j := 1) hn rfl hv _) rfl (by decide) (Nat.le_of_ble_eq_true rfl)) rfl rfl rfl ?_
  refine me1 (pc' := 37) dm_X2_copyOf_36 rfl rfl rfl rfl ?_
  refine me3 (pc' := 40) dm_X2_copyOf_37 (g_get (v := .ref 129) (le_ (n := 2) (u := 100) (v := 25) (j := 0) hn rfl hv rfl) rfl rfl (Nat.le_of_ble_eq_true rfl)) rfl rfl rfl ?_
  refine me1 (pc' := 41) dm_X2_copyOf_40 rfl rfl rfl rfl ?_
  refine me1 (pc' := 42) dm_X2_copyOf_41 rfl rfl rfl rfl ?_
  refine me3 (pc' := 45) dm_X2_copyOf_42 (g_get (v := .ref 6) (lu (n := 2) (j := 2) hn rfl) rfl rfl (Nat.le_of_ble_eq_true rfl)) rfl rfl rfl ?_
  refine me1 (pc' := 46) dm_X2_copyOf_45 rfl rfl rfl rfl ?_
  refine me3 (pc' := 47) dm_X2_copyOf_46 (g_aald (v := .null) (lu (n := 2) (j := 4) hn rfl) rfl (by decide) rfl (Nat.le_of_ble_eq_true rfl)) rfl rfl rfl ?_
  refine me3 (pc' := 48) dm_X2_copyOf_47 (g_aastn (le_ (n := 2) (u := 100) (v := 25) (j := 2) hn rfl hv rfl) (se (n := 2) (u := 100) (v := 25) (j := 2) hn rfl hv _) rfl (by decide) (Nat.le_of_ble_eq_true rfl)) rfl rfl rfl ?_
  refine me1 (pc' := 49) dm_X2_copyOf_48 rfl rfl rfl rfl ?_
  refine me3 (pc' := 52) dm_X2_copyOf_49 (g_get (v := .ref 130) (le_ (n := 2) (u := 100) (v := 25) (j := 0) hn rfl hv rfl) rfl rfl (Nat.le_of_ble_eq_true rfl)) rfl rfl rfl ?_
  refine me1 (pc' := 53) dm_X2_copyOf_52 rfl rfl rfl rfl ?_
  refine me1 (pc' := 54) dm_X2_copyOf_53 rfl rfl rfl rfl ?_
  refine me3 (pc' := 57) dm_X2_copyOf_54 (g_get (v := .ref 7) (lu (n := 2) (j := 2) hn rfl) rfl rfl (Nat.le_of_ble_eq_true rfl)) rfl rfl rfl ?_
  refine me1 (pc' := 58) dm_X2_copyOf_57 rfl rfl rfl rfl ?_
  refine me3 (pc' := 59) dm_X2_copyOf_58 (g_lald (v := (0 : Int64)) (lu (n := 2) (j := 5) hn rfl) rfl (by decide) rfl (Nat.le_of_ble_eq_true rfl)) rfl rfl rfl ?_
  refine me3 (pc' := 60) dm_X2_copyOf_59 (g_last (le_ (n := 2) (u := 100) (v := 25) (j := 3) hn rfl hv rfl) (se (n := 2) (u := 100) (v := 25) (j := 3) hn rfl hv _) rfl (by decide) (Nat.le_of_ble_eq_true rfl)) rfl rfl rfl ?_
  refine me1 (pc' := 61) dm_X2_copyOf_60 rfl rfl rfl rfl ?_
  refine me3 (pc' := 64) dm_X2_copyOf_61 (g_get (v := .ref 131) (le_ (n := 2) (u := 100) (v := 25) (j := 0) hn rfl hv rfl) rfl rfl (Nat.le_of_ble_eq_true rfl)) rfl rfl rfl ?_
  refine me1 (pc' := 65) dm_X2_copyOf_64 rfl rfl rfl rfl ?_
  refine me1 (pc' := 66) dm_X2_copyOf_65 rfl rfl rfl rfl ?_
  refine me3 (pc' := 69) dm_X2_copyOf_66 (g_get (v := .ref 8) (lu (n := 2) (j := 2) hn rfl) rfl rfl (Nat.le_of_ble_eq_true rfl)) rfl rfl rfl ?_
  refine me1 (pc' := 70) dm_X2_copyOf_69 rfl rfl rfl rfl ?_
  refine me3 (pc' := 71) dm_X2_copyOf_70 (g_aald (v := .null) (lu (n := 2) (j := 6) hn rfl) rfl (by decide) rfl (Nat.le_of_ble_eq_true rfl)) rfl rfl rfl ?_
  refine me3 (pc' := 72) dm_X2_copyOf_71 (g_aastn (le_ (n := 2) (u := 100) (v := 25) (j := 4) hn rfl hv rfl) (se (n := 2) (u := 100) (v := 25) (j := 4) hn rfl hv _) rfl (by decide) (Nat.le_of_ble_eq_true rfl)) rfl rfl rfl ?_
  refine me1 (pc' := 75) (L' := [(2, .int (33 : Int32)), (0, .ref 127), (1, .ref 4)]) dm_X2_copyOf_72 rfl rfl rfl rfl ?_
  refine me2 (pc' := 18) dm_X2_copyOf_75 rfl rfl rfl ?_
  refine me1 (pc' := 19) dm_X2_copyOf_18 rfl rfl rfl rfl ?_
  refine me0 (pc' := 21) (S' := .int (40 : Int32) :: _) dm_X2_copyOf_19 rfl rfl rfl rfl ?_
  refine me_2f (pc' := 24) dm_X2_copyOf_21 rfl (by decide) rfl ?_
  refine me1 (pc' := 25) dm_X2_copyOf_24 rfl rfl rfl rfl ?_
  refine me3 (pc' := 28) dm_X2_copyOf_25 (g_get (v := .ref 128) (le_ (n := 2) (u := 100) (v := 25) (j := 0) hn rfl hv rfl) rfl rfl (Nat.le_of_ble_eq_true rfl)) rfl rfl rfl ?_
  refine me1 (pc' := 29) dm_X2_copyOf_28 rfl rfl rfl rfl ?_
  refine me1 (pc' := 30) dm_X2_copyOf_29 rfl rfl rfl rfl ?_
  refine me3 (pc' := 33) dm_X2_copyOf_30 (g_get (v := .ref 5) (lu (n := 2) (j := 2) hn rfl) rfl rfl (Nat.le_of_ble_eq_true rfl)) rfl rfl rfl ?_
  refine me1 (pc' := 34) dm_X2_copyOf_33 rfl rfl rfl rfl ?_
  refine me3 (pc' := 35) dm_X2_copyOf_34 (g_lald (v := (0 : Int64)) (lu (n := 2) (j := 3) hn rfl) rfl (by decide) rfl (Nat.le_of_ble_eq_true rfl)) rfl rfl rfl ?_
  refine me3 (pc' := 36) dm_X2_copyOf_35 (g_last (le_ (n := 2) (u := 100) (v := 25) (j := 1) hn rfl hv rfl) (se (n := 2) (u := 100) (v := 25) (j := 1) hn rfl hv _) rfl (by decide) (Nat.le_of_ble_eq_true rfl)) rfl rfl rfl ?_
  refine me1 (pc' := 37) dm_X2_copyOf_36 rfl rfl rfl rfl ?_
  refine me3 (pc' := 40) dm_X2_copyOf_37 (g_get (v := .ref 129) (le_ (n := 2) (u := 100) (v := 25) (j := 0) hn rfl hv rfl) rfl rfl (Nat.le_of_ble_eq_true rfl)) rfl rfl rfl ?_
  refine me1 (pc' := 41) dm_X2_copyOf_40 rfl rfl rfl rfl ?_
  refine me1 (pc' := 42) dm_X2_copyOf_41 rfl rfl rfl rfl ?_
  refine me3 (pc' := 45) dm_X2_copyOf_42 (g_get (v := .ref 6) (lu (n := 2) (j := 2) hn rfl) rfl rfl (Nat.le_of_ble_eq_true rfl)) rfl rfl rfl ?_
  refine me1 (pc' := 46) dm_X2_copyOf_45 rfl rfl rfl rfl ?_
  refine me3 (pc' := 47) dm_X2_copyOf_46 (g_aald (v := .null) (lu (n := 2) (j := 4) hn rfl) rfl (by decide) rfl (Nat.le_of_ble_eq_true rfl)) rfl rfl rfl ?_
  refine me3 (pc' := 48) dm_X2_copyOf_47 (g_aastn (le_ (n := 2) (u := 100) (v := 25) (j := 2) hn rfl hv rfl) (se (n := 2) (u := 100) (v := 25) (j := 2) hn rfl hv _) rfl (by decide) (Nat.le_of_ble_eq_true rfl)) rfl rfl rfl ?_
  refine me1 (pc' := 49) dm_X2_copyOf_48 rfl rfl rfl rfl ?_
  refine me3 (pc' := 52) dm_X2_copyOf_49 (g_get (v := .ref 130) (le_ (n := 2) (u := 100) (v := 25) (j := 0) hn rfl hv rfl) rfl rfl (Nat.le_of_ble_eq_true rfl)) rfl rfl rfl ?_
  refine me1 (pc' := 53) dm_X2_copyOf_52 rfl rfl rfl rfl ?_
  refine me1 (pc' := 54) dm_X2_copyOf_53 rfl rfl rfl rfl ?_
  refine me3 (pc' := 57) dm_X2_copyOf_54 (g_get (v := .ref 7) (lu (n := 2) (j := 2) hn rfl) rfl rfl (Nat.le_of_ble_eq_true rfl)) rfl rfl rfl ?_
  refine me1 (pc' := 58) dm_X2_copyOf_57 rfl rfl rfl rfl ?_
  refine me3 (pc' := 59) dm_X2_copyOf_58 (g_lald (v := (0 : Int64)) (lu (n := 2) (j := 5) hn rfl) rfl (by decide) rfl (Nat.le_of_ble_eq_true rfl)) rfl rfl rfl ?_
  refine me3 (pc' := 60) dm_X2_copyOf_59 (g_last (le_ (n := 2) (u := 100) (v := 25) (j := 3) hn rfl hv rfl) (se (n := 2) (u := 100) (v := 25) (j := 3) hn rfl hv _) rfl (by decide) (Nat.le_of_ble_eq_true rfl)) rfl rfl rfl ?_
  refine me1 (pc' := 61) dm_X2_copyOf_60 rfl rfl rfl rfl ?_
  refine me3 (pc' := 64) dm_X2_copyOf_61 (g_get (v := .ref 131) (le_ (n := 2) (u := 100) (v := 25) (j := 0) hn rfl hv rfl) rfl rfl (Nat.le_of_ble_eq_true rfl)) rfl rfl rfl ?_
  refine me1 (pc' := 65) dm_X2_copyOf_64 rfl rfl rfl rfl ?_
  refine me1 (pc' := 66) dm_X2_copyOf_65 rfl rfl rfl rfl ?_
  refine me3 (pc' := 69) dm_X2_copyOf_66 (g_get (v := .ref 8) (lu (n := 2) (j := 2) hn rfl) rfl rfl (Nat.le_of_ble_eq_true rfl)) rfl rfl rfl ?_
  refine me1 (pc' := 70) dm_X2_copyOf_69 rfl rfl rfl rfl ?_
  refine me3 (pc' := 71) dm_X2_copyOf_70 (g_aald (v := .null) (lu (n := 2) (j := 6) hn rfl) rfl (by decide) rfl (Nat.le_of_ble_eq_true rfl)) rfl rfl rfl ?_
  refine me3 (pc' := 72) dm_X2_copyOf_71 (g_aastn (le_ (n := 2) (u := 100) (v := 25) (j := 4) hn rfl hv rfl) (se (n := 2) (u := 100) (v := 25) (j := 4) hn rfl hv _) rfl (by decide) (Nat.le_of_ble_eq_true rfl)) rfl rfl rfl ?_
  refine me1 (pc' := 75) (L' := [(2, .int (34 : Int32)), (0, .ref 127), (1, .ref 4)]) dm_X2_copyOf_72 rfl rfl rfl rfl ?_
  refine me2 (pc' := 18) dm_X2_copyOf_75 rfl rfl rfl ?_
  refine me1 (pc' := 19) dm_X2_copyOf_18 rfl rfl rfl rfl ?_
  refine me0 (pc' := 21) (S' := .int (40 : Int32) :: _) dm_X2_copyOf_19 rfl rfl rfl rfl ?_
  refine me_2f (pc' := 24) dm_X2_copyOf_21 rfl (by decide) rfl ?_
  refine me1 (pc' := 25) dm_X2_copyOf_24 rfl rfl rfl rfl ?_
  refine me3 (pc' := 28) dm_X2_copyOf_25 (g_get (v := .ref 128) (le_ (n := 2) (u := 100) (v := 25) (j := 0) hn rfl hv rfl) rfl rfl (Nat.le_of_ble_eq_true rfl)) rfl rfl rfl ?_
  refine me1 (pc' := 29) dm_X2_copyOf_28 rfl rfl rfl rfl ?_
  refine me1 (pc' := 30) dm_X2_copyOf_29 rfl rfl rfl rfl ?_
  refine me3 (pc' := 33) dm_X2_copyOf_30 (g_get (v := .ref 5) (lu (n := 2) (j := 2) hn rfl) rfl rfl (Nat.le_of_ble_eq_true rfl)) rfl rfl rfl ?_
  refine me1 (pc' := 34) dm_X2_copyOf_33 rfl rfl rfl rfl ?_
  refine me3 (pc' := 35) dm_X2_copyOf_34 (g_lald (v := (0 : Int64)) (lu (n := 2) (j := 3) hn rfl) rfl (by decide) rfl (Nat.le_of_ble_eq_true rfl)) rfl rfl rfl ?_
  refine me3 (pc' := 36) dm_X2_copyOf_35 (g_last (le_ (n := 2) (u := 100) (v := 25) (j := 1) hn rfl hv rfl) (se (n := 2) (u := 100) (v := 25) (j := 1) hn rfl hv _) rfl (by decide) (Nat.le_of_ble_eq_true rfl)) rfl rfl rfl ?_
  refine me1 (pc' := 37) dm_X2_copyOf_36 rfl rfl rfl rfl ?_
  refine me3 (pc' := 40) dm_X2_copyOf_37 (g_get (v := .ref 129) (le_ (n := 2) (u := 100) (v := 25) (j := 0) hn rfl hv rfl) rfl rfl (Nat.le_of_ble_eq_true rfl)) rfl rfl rfl ?_
  refine me1 (pc' := 41) dm_X2_copyOf_40 rfl rfl rfl rfl ?_
  refine me1 (pc' := 42) dm_X2_copyOf_41 rfl rfl rfl rfl ?_
  refine me3 (pc' := 45) dm_X2_copyOf_42 (g_get (v := .ref 6) (lu (n := 2) (j := 2) hn rfl) rfl rfl (Nat.le_of_ble_eq_true rfl)) rfl rfl rfl ?_
  refine me1 (pc' := 46) dm_X2_copyOf_45 rfl rfl rfl rfl ?_
  refine me3 (pc' := 47) dm_X2_copyOf_46 (g_aald (v := .null) (lu (n := 2) (j := 4) hn rfl) rfl (by decide) rfl (Nat.le_of_ble_eq_true rfl)) rfl rfl rfl ?_
  refine me3 (pc' := 48) dm_X2_copyOf_47 (g_aastn (le_ (n := 2) (u := 100) (v := 25) (j := 2) hn rfl hv rfl) (se (n := 2) (u := 100) (v := 25) (j := 2) hn rfl hv _) rfl (by decide) (Nat.le_of_ble_eq_true rfl)) rfl rfl rfl ?_
  refine me1 (pc' := 49) dm_X2_copyOf_48 rfl rfl rfl rfl ?_
  refine me3 (pc' := 52) dm_X2_copyOf_49 (g_get (v := .ref 130) (le_ (n := 2) (u := 100) (v := 25) (j := 0) hn rfl hv rfl) rfl rfl (Nat.le_of_ble_eq_true rfl)) rfl rfl rfl ?_
  refine me1 (pc' := 53) dm_X2_copyOf_52 rfl rfl rfl rfl ?_
  refine me1 (pc' := 54) dm_X2_copyOf_53 rfl rfl rfl rfl ?_
  refine me3 (pc' := 57) dm_X2_copyOf_54 (g_get (v := .ref 7) (lu (n := 2) (j := 2) hn rfl) rfl rfl (Nat.le_of_ble_eq_true rfl)) rfl rfl rfl ?_
  refine me1 (pc' := 58) dm_X2_copyOf_57 rfl rfl rfl rfl ?_
  refine me3 (pc' := 59) dm_X2_copyOf_58 (g_lald (v := (0 : Int64)) (lu (n := 2) (j := 5) hn rfl) rfl (by decide) rfl (Nat.le_of_ble_eq_true rfl)) rfl rfl rfl ?_
  refine me3 (pc' := 60) dm_X2_copyOf_59 (g_last (le_ (n := 2) (u := 100) (v := 25) (j := 3) hn rfl hv rfl) (se (n := 2) (u := 100) (v := 25) (j := 3) hn rfl hv _) rfl (by decide) (Nat.le_of_ble_eq_true rfl)) rfl rfl rfl ?_
  refine me1 (pc' := 61) dm_X2_copyOf_60 rfl rfl rfl rfl ?_
  refine me3 (pc' := 64) dm_X2_copyOf_61 (g_get (v := .ref 131) (le_ (n := 2) (u := 100) (v := 25) (j := 0) hn rfl hv rfl) rfl rfl (Nat.le_of_ble_eq_true rfl)) rfl rfl rfl ?_
  refine me1 (pc' := 65) dm_X2_copyOf_64 rfl rfl rfl rfl ?_
  refine me1 (pc' := 66) dm_X2_copyOf_65 rfl rfl rfl rfl ?_
  refine me3 (pc' := 69) dm_X2_copyOf_66 (g_get (v := .ref 8) (lu (n := 2) (j := 2) hn rfl) rfl rfl (Nat.le_of_ble_eq_true rfl)) rfl rfl rfl ?_
  refine me1 (pc' := 70) dm_X2_copyOf_69 rfl rfl rfl rfl ?_
  refine me3 (pc' := 71) dm_X2_copyOf_70 (g_aald (v := .null) (lu (n := 2) (j := 6) hn rfl) rfl (by decide) rfl (Nat.le_of_ble_eq_true rfl)) rfl rfl rfl ?_
  refine me3 (pc' := 72) dm_X2_copyOf_71 (g_aastn (le_ (n := 2) (u := 100) (v := 25) (j := 4) hn rfl hv rfl) (se (n := 2) (u := 100) (v := 25) (j := 4) hn rfl hv _) rfl (by decide) (Nat.le_of_ble_eq_true rfl)) rfl rfl rfl ?_
  refine me1 (pc' := 75) (L' := [(2, .int (35 : Int32)), (0, .ref 127), (1, .ref 4)]) dm_X2_copyOf_72 rfl rfl rfl rfl ?_
  refine me2 (pc' := 18) dm_X2_copyOf_75 rfl rfl rfl ?_
  refine me1 (pc' := 19) dm_X2_copyOf_18 rfl rfl rfl rfl ?_
  refine me0 (pc' := 21) (S' := .int (40 : Int32) :: _) dm_X2_copyOf_19 rfl rfl rfl rfl ?_
  refine me_2f (pc' := 24) dm_X2_copyOf_21 rfl (by decide) rfl ?_
  refine me1 (pc' := 25) dm_X2_copyOf_24 rfl rfl rfl rfl ?_
  refine me3 (pc' := 28) dm_X2_copyOf_25 (g_get (v := .ref 128) (le_ (n := 2) (u := 100) (v := 25) (j := 0) hn rfl hv rfl) rfl rfl (Nat.le_of_ble_eq_true rfl)) rfl rfl rfl ?_
  refine me1 (pc' := 29) dm_X2_copyOf_28 rfl rfl rfl rfl ?_
  refine me1 (pc' := 30) dm_X2_copyOf_29 rfl rfl rfl rfl ?_
  refine me3 (pc' := 33) dm_X2_copyOf_30 (g_get (v := .ref 5) (lu (n := 2) (j := 2) hn rfl) rfl rfl (Nat.le_of_ble_eq_true rfl)) rfl rfl rfl ?_
  refine me1 (pc' := 34) dm_X2_copyOf_33 rfl rfl rfl rfl ?_
  refine me3 (pc' := 35) dm_X2_copyOf_34 (g_lald (v := (0 : Int64)) (lu (n := 2) (j := 3) hn rfl) rfl (by decide) rfl (Nat.le_of_ble_eq_true rfl)) rfl rfl rfl ?_
  refine me3 (pc' := 36) dm_X2_copyOf_35 (g_last (le_ (n := 2) (u := 100) (v := 25) (j := 1) hn rfl hv rfl) (se (n := 2) (u := 100) (v := 25) (j := 1) hn rfl hv _) rfl (by decide) (Nat.le_of_ble_eq_true rfl)) rfl rfl rfl ?_
  refine me1 (pc' := 37) dm_X2_copyOf_36 rfl rfl rfl rfl ?_
  refine me3 (pc' := 40) dm_X2_copyOf_37 (g_get (v := .ref 129) (le_ (n := 2) (u := 100) (v := 25) (j := 0) hn rfl hv rfl) rfl rfl (Nat.le_of_ble_eq_true rfl)) rfl rfl rfl ?_
  refine me1 (pc' := 41) dm_X2_copyOf_40 rfl rfl rfl rfl ?_
  refine me1 (pc' := 42) dm_X2_copyOf_41 rfl rfl rfl rfl ?_
  refine me3 (pc' := 45) dm_X2_copyOf_42 (g_get (v := .ref 6) (lu (n := 2) (j := 2) hn rfl) rfl rfl (Nat.le_of_ble_eq_true rfl)) rfl rfl rfl ?_
  refine me1 (pc' := 46) dm_X2_copyOf_45 rfl rfl rfl rfl ?_
  refine me3 (pc' := 47) dm_X2_copyOf_46 (g_aald (v := .null) (lu (n := 2) (j := 4) hn rfl) rfl (by decide) rfl (Nat.le_of_ble_eq_true rfl)) rfl rfl rfl ?_
  refine me3 (pc' := 48) dm_X2_copyOf_47 (g_aastn (le_ (n := 2) (u := 100) (v := 25) (j := 2) hn rfl hv rfl) (se (n := 2) (u := 100) (v := 25) (j := 2) hn rfl hv _) rfl (by decide) (Nat.le_of_ble_eq_true rfl)) rfl rfl rfl ?_
  refine me1 (pc' := 49) dm_X2_copyOf_48 rfl rfl rfl rfl ?_
  refine me3 (pc' := 52) dm_X2_copyOf_49 (g_get (v := .ref 130) (le_ (n := 2) (u := 100) (v := 25) (j := 0) hn rfl hv rfl) rfl rfl (Nat.le_of_ble_eq_true rfl)) rfl rfl rfl ?_
  refine me1 (pc' := 53) dm_X2_copyOf_52 rfl rfl rfl rfl ?_
  refine me1 (pc' := 54) dm_X2_copyOf_53 rfl rfl rfl rfl ?_
  refine me3 (pc' := 57) dm_X2_copyOf_54 (g_get (v := .ref 7) (lu (n := 2) (j := 2) hn rfl) rfl rfl (Nat.le_of_ble_eq_true rfl)) rfl rfl rfl ?_
  refine me1 (pc' := 58) dm_X2_copyOf_57 rfl rfl rfl rfl ?_
  refine me3 (pc' := 59) dm_X2_copyOf_58 (g_lald (v := (0 : Int64)) (lu (n := 2) (j := 5) hn rfl) rfl (by decide) rfl (Nat.le_of_ble_eq_true rfl)) rfl rfl rfl ?_
  refine me3 (pc' := 60) dm_X2_copyOf_59 (g_last (le_ (n := 2) (u := 100) (v := 25) (j := 3) hn rfl hv rfl) (se (n := 2) (u := 100) (v := 25) (j := 3) hn rfl hv _) rfl (by decide) (Nat.le_of_ble_eq_true rfl)) rfl rfl rfl ?_
  refine me1 (pc' := 61) dm_X2_copyOf_60 rfl rfl rfl rfl ?_
  refine me3 (pc' := 64) dm_X2_copyOf_61 (g_get (v := .ref 131) (le_ (n := 2) (u := 100) (v := 25) (j := 0) hn rfl hv rfl) rfl rfl (Nat.le_of_ble_eq_true rfl)) rfl rfl rfl ?_
  refine me1 (pc' := 65) dm_X2_copyOf_64 rfl rfl rfl rfl ?_
  refine me1 (pc' := 66) dm_X2_copyOf_65 rfl rfl rfl rfl ?_
  refine me3 (pc' := 69) dm_X2_copyOf_66 (g_get (v := .ref 8) (lu (n := 2) (j := 2) hn rfl) rfl rfl (Nat.le_of_ble_eq_true rfl)) rfl rfl rfl ?_
  refine me1 (pc' := 70) dm_X2_copyOf_69 rfl rfl rfl rfl ?_
  refine me3 (pc' := 71) dm_X2_copyOf_70 (g_aald (v := .null) (lu (n := 2) (j := 6) hn rfl) rfl (by decide) rfl (Nat.le_of_ble_eq_true rfl)) rfl rfl rfl ?_
  refine me3 (pc' := 72) dm_X2_copyOf_71 (g_aastn (le_ (n := 2) (u := 100) (v := 25) (j := 4) hn rfl hv rfl) (se (n := 2) (u := 100) (v := 25) (j := 4) hn rfl hv _) rfl (by decide) (Nat.le_of_ble_eq_true rfl)) rfl rfl rfl ?_
  refine me1 (pc' := 75) (L' := [(2, .int (36 : Int32)), (0, .ref 127), (1, .ref 4)]) dm_X2_copyOf_72 rfl rfl rfl rfl ?_
  refine me2 (pc' := 18) dm_X2_copyOf_75 rfl rfl rfl ?_
  refine me1 (pc' := 19) dm_X2_copyOf_18 rfl rfl rfl rfl ?_
  refine me0 (pc' := 21) (S' := .int (40 : Int32) :: _) dm_X2_copyOf_19 rfl rfl rfl rfl ?_
  refine me_2f (pc' := 24) dm_X2_copyOf_21 rfl (by decide) rfl ?_
  refine me1 (pc' := 25) dm_X2_copyOf_24 rfl rfl rfl rfl ?_
  refine me3 (pc' := 28) dm_X2_copyOf_25 (g_get (v := .ref 128) (le_ (n := 2) (u := 100) (v := 25) (j := 0) hn rfl hv rfl) rfl rfl (Nat.le_of_ble_eq_true rfl)) rfl rfl rfl ?_
  refine me1 (pc' := 29) dm_X2_copyOf_28 rfl rfl rfl rfl ?_
  refine me1 (pc' := 30) dm_X2_copyOf_29 rfl rfl rfl rfl ?_
  refine me3 (pc' := 33) dm_X2_copyOf_30 (g_get (v := .ref 5) (lu (n := 2) (j := 2) hn rfl) rfl rfl (Nat.le_of_ble_eq_true rfl)) rfl rfl rfl ?_
  refine me1 (pc' := 34) dm_X2_copyOf_33 rfl rfl rfl rfl ?_
  refine me3 (pc' := 35) dm_X2_copyOf_34 (g_lald (v := (0 : Int64)) (lu (n := 2) (j := 3) hn rfl) rfl (by decide) rfl (Nat.le_of_ble_eq_true rfl)) rfl rfl rfl ?_
  refine me3 (pc' := 36) dm_X2_copyOf_35 (g_last (le_ (n := 2) (u := 100) (v := 25) (j := 1) hn rfl hv rfl) (se (n := 2) (u := 100) (v := 25) (j := 1) hn rfl hv _) rfl (by decide) (Nat.le_of_ble_eq_true rfl)) rfl rfl rfl ?_
  refine me1 (pc' := 37) dm_X2_copyOf_36 rfl rfl rfl rfl ?_
  refine me3 (pc' := 40) dm_X2_copyOf_37 (g_get (v := .ref 129) (le_ (n := 2) (u := 100) (v := 25) (j := 0) hn rfl hv rfl) rfl rfl (Nat.le_of_ble_eq_true rfl)) rfl rfl rfl ?_
  refine me1 (pc' := 41) dm_X2_copyOf_40 rfl rfl rfl rfl ?_
  refine me1 (pc' := 42) dm_X2_copyOf_41 rfl rfl rfl rfl ?_
  refine me3 (pc' := 45) dm_X2_copyOf_42 (g_get (v := .ref 6) (lu (n := 2) (j := 2) hn rfl) rfl rfl (Nat.le_of_ble_eq_true rfl)) rfl rfl rfl ?_
  refine me1 (pc' := 46) dm_X2_copyOf_45 rfl rfl rfl rfl ?_
  refine me3 (pc' := 47) dm_X2_copyOf_46 (g_aald (v := .null) (lu (n := 2) (j := 4) hn rfl) rfl (by decide) rfl (Nat.le_of_ble_eq_true rfl)) rfl rfl rfl ?_
  refine me3 (pc' := 48) dm_X2_copyOf_47 (g_aastn (le_ (n := 2) (u := 100) (v := 25) (j := 2) hn rfl hv rfl) (se (n := 2) (u := 100) (v := 25) (j := 2) hn rfl hv _) rfl (by decide) (Nat.le_of_ble_eq_true rfl)) rfl rfl rfl ?_
  refine me1 (pc' := 49) dm_X2_copyOf_48 rfl rfl rfl rfl ?_
  refine me3 (pc' := 52) dm_X2_copyOf_49 (g_get (v := .ref 130) (le_ (n := 2) (u := 100) (v := 25) (j := 0) hn rfl hv rfl) rfl rfl (Nat.le_of_ble_eq_true rfl)) rfl rfl rfl ?_
  refine me1 (pc' := 53) dm_X2_copyOf_52 rfl rfl rfl rfl ?_
  refine me1 (pc' := 54) dm_X2_copyOf_53 rfl rfl rfl rfl ?_
  refine me3 (pc' := 57) dm_X2_copyOf_54 (g_get (v := .ref 7) (lu (n := 2) (j := 2) hn rfl) rfl rfl (Nat.le_of_ble_eq_true rfl)) rfl rfl rfl ?_
  refine me1 (pc' := 58) dm_X2_copyOf_57 rfl rfl rfl rfl ?_
  refine me3 (pc' := 59) dm_X2_copyOf_58 (g_lald (v := (0 : Int64)) (lu (n := 2) (j := 5) hn rfl) rfl (by decide) rfl (Nat.le_of_ble_eq_true rfl)) rfl rfl rfl ?_
  refine me3 (pc' := 60) dm_X2_copyOf_59 (g_last (le_ (n := 2) (u := 100) (v := 25) (j := 3) hn rfl hv rfl) (se (n := 2) (u := 100) (v := 25) (j := 3) hn rfl hv _) rfl (by decide) (Nat.le_of_ble_eq_true rfl)) rfl rfl rfl ?_
  refine me1 (pc' := 61) dm_X2_copyOf_60 rfl rfl rfl rfl ?_
  refine me3 (pc' := 64) dm_X2_copyOf_61 (g_get (v := .ref 131) (le_ (n := 2) (u := 100) (v := 25) (j := 0) hn rfl hv rfl) rfl rfl (Nat.le_of_ble_eq_true rfl)) rfl rfl rfl ?_
  refine me1 (pc' := 65) dm_X2_copyOf_64 rfl rfl rfl rfl ?_
  refine me1 (pc' := 66) dm_X2_copyOf_65 rfl rfl rfl rfl ?_
  refine me3 (pc' := 69) dm_X2_copyOf_66 (g_get (v := .ref 8) (lu (n := 2) (j := 2) hn rfl) rfl rfl (Nat.le_of_ble_eq_true rfl)) rfl rfl rfl ?_
  refine me1 (pc' := 70) dm_X2_copyOf_69 rfl rfl rfl rfl ?_
  refine me3 (pc' := 71) dm_X2_copyOf_70 (g_aald (v := .null) (lu (n := 2) (j := 6) hn rfl) rfl (by decide) rfl (Nat.le_of_ble_eq_true rfl)) rfl rfl rfl ?_
  refine me3 (pc' := 72) dm_X2_copyOf_71 (g_aastn (le_ (n := 2) (u := 100) (v := 25) (j := 4) hn rfl hv rfl) (se (n := 2) (u := 100) (v := 25) (j := 4) hn rfl hv _) rfl (by decide) (Nat.le_of_ble_eq_true rfl)) rfl rfl rfl ?_
  refine me1 (pc' := 75) (L' := [(2, .int (37 : Int32)), (0, .ref 127), (1, .ref 4)]) dm_X2_copyOf_72 rfl rfl rfl rfl ?_
  refine me2 (pc' := 18) dm_X2_copyOf_75 rfl rfl rfl ?_
  refine me1 (pc' := 19) dm_X2_copyOf_18 rfl rfl rfl rfl ?_
  refine me0 (pc' := 21) (S' := .int (40 : Int32) :: _) dm_X2_copyOf_19 rfl rfl rfl rfl ?_
  refine me_2f (pc' := 24) dm_X2_copyOf_21 rfl (by decide) rfl ?_
  refine me1 (pc' := 25) dm_X2_copyOf_24 rfl rfl rfl rfl ?_
  refine me3 (pc' := 28) dm_X2_copyOf_25 (g_get (v := .ref 128) (le_ (n := 2) (u := 100) (v := 25) (j := 0) hn rfl hv rfl) rfl rfl (Nat.le_of_ble_eq_true rfl)) rfl rfl rfl ?_
  refine me1 (pc' := 29) dm_X2_copyOf_28 rfl rfl rfl rfl ?_
  refine me1 (pc' := 30) dm_X2_copyOf_29 rfl rfl rfl rfl ?_
  refine me3 (pc' := 33) dm_X2_copyOf_30 (g_get (v := .ref 5) (lu (n := 2) (j := 2) hn rfl) rfl rfl (Nat.le_of_ble_eq_true rfl)) rfl rfl rfl ?_
  refine me1 (pc' := 34) dm_X2_copyOf_33 rfl rfl rfl rfl ?_
  refine me3 (pc' := 35) dm_X2_copyOf_34 (g_lald (v := (0 : Int64)) (lu (n := 2) (j := 3) hn rfl) rfl (by decide) rfl (Nat.le_of_ble_eq_true rfl)) rfl rfl rfl ?_
  refine me3 (pc' := 36) dm_X2_copyOf_35 (g_last (le_ (n := 2) (u := 100) (v := 25) (j := 1) hn rfl hv rfl) (se (n := 2) (u := 100) (v := 25) (j := 1) hn rfl hv _) rfl (by decide) (Nat.le_of_ble_eq_true rfl)) rfl rfl rfl ?_
  refine me1 (pc' := 37) dm_X2_copyOf_36 rfl rfl rfl rfl ?_
  refine me3 (pc' := 40) dm_X2_copyOf_37 (g_get (v := .ref 129) (le_ (n := 2) (u := 100) (v := 25) (j := 0) hn rfl hv rfl) rfl rfl (Nat.le_of_ble_eq_true rfl)) rfl rfl rfl ?_
  refine me1 (pc' := 41) dm_X2_copyOf_40 rfl rfl rfl rfl ?_
  refine me1 (pc' := 42) dm_X2_copyOf_41 rfl rfl rfl rfl ?_
  refine me3 (pc' := 45) dm_X2_copyOf_42 (g_get (v := .ref 6) (lu (n := 2) (j := 2) hn rfl) rfl rfl (Nat.le_of_ble_eq_true rfl)) rfl rfl rfl ?_
  refine me1 (pc' := 46) dm_X2_copyOf_45 rfl rfl rfl rfl ?_
  refine me3 (pc' := 47) dm_X2_copyOf_46 (g_aald (v := .null) (lu (n := 2) (j := 4) hn rfl) rfl (by decide) rfl (Nat.le_of_ble_eq_true rfl)) rfl rfl rfl ?_
  refine me3 (pc' := 48) dm_X2_copyOf_47 (g_aastn (le_ (n := 2) (u := 100) (v := 25) (j := 2) hn rfl hv rfl) (se (n := 2) (u := 100) (v := 25) (j := 2) hn rfl hv _) rfl (by decide) (Nat.le_of_ble_eq_true rfl)) rfl rfl rfl ?_
  refine me1 (pc' := 49) dm_X2_copyOf_48 rfl rfl rfl rfl ?_
  refine me3 (pc' := 52) dm_X2_copyOf_49 (g_get (v := .ref 130) (le_ (n := 2) (u := 100) (v := 25) (j := 0) hn rfl hv rfl) rfl rfl (Nat.le_of_ble_eq_true rfl)) rfl rfl rfl ?_
  refine me1 (pc' := 53) dm_X2_copyOf_52 rfl rfl rfl rfl ?_
  refine me1 (pc' := 54) dm_X2_copyOf_53 rfl rfl rfl rfl ?_
  refine me3 (pc' := 57) dm_X2_copyOf_54 (g_get (v := .ref 7) (lu (n := 2) (j := 2) hn rfl) rfl rfl (Nat.le_of_ble_eq_true rfl)) rfl rfl rfl ?_
  refine me1 (pc' := 58) dm_X2_copyOf_57 rfl rfl rfl rfl ?_
  refine me3 (pc' := 59) dm_X2_copyOf_58 (g_lald (v := (0 : Int64)) (lu (n := 2) (j := 5) hn rfl) rfl (by decide) rfl (Nat.le_of_ble_eq_true rfl)) rfl rfl rfl ?_
  refine me3 (pc' := 60) dm_X2_copyOf_59 (g_last (le_ (n := 2) (u := 100) (v := 25) (j := 3) hn rfl hv rfl) (se (n := 2) (u := 100) (v := 25) (j := 3) hn rfl hv _) rfl (by decide) (Nat.le_of_ble_eq_true rfl)) rfl rfl rfl ?_
  refine me1 (pc' := 61) dm_X2_copyOf_60 rfl rfl rfl rfl ?_
  refine me3 (pc' := 64) dm_X2_copyOf_61 (g_get (v := .ref 131) (le_ (n := 2) (u := 100) (v := 25) (j := 0) hn rfl hv rfl) rfl rfl (Nat.le_of_ble_eq_true rfl)) rfl rfl rfl ?_
  refine me1 (pc' := 65) dm_X2_copyOf_64 rfl rfl rfl rfl ?_
  refine me1 (pc' := 66) dm_X2_copyOf_65 rfl rfl rfl rfl ?_
  refine me3 (pc' := 69) dm_X2_copyOf_66 (g_get (v := .ref 8) (lu (n := 2) (j := 2) hn rfl) rfl rfl (Nat.le_of_ble_eq_true rfl)) rfl rfl rfl ?_
  refine me1 (pc' := 70) dm_X2_copyOf_69 rfl rfl rfl rfl ?_
  refine me3 (pc' := 71) dm_X2_copyOf_70 (g_aald (v := .null) (lu (n := 2) (j := 6) hn rfl) rfl (by decide) rfl (Nat.le_of_ble_eq_true rfl)) rfl rfl rfl ?_
  refine me3 (pc' := 72) dm_X2_copyOf_71 (g_aastn (le_ (n := 2) (u := 100) (v := 25) (j := 4) hn rfl hv rfl) (se (n := 2) (u := 100) (v := 25) (j := 4) hn rfl hv _) rfl (by decide) (Nat.le_of_ble_eq_true rfl)) rfl rfl rfl ?_
  refine me1 (pc' := 75) (L' := [(2, .int (38 : Int32)), (0, .ref 127), (1, .ref 4)]) dm_X2_copyOf_72 rfl rfl rfl rfl ?_
  refine me2 (pc' := 18) dm_X2_copyOf_75 rfl rfl rfl ?_
  refine me1 (pc' := 19) dm_X2_copyOf_18 rfl rfl rfl rfl ?_
  refine me0 (pc' := 21) (S' := .int (40 : Int32) :: _) dm_X2_copyOf_19 rfl rfl rfl rfl ?_
  refine me_2f (pc' := 24) dm_X2_copyOf_21 rfl (by decide) rfl ?_
  refine me1 (pc' := 25) dm_X2_copyOf_24 rfl rfl rfl rfl ?_
  refine me3 (pc' := 28) dm_X2_copyOf_25 (g_get (v := .ref 128) (le_ (n := 2) (u := 100) (v := 25) (j := 0) hn rfl hv rfl) rfl rfl (Nat.le_of_ble_eq_true rfl)) rfl rfl rfl ?_
  refine me1 (pc' := 29) dm_X2_copyOf_28 rfl rfl rfl rfl ?_
  refine me1 (pc' := 30) dm_X2_copyOf_29 rfl rfl rfl rfl ?_
  refine me3 (pc' := 33) dm_X2_copyOf_30 (g_get (v := .ref 5) (lu (n := 2) (j := 2) hn rfl) rfl rfl (Nat.le_of_ble_eq_true rfl)) rfl rfl rfl ?_
  refine me1 (pc' := 34) dm_X2_copyOf_33 rfl rfl rfl rfl ?_
  refine me3 (pc' := 35) dm_X2_copyOf_34 (g_lald (v := (0 : Int64)) (lu (n := 2) (j := 3) hn rfl) rfl (by decide) rfl (Nat.le_of_ble_eq_true rfl)) rfl rfl rfl ?_
  refine me3 (pc' := 36) dm_X2_copyOf_35 (g_last (le_ (n := 2) (u := 100) (v := 25) (j := 1) hn rfl hv rfl) (se (n := 2) (u := 100) (v := 25) (j := 1) hn rfl hv _) rfl (by decide) (Nat.le_of_ble_eq_true rfl)) rfl rfl rfl ?_
  refine me1 (pc' := 37) dm_X2_copyOf_36 rfl rfl rfl rfl ?_
  refine me3 (pc' := 40) dm_X2_copyOf_37 (g_get (v := .ref 129) (le_ (n := 2) (u := 100) (v := 25) (j := 0) hn rfl hv rfl) rfl rfl (Nat.le_of_ble_eq_true rfl)) rfl rfl rfl ?_
  refine me1 (pc' := 41) dm_X2_copyOf_40 rfl rfl rfl rfl ?_
  refine me1 (pc' := 42) dm_X2_copyOf_41 rfl rfl rfl rfl ?_
  refine me3 (pc' := 45) dm_X2_copyOf_42 (g_get (v := .ref 6) (lu (n := 2) (j := 2) hn rfl) rfl rfl (Nat.le_of_ble_eq_true rfl)) rfl rfl rfl ?_
  refine me1 (pc' := 46) dm_X2_copyOf_45 rfl rfl rfl rfl ?_
  refine me3 (pc' := 47) dm_X2_copyOf_46 (g_aald (v := .null) (lu (n := 2) (j := 4) hn rfl) rfl (by decide) rfl (Nat.le_of_ble_eq_true rfl)) rfl rfl rfl ?_
  refine me3 (pc' := 48) dm_X2_copyOf_47 (g_aastn (le_ (n := 2) (u := 100) (v := 25) (j := 2) hn rfl hv rfl) (se (n := 2) (u := 100) (v := 25) (j := 2) hn rfl hv _) rfl (by decide) (Nat.le_of_ble_eq_true rfl)) rfl rfl rfl ?_
  refine me1 (pc' := 49) dm_X2_copyOf_48 rfl rfl rfl rfl ?_
  refine me3 (pc' := 52) dm_X2_copyOf_49 (g_get (v := .ref 130) (le_ (n := 2) (u := 100) (v := 25) (j := 0) hn rfl hv rfl) rfl rfl (Nat.le_of_ble_eq_true rfl)) rfl rfl rfl ?_
  refine me1 (pc' := 53) dm_X2_copyOf_52 rfl rfl rfl rfl ?_
  refine me1 (pc' := 54) dm_X2_copyOf_53 rfl rfl rfl rfl ?_
  refine me3 (pc' := 57) dm_X2_copyOf_54 (g_get (v := .ref 7) (lu (n := 2) (j := 2) hn rfl) rfl rfl (Nat.le_of_ble_eq_true rfl)) rfl rfl rfl ?_
  refine me1 (pc' := 58) dm_X2_copyOf_57 rfl rfl rfl rfl ?_
  refine me3 (pc' := 59) dm_X2_copyOf_58 (g_lald (v := (0 : Int64)) (lu (n := 2) (j := 5) hn rfl) rfl (by decide) rfl (Nat.le_of_ble_eq_true rfl)) rfl rfl rfl ?_
  refine me3 (pc' := 60) dm_X2_copyOf_59 (g_last (le_ (n := 2) (u := 100) (v := 25) (j := 3) hn rfl hv rfl) (se (n := 2) (u := 100) (v := 25) (j := 3) hn rfl hv _) rfl (by decide) (Nat.le_of_ble_eq_true rfl)) rfl rfl rfl ?_
  refine me1 (pc' := 61) dm_X2_copyOf_60 rfl rfl rfl rfl ?_
  refine me3 (pc' := 64) dm_X2_copyOf_61 (g_get (v := .ref 131) (le_ (n := 2) (u := 100) (v := 25) (j := 0) hn rfl hv rfl) rfl rfl (Nat.le_of_ble_eq_true rfl)) rfl rfl rfl ?_
  refine me1 (pc' := 65) dm_X2_copyOf_64 rfl rfl rfl rfl ?_
  refine me1 (pc' := 66) dm_X2_copyOf_65 rfl rfl rfl rfl ?_
  refine me3 (pc' := 69) dm_X2_copyOf_66 (g_get (v := .ref 8) (lu (n := 2) (j := 2) hn rfl) rfl rfl (Nat.le_of_ble_eq_true rfl)) rfl rfl rfl ?_
  refine me1 (pc' := 70) dm_X2_copyOf_69 rfl rfl rfl rfl ?_
  refine me3 (pc' := 71) dm_X2_copyOf_70 (g_aald (v := .null) (lu (n := 2) (j := 6) hn rfl) rfl (by decide) rfl (Nat.le_of_ble_eq_true rfl)) rfl rfl rfl ?_
  refine me3 (pc' := 72) dm_X2_copyOf_71 (g_aastn (le_ (n := 2) (u := 100) (v := 25) (j := 4) hn rfl hv rfl) (se (n := 2) (u := 100) (v := 25) (j := 4) hn rfl hv _) rfl (by decide) (Nat.le_of_ble_eq_true rfl)) rfl rfl rfl ?_
  refine me1 (pc' := 75) (L' := [(2, .int (39 : Int32)), (0, .ref 127), (1, .ref 4)]) dm_X2_copyOf_72 rfl rfl rfl rfl ?_
  refine me2 (pc' := 18) dm_X2_copyOf_75 rfl rfl rfl ?_
  refine me1 (pc' := 19) dm_X2_copyOf_18 rfl rfl rfl rfl ?_
  refine me0 (pc' := 21) (S' := .int (40 : Int32) :: _) dm_X2_copyOf_19 rfl rfl rfl rfl ?_
  refine me_2f (pc' := 24) dm_X2_copyOf_21 rfl (by decide) rfl ?_
  refine me1 (pc' := 25) dm_X2_copyOf_24 rfl rfl rfl rfl ?_
  refine me3 (pc' := 28) dm_X2_copyOf_25 (g_get (v := .ref 128) (le_ (n := 2) (u := 100) (v := 25) (j := 0) hn rfl hv rfl) rfl rfl (Nat.le_of_ble_eq_true rfl)) rfl rfl rfl ?_
  refine me1 (pc' := 29) dm_X2_copyOf_28 rfl rfl rfl rfl ?_
  refine me1 (pc' := 30) dm_X2_copyOf_29 rfl rfl rfl rfl ?_
  refine me3 (pc' := 33) dm_X2_copyOf_30 (g_get (v := .ref 5) (lu (n := 2) (j := 2) hn rfl) rfl rfl (Nat.le_of_ble_eq_true rfl)) rfl rfl rfl ?_
  refine me1 (pc' := 34) dm_X2_copyOf_33 rfl rfl rfl rfl ?_
  refine me3 (pc' := 35) dm_X2_copyOf_34 (g_lald (v := (0 : Int64)) (lu (n := 2) (j := 3) hn rfl) rfl (by decide) rfl (Nat.le_of_ble_eq_true rfl)) rfl rfl rfl ?_
  refine me3 (pc' := 36) dm_X2_copyOf_35 (g_last (le_ (n := 2) (u := 100) (v := 25) (j := 1) hn rfl hv rfl) (se (n := 2) (u := 100) (v := 25) (j := 1) hn rfl hv _) rfl (by decide) (Nat.le_of_ble_eq_true rfl)) rfl rfl rfl ?_
  refine me1 (pc' := 37) dm_X2_copyOf_36 rfl rfl rfl rfl ?_
  refine me3 (pc' := 40) dm_X2_copyOf_37 (g_get (v := .ref 129) (le_ (n := 2) (u := 100) (v := 25) (j := 0) hn rfl hv rfl) rfl rfl (Nat.le_of_ble_eq_true rfl)) rfl rfl rfl ?_
  refine me1 (pc' := 41) dm_X2_copyOf_40 rfl rfl rfl rfl ?_
  refine me1 (pc' := 42) dm_X2_copyOf_41 rfl rfl rfl rfl ?_
  refine me3 (pc' := 45) dm_X2_copyOf_42 (g_get (v := .ref 6) (lu (n := 2) (j := 2) hn rfl) rfl rfl (Nat.le_of_ble_eq_true rfl)) rfl rfl rfl ?_
  refine me1 (pc' := 46) dm_X2_copyOf_45 rfl rfl rfl rfl ?_
  refine me3 (pc' := 47) dm_X2_copyOf_46 (g_aald (v := .null) (lu (n := 2) (j := 4) hn rfl) rfl (by decide) rfl (Nat.le_of_ble_eq_true rfl)) rfl rfl rfl ?_
  refine me3 (pc' := 48) dm_X2_copyOf_47 (g_aastn (le_ (n := 2) (u := 100) (v := 25) (j := 2) hn rfl hv rfl) (se (n := 2) (u := 100) (v := 25) (j := 2) hn rfl hv _) rfl (by decide) (Nat.le_of_ble_eq_true rfl)) rfl rfl rfl ?_
  refine me1 (pc' := 49) dm_X2_copyOf_48 rfl rfl rfl rfl ?_
  refine me3 (pc' := 52) dm_X2_copyOf_49 (g_get (v := .ref 130) (le_ (n := 2) (u := 100) (v := 25) (j := 0) hn rfl hv rfl) rfl rfl (Nat.le_of_ble_eq_true rfl)) rfl rfl rfl ?_
  refine me1 (pc' := 53) dm_X2_copyOf_52 rfl rfl rfl rfl ?_
  refine me1 (pc' := 54) dm_X2_copyOf_53 rfl rfl rfl rfl ?_
  refine me3 (pc' := 57) dm_X2_copyOf_54 (g_get (v := .ref 7) (lu (n := 2) (j := 2) hn rfl) rfl rfl (Nat.le_of_ble_eq_true rfl)) rfl rfl rfl ?_
  refine me1 (pc' := 58) dm_X2_copyOf_57 rfl rfl rfl rfl ?_
  refine me3 (pc' := 59) dm_X2_copyOf_58 (g_lald (v := (0 : Int64)) (lu (n := 2) (j := 5) hn rfl) rfl (by decide) rfl (Nat.le_of_ble_eq_true rfl)) rfl rfl rfl ?_
  refine me3 (pc' := 60) dm_X2_copyOf_59 (g_last (le_ (n := 2) (u := 100) (v := 25) (j := 3) hn rfl hv rfl) (se (n := 2) (u := 100) (v := 25) (j := 3) hn rfl hv _) rfl (by decide) (Nat.le_of_ble_eq_true rfl)) rfl rfl rfl ?_
  refine me1 (pc' := 61) dm_X2_copyOf_60 rfl rfl rfl rfl ?_
  refine me3 (pc' := 64) dm_X2_copyOf_61 (g_get (v := .ref 131) (le_ (n := 2) (u := 100) (v := 25) (j := 0) hn rfl hv rfl) rfl rfl (Nat.le_of_ble_eq_true rfl)) rfl rfl rfl ?_
  refine me1 (pc' := 65) dm_X2_copyOf_64 rfl rfl rfl rfl ?_
  refine me1 (pc' := 66) dm_X2_copyOf_65 rfl rfl rfl rfl ?_
  refine me3 (pc' := 69) dm_X2_copyOf_66 (g_get (v := .ref 8) (lu (n := 2) (j := 2) hn rfl) rfl rfl (Nat.le_of_ble_eq_true rfl)) rfl rfl rfl ?_
  refine me1 (pc' := 70) dm_X2_copyOf_69 rfl rfl rfl rfl ?_
  refine me3 (pc' := 71) dm_X2_copyOf_70 (g_aald (v := .null) (lu (n := 2) (j := 6) hn rfl) rfl (by decide) rfl (Nat.le_of_ble_eq_true rfl)) rfl rfl rfl ?_
  refine me3 (pc' := 72) dm_X2_copyOf_71 (g_aastn (le_ (n := 2) (u := 100) (v := 25) (j := 4) hn rfl hv rfl) (se (n := 2) (u := 100) (v := 25) (j := 4) hn rfl hv _) rfl (by decide) (Nat.le_of_ble_eq_true rfl)) rfl rfl rfl ?_
  refine me1 (pc' := 75) (L' := [(2, .int (40 : Int32)), (0, .ref 127), (1, .ref 4)]) dm_X2_copyOf_72 rfl rfl rfl rfl ?_
  refine me2 (pc' := 18) dm_X2_copyOf_75 rfl rfl rfl ?_
  refine me1 (pc' := 19) dm_X2_copyOf_18 rfl rfl rfl rfl ?_
  refine me0 (pc' := 21) (S' := .int (40 : Int32) :: _) dm_X2_copyOf_19 rfl rfl rfl rfl ?_
  refine me_2t (pc' := 78) dm_X2_copyOf_21 rfl rfl ?_
  refine me5 dm_X2_copyOf_78 rfl rfl rfl ?_
  refine me0 (pc' := 51) (S' := .int (1 : Int32) :: _) dm_X11_keep_50 rfl rfl rfl rfl ?_
  refine me5 dm_X11_keep_51 rfl rfl rfl ?_
  exact k _ _ rfl (Nat.le_of_ble_eq_true rfl) (Nat.le_of_ble_eq_true rfl) (Nat.le_of_ble_eq_true rfl)
set_option maxRecDepth 100000 in
set_option maxHeartbeats 40000000 in
theorem c_keep_v3 {xt : mj_X} {d : Nat} {h V : mj_H} (hn : h.length = 2) (hv : V.length = 25) {P : Option Value → mj_H → Prop}  (k : ∀ U D, U.length = 100 → mj_sl U ≤ 20000 → D.length ≤ 10 → mj_sl D ≤ 2000 → P (some (.int (1 : Int32))) (h ++ (U ++ (V ++ D)))) : pgE xt (d + 20) 11 2 false (Option.some FieldType.boolean) (mj_dec prog_1_method_15_code) 0 [(0, .ref 2), (1, .int (3 : Int32))] [] (h ++ (cT ++ (V ++ []))) P := by
  refine me1 (pc' := 1) dm_X11_keep_0 rfl rfl rfl rfl ?_
  refine me_1f (pc' := 4) dm_X11_keep_1 rfl (by decide) rfl ?_
  refine me1 (pc' := 5) dm_X11_keep_4 rfl rfl rfl rfl ?_
  refine me1 (pc' := 6) dm_X11_keep_5 rfl rfl rfl rfl ?_
  refine me3 (pc' := 9) dm_X11_keep_6 (g_get (v := .ref 15) (lu (n := 2) (j := 0) hn rfl) rfl rfl (Nat.le_of_ble_eq_true rfl)) rfl rfl rfl ?_
  refine me3 (pc' := 10) dm_X11_keep_9 (g_len (v := (4 : Int32)) (lu (n := 2) (j := 13) hn rfl) rfl rfl (Nat.le_of_ble_eq_true rfl)) rfl rfl rfl ?_
  refine me_2t (pc' := 15) dm_X11_keep_10 rfl rfl ?_
  refine me1 (pc' := 16) dm_X11_keep_15 rfl rfl rfl rfl ?_
  refine me3 (pc' := 19) dm_X11_keep_16 (g_get (v := .ref 15) (lu (n := 2) (j := 0) hn rfl) rfl rfl (Nat.le_of_ble_eq_true rfl)) rfl rfl rfl ?_
  refine me1 (pc' := 20) dm_X11_keep_19 rfl rfl rfl rfl ?_
  refine me3 (pc' := 21) dm_X11_keep_20 (g_aald (v := .null) (lu (n := 2) (j := 13) hn rfl) rfl (by decide) rfl (Nat.le_of_ble_eq_true rfl)) rfl rfl rfl ?_
  refine me2 (pc' := 24) dm_X11_keep_21 rfl rfl rfl ?_
  refine me1 (pc' := 25) dm_X11_keep_24 rfl rfl rfl rfl ?_
  refine me3 (pc' := 28) dm_X11_keep_25 (g_get (v := .ref 15) (lu (n := 2) (j := 0) hn rfl) rfl rfl (Nat.le_of_ble_eq_true rfl)) rfl rfl rfl ?_
  refine me1 (pc' := 29) dm_X11_keep_28 rfl rfl rfl rfl ?_
  refine me3 (pc' := 32) dm_X11_keep_29 (g_nw (a := 127) (ne_ (n := 2) (u := 100) (v := 25) (j := 0) hn rfl hv rfl) (ae _) rfl) rfl rfl rfl ?_
  refine me0 (pc' := 33) dm_X11_keep_32 rfl rfl rfl rfl ?_
  refine me4 (pc' := 36) (L0 := [(0, .ref 127)]) dm_X11_keep_33 rfl (g_invp (As := []) rfl rfl rfl) pm_X2_init rfl (Nat.le_of_ble_eq_true rfl) rfl rfl rfl ?_
  refine me1 (pc' := 1) dm_X2_init_0 rfl rfl rfl rfl ?_
  refine me4o (pc' := 4) dm_X2_init_1 rfl rfl (by omega) rfl rfl rfl ?_
  refine me1 (pc' := 5) dm_X2_init_4 rfl rfl rfl rfl ?_
  refine me0 (pc' := 7) (S' := .int (40 : Int32) :: _) dm_X2_init_5 rfl rfl rfl rfl ?_
  refine me3 (pc' := 9) dm_X2_init_7 (g_nwa (a := 128) (ne_ (n := 2) (u := 100) (v := 25) (j := 1) hn rfl hv rfl) (ae _) rfl (by decide)) rfl rfl rfl ?_
  refine me3 (pc' := 12) dm_X2_init_9 (g_put (fs' := [.ref 128, .null, .int (0 : Int32), .null, .null, .int (0 : Int32)]) (le_ (n := 2) (u := 100) (v := 25) (j := 0) hn rfl hv rfl) rfl (se (n := 2) (u := 100) (v := 25) (j := 0) hn rfl hv _) rfl (Nat.le_of_ble_eq_true rfl) rfl (by decide) (fun _ => rfl) (Nat.le_of_ble_eq_true rfl)) rfl rfl rfl ?_
  refine me1 (pc' := 13) dm_X2_init_12 rfl rfl rfl rfl ?_
  refine me0 (pc' := 15) (S' := .int (40 : Int32) :: _) dm_X2_init_13 rfl rfl rfl rfl ?_
  refine me3 (pc' := 18) dm_X2_init_15 (g_nwq (a := 129) (ne_ (n := 2) (u := 100) (v := 25) (j := 2) hn rfl hv rfl) (ae _) rfl (by decide)) rfl rfl rfl ?_
  refine me3 (pc' := 21) dm_X2_init_18 (g_put (fs' := [.ref 128, .ref 129, .int (0 : Int32), .null, .null, .int (0 : Int32)]) (le_ (n := 2) (u := 100) (v := 25) (j := 0) hn rfl hv rfl) rfl (se (n := 2) (u := 100) (v := 25) (j := 0) hn rfl hv _) rfl (Nat.le_of_ble_eq_true rfl) rfl (by decide) (fun _ => rfl) (Nat.le_of_ble_eq_true rfl)) rfl rfl rfl ?_
  refine me1 (pc' := 22) dm_X2_init_21 rfl rfl rfl rfl ?_
  refine me0 (pc' := 24) (S' := .int (40 : Int32) :: _) dm_X2_init_22 rfl rfl rfl rfl ?_
  refine me3 (pc' := 26) dm_X2_init_24 (g_nwa (a := 130) (ne_ (n := 2) (u := 100) (v := 25) (j := 3) hn rfl hv rfl) (ae _) rfl (by decide)) rfl rfl rfl ?_
  refine me3 (pc' := 29) dm_X2_init_26 (g_put (fs' := [.ref 128, .ref 129, .int (0 : Int32), .ref 130, .null, .int (0 : Int32)]) (le_ (n := 2) (u := 100) (v := 25) (j := 0) hn rfl hv rfl) rfl (se (n := 2) (u := 100) (v := 25) (j := 0) hn rfl hv _) rfl (Nat.le_of_ble_eq_true rfl) rfl (by decide) (fun _ => rfl) (Nat.le_of_ble_eq_true rfl)) rfl rfl rfl ?_
  refine me1 (pc' := 30) dm_X2_init_29 rfl rfl rfl rfl ?_
  refine me0 (pc' := 32) (S' := .int (40 : Int32) :: _) dm_X2_init_30 rfl rfl rfl rfl ?_
  refine me3 (pc' := 35) dm_X2_init_32 (g_nwq (a := 131) (ne_ (n := 2) (u := 100) (v := 25) (j := 4) hn rfl hv rfl) (ae _) rfl (by decide)) rfl rfl rfl ?_
  refine me3 (pc' := 38) dm_X2_init_35 (g_put (fs' := [.ref 128, .ref 129, .int (0 : Int32), .ref 130, .ref 131, .int (0 : Int32)]) (le_ (n := 2) (u := 100) (v := 25) (j := 0) hn rfl hv rfl) rfl (se (n := 2) (u := 100) (v := 25) (j := 0) hn rfl hv _) rfl (Nat.le_of_ble_eq_true rfl) rfl (by decide) (fun _ => rfl) (Nat.le_of_ble_eq_true rfl)) rfl rfl rfl ?_
  refine me5 dm_X2_init_38 rfl rfl rfl ?_
  refine me3 (pc' := 37) dm_X11_keep_36 (u_aastr (n := 2) (j := 13) hn rfl (le_ (n := 2) (u := 100) (v := 25) (j := 0) hn rfl hv rfl) rfl (by decide) rfl (Nat.le_of_ble_eq_true rfl) (Nat.le_of_ble_eq_true rfl)) rfl rfl rfl ?_
  refine me1 (pc' := 38) dm_X11_keep_37 rfl rfl rfl rfl ?_
  refine me3 (pc' := 41) dm_X11_keep_38 (g_get (v := .ref 15) (lu (n := 2) (j := 0) hn rfl) rfl rfl (Nat.le_of_ble_eq_true rfl)) rfl rfl rfl ?_
  refine me1 (pc' := 42) dm_X11_keep_41 rfl rfl rfl rfl ?_
  refine me3 (pc' := 43) dm_X11_keep_42 (g_aald (v := .ref 127) (lu (n := 2) (j := 13) hn rfl) rfl (by decide) rfl (Nat.le_of_ble_eq_true rfl)) rfl rfl rfl ?_
  refine me1 (pc' := 44) dm_X11_keep_43 rfl rfl rfl rfl ?_
  refine me3 (pc' := 47) dm_X11_keep_44 (g_get (v := .ref 4) (lu (n := 2) (j := 0) hn rfl) rfl rfl (Nat.le_of_ble_eq_true rfl)) rfl rfl rfl ?_
  refine me4 (pc' := 50) (L0 := [(0, .ref 127), (1, .ref 4)]) dm_X11_keep_47 rfl (g_inv (As := [.ref 4]) (le_ (n := 2) (u := 100) (v := 25) (j := 0) hn rfl hv rfl) rfl rfl rfl (Nat.le_of_ble_eq_true rfl)) pm_X2_copyOf rfl (Nat.le_of_ble_eq_true rfl) rfl rfl rfl ?_
  refine me1 (pc' := 1) dm_X2_copyOf_0 rfl rfl rfl rfl ?_
  refine me1 (pc' := 2) dm_X2_copyOf_1 rfl rfl rfl rfl ?_
  refine me3 (pc' := 5) dm_X2_copyOf_2 (g_get (v := .int (0 : Int32)) (lu (n := 2) (j := 2) hn rfl) rfl rfl (Nat.le_of_ble_eq_true rfl)) rfl rfl rfl ?_
  refine me3 (pc' := 8) dm_X2_copyOf_5 (g_put (fs' := [.ref 128, .ref 129, .int (0 : Int32), .ref 130, .ref 131, .int (0 : Int32)]) (le_ (n := 2) (u := 100) (v := 25) (j := 0) hn rfl hv rfl) rfl (se (n := 2) (u := 100) (v := 25) (j := 0) hn rfl hv _) rfl (Nat.le_of_ble_eq_true rfl) rfl (by decide) (fun z => by cases z) (Nat.le_of_ble_eq_true rfl)) rfl rfl rfl ?_
  refine me1 (pc' := 9) dm_X2_copyOf_8 rfl rfl rfl rfl ?_
  refine me1 (pc' := 10) dm_X2_copyOf_9 rfl rfl rfl rfl ?_
  refine me3 (pc' := 13) dm_X2_copyOf_10 (g_get (v := .int (0 : Int32)) (lu (n := 2) (j := 2) hn rfl) rfl rfl (Nat.le_of_ble_eq_true rfl)) rfl rfl rfl ?_
  refine me3 (pc' := 16) dm_X2_copyOf_13 (g_put (fs' := [.ref 128, .ref 129, .int (0 : Int32), .ref 130, .ref 131, .int (0 : Int32)]) (le_ (n := 2) (u := 100) (v := 25) (j := 0) hn rfl hv rfl) rfl (se (n := 2) (u := 100) (v := 25) (j := 0) hn rfl hv _) rfl (Nat.le_of_ble_eq_true rfl) rfl (by decide) (fun z => by cases z) (Nat.le_of_ble_eq_true rfl)) rfl rfl rfl ?_
  refine me0 (pc' := 17) (S' := .int (0 : Int32) :: _) dm_X2_copyOf_16 rfl rfl rfl rfl ?_
  refine me1 (pc' := 18) (L' := [(2, .int (0 : Int32)), (0, .ref 127), (1, .ref 4)]) dm_X2_copyOf_17 rfl rfl rfl rfl ?_
  refine me1 (pc' := 19) dm_X2_copyOf_18 rfl rfl rfl rfl ?_
  refine me0 (pc' := 21) (S' := .int (40 : Int32) :: _) dm_X2_copyOf_19 rfl rfl rfl rfl ?_
  refine me_2f (pc' := 24) dm_X2_copyOf_21 rfl (by decide) rfl ?_
  refine me1 (pc' := 25) dm_X2_copyOf_24 rfl rfl rfl rfl ?_
  refine me3 (pc' := 28) dm_X2_copyOf_25 (g_get (v := .ref 128) (le_ (n := 2) (u := 100) (v := 25) (j := 0) hn rfl hv rfl) rfl rfl (Nat.le_of_ble_eq_true rfl)) rfl rfl rfl ?_
  refine me1 (pc' := 29) dm_X2_copyOf_28 rfl rfl rfl rfl ?_
  refine me1 (pc' := 30) dm_X2_copyOf_29 rfl rfl rfl rfl ?_
  refine me3 (pc' := 33) dm_X2_copyOf_30 (g_get (v := .ref 5) (lu (n := 2) (j := 2) hn rfl) rfl rfl (Nat.le_of_ble_eq_true rfl)) rfl rfl rfl ?_
  refine me1 (pc' := 34) dm_X2_copyOf_33 rfl rfl rfl rfl ?_
  refine me3 (pc' := 35) dm_X2_copyOf_34 (g_lald (v := (0 : Int64)) (lu (n := 2) (j := 3) hn rfl) rfl (by decide) rfl (Nat.le_of_ble_eq_true rfl)) rfl rfl rfl ?_
  refine me3 (pc' := 36) dm_X2_copyOf_35 (g_last (le_ (n := 2) (u := 100) (v := 25) (j := 1) hn rfl hv rfl) (se (n := 2) (u := 100) (v := 25) (j := 1) hn rfl hv _) rfl (by decide) (Nat.le_of_ble_eq_true rfl)) rfl rfl rfl ?_
  refine me1 (pc' := 37) dm_X2_copyOf_36 rfl rfl rfl rfl ?_
  refine me3 (pc' := 40) dm_X2_copyOf_37 (g_get (v := .ref 129) (le_ (n := 2) (u := 100) (v := 25) (j := 0) hn rfl hv rfl) rfl rfl (Nat.le_of_ble_eq_true rfl)) rfl rfl rfl ?_
  refine me1 (pc' := 41) dm_X2_copyOf_40 rfl rfl rfl rfl ?_
  refine me1 (pc' := 42) dm_X2_copyOf_41 rfl rfl rfl rfl ?_
  refine me3 (pc' := 45) dm_X2_copyOf_42 (g_get (v := .ref 6) (lu (n := 2) (j := 2) hn rfl) rfl rfl (Nat.le_of_ble_eq_true rfl)) rfl rfl rfl ?_
  refine me1 (pc' := 46) dm_X2_copyOf_45 rfl rfl rfl rfl ?_
  refine me3 (pc' := 47) dm_X2_copyOf_46 (g_aald (v := .null) (lu (n := 2) (j := 4) hn rfl) rfl (by decide) rfl (Nat.le_of_ble_eq_true rfl)) rfl rfl rfl ?_
  refine me3 (pc' := 48) dm_X2_copyOf_47 (g_aastn (le_ (n := 2) (u := 100) (v := 25) (j := 2) hn rfl hv rfl) (se (n := 2) (u := 100) (v := 25) (j := 2) hn rfl hv _) rfl (by decide) (Nat.le_of_ble_eq_true rfl)) rfl rfl rfl ?_
  refine me1 (pc' := 49) dm_X2_copyOf_48 rfl rfl rfl rfl ?_
  refine me3 (pc' := 52) dm_X2_copyOf_49 (g_get (v := .ref 130) (le_ (n := 2) (u := 100) (v := 25) (j := 0) hn rfl hv rfl) rfl rfl (Nat.le_of_ble_eq_true rfl)) rfl rfl rfl ?_
  refine me1 (pc' := 53) dm_X2_copyOf_52 rfl rfl rfl rfl ?_
  refine me1 (pc' := 54) dm_X2_copyOf_53 rfl rfl rfl rfl ?_
  refine me3 (pc' := 57) dm_X2_copyOf_54 (g_get (v := .ref 7) (lu (n := 2) (j := 2) hn rfl) rfl rfl (Nat.le_of_ble_eq_true rfl)) rfl rfl rfl ?_
  refine me1 (pc' := 58) dm_X2_copyOf_57 rfl rfl rfl rfl ?_
  refine me3 (pc' := 59) dm_X2_copyOf_58 (g_lald (v := (0 : Int64)) (lu (n := 2) (j := 5) hn rfl) rfl (by decide) rfl (Nat.le_of_ble_eq_true rfl)) rfl rfl rfl ?_
  refine me3 (pc' := 60) dm_X2_copyOf_59 (g_last (le_ (n := 2) (u := 100) (v := 25) (j := 3) hn rfl hv rfl) (se (n := 2) (u := 100) (v := 25) (j := 3) hn rfl hv _) rfl (by decide) (Nat.le_of_ble_eq_true rfl)) rfl rfl rfl ?_
  refine me1 (pc' := 61) dm_X2_copyOf_60 rfl rfl rfl rfl ?_
  refine me3 (pc' := 64) dm_X2_copyOf_61 (g_get (v := .ref 131) (le_ (n := 2) (u := 100) (v := 25) (j := 0) hn rfl hv rfl) rfl rfl (Nat.le_of_ble_eq_true rfl)) rfl rfl rfl ?_
  refine me1 (pc' := 65) dm_X2_copyOf_64 rfl rfl rfl rfl ?_
  refine me1 (pc' := 66) dm_X2_copyOf_65 rfl rfl rfl rfl ?_
  refine me3 (pc' := 69) dm_X2_copyOf_66 (g_get (v := .ref 8) (lu (n := 2) (j := 2) hn rfl) rfl rfl (Nat.le_of_ble_eq_true rfl)) rfl rfl rfl ?_
  refine me1 (pc' := 70) dm_X2_copyOf_69 rfl rfl rfl rfl ?_
  refine me3 (pc' := 71) dm_X2_copyOf_70 (g_aald (v := .null) (lu (n := 2) (j := 6) hn rfl) rfl (by decide) rfl (Nat.le_of_ble_eq_true rfl)) rfl rfl rfl ?_
  refine me3 (pc' := 72) dm_X2_copyOf_71 (g_aastn (le_ (n := 2) (u := 100) (v := 25) (j := 4) hn rfl hv rfl) (se (n := 2) (u := 100) (v := 25) (j := 4) hn rfl hv _) rfl (by decide) (Nat.le_of_ble_eq_true rfl)) rfl rfl rfl ?_
  refine me1 (pc' := 75) (L' := [(2, .int (1 : Int32)), (0, .ref 127), (1, .ref 4)]) dm_X2_copyOf_72 rfl rfl rfl rfl ?_
  refine me2 (pc' := 18) dm_X2_copyOf_75 rfl rfl rfl ?_
  refine me1 (pc' := 19) dm_X2_copyOf_18 rfl rfl rfl rfl ?_
  refine me0 (pc' := 21) (S' := .int (40 : Int32) :: _) dm_X2_copyOf_19 rfl rfl rfl rfl ?_
  refine me_2f (pc' := 24) dm_X2_copyOf_21 rfl (by decide) rfl ?_
  refine me1 (pc' := 25) dm_X2_copyOf_24 rfl rfl rfl rfl ?_
  refine me3 (pc' := 28) dm_X2_copyOf_25 (g_get (v := .ref 128) (le_ (n := 2) (u := 100) (v := 25) (j := 0) hn rfl hv rfl) rfl rfl (Nat.le_of_ble_eq_true rfl)) rfl rfl rfl ?_
  refine me1 (pc' := 29) dm_X2_copyOf_28 rfl rfl rfl rfl ?_
  refine me1 (pc' := 30) dm_X2_copyOf_29 rfl rfl rfl rfl ?_
  refine me3 (pc' := 33) dm_X2_copyOf_30 (g_get (v := .ref 5) (lu (n := 2) (j := 2) hn rfl) rfl rfl (Nat.le_of_ble_eq_true rfl)) rfl rfl rfl ?_
  refine me1 (pc' := 34) dm_X2_copyOf_33 rfl rfl rfl rfl ?_
  refine me3 (pc' := 35) dm_X2_copyOf_34 (g_lald (v := (0 : Int64)) (lu (n := 2) (j := 3) hn rfl) rfl (by decide) rfl (Nat.le_of_ble_eq_true rfl)) rfl rfl rfl ?_
  refine me3 (pc' := 36) dm_X2_copyOf_35 (g_last (le_ (n := 2) (u := 100) (v := 25) (j := 1) hn rfl hv rfl) (se (n := 2) (u := 100) (v := 25) (j := 1) hn rfl hv _) rfl (by decide) (Nat.le_of_ble_eq_true rfl)) rfl rfl rfl ?_
  refine me1 (pc' := 37) dm_X2_copyOf_36 rfl rfl rfl rfl ?_
  refine me3 (pc' := 40) dm_X2_copyOf_37 (g_get (v := .ref 129) (le_ (n := 2) (u := 100) (v := 25) (j := 0) hn rfl hv rfl) rfl rfl (Nat.le_of_ble_eq_true rfl)) rfl rfl rfl ?_
  refine me1 (pc' := 41) dm_X2_copyOf_40 rfl rfl rfl rfl ?_
  refine me1 (pc' := 42) dm_X2_copyOf_41 rfl rfl rfl rfl ?_
  refine me3 (pc' := 45) dm_X2_copyOf_42 (g_get (v := .ref 6) (lu (n := 2) (j := 2) hn rfl) rfl rfl (Nat.le_of_ble_eq_true rfl)) rfl rfl rfl ?_
  refine me1 (pc' := 46) dm_X2_copyOf_45 rfl rfl rfl rfl ?_
  refine me3 (pc' := 47) dm_X2_copyOf_46 (g_aald (v := .null) (lu (n := 2) (j := 4) hn rfl) rfl (by decide) rfl (Nat.le_of_ble_eq_true rfl)) rfl rfl rfl ?_
  refine me3 (pc' := 48) dm_X2_copyOf_47 (g_aastn (le_ (n := 2) (u := 100) (v := 25) (j := 2) hn rfl hv rfl) (se (n := 2) (u := 100) (v := 25) (j := 2) hn rfl hv _) rfl (by decide) (Nat.le_of_ble_eq_true rfl)) rfl rfl rfl ?_
  refine me1 (pc' := 49) dm_X2_copyOf_48 rfl rfl rfl rfl ?_
  refine me3 (pc' := 52) dm_X2_copyOf_49 (g_get (v := .ref 130) (le_ (n := 2) (u := 100) (v := 25) (j := 0) hn rfl hv rfl) rfl rfl (Nat.le_of_ble_eq_true rfl)) rfl rfl rfl ?_
  refine me1 (pc' := 53) dm_X2_copyOf_52 rfl rfl rfl rfl ?_
  refine me1 (pc' := 54) dm_X2_copyOf_53 rfl rfl rfl rfl ?_
  refine me3 (pc' := 57) dm_X2_copyOf_54 (g_get (v := .ref 7) (lu (n := 2) (j := 2) hn rfl) rfl rfl (Nat.le_of_ble_eq_true rfl)) rfl rfl rfl ?_
  refine me1 (pc' := 58) dm_X2_copyOf_57 rfl rfl rfl rfl ?_
  refine me3 (pc' := 59) dm_X2_copyOf_58 (g_lald (v := (0 : Int64)) (lu (n := 2) (j := 5) hn rfl) rfl (by decide) rfl (Nat.le_of_ble_eq_true rfl)) rfl rfl rfl ?_
  refine me3 (pc' := 60) dm_X2_copyOf_59 (g_last (le_ (n := 2) (u := 100) (v := 25) (j := 3) hn rfl hv rfl) (se (n := 2) (u := 100) (v := 25) (j := 3) hn rfl hv _) rfl (by decide) (Nat.le_of_ble_eq_true rfl)) rfl rfl rfl ?_
  refine me1 (pc' := 61) dm_X2_copyOf_60 rfl rfl rfl rfl ?_
  refine me3 (pc' := 64) dm_X2_copyOf_61 (g_get (v := .ref 131) (le_ (n := 2) (u := 100) (v := 25) (j := 0) hn rfl hv rfl) rfl rfl (Nat.le_of_ble_eq_true rfl)) rfl rfl rfl ?_
  refine me1 (pc' := 65) dm_X2_copyOf_64 rfl rfl rfl rfl ?_
  refine me1 (pc' := 66) dm_X2_copyOf_65 rfl rfl rfl rfl ?_
  refine me3 (pc' := 69) dm_X2_copyOf_66 (g_get (v := .ref 8) (lu (n := 2) (j := 2) hn rfl) rfl rfl (Nat.le_of_ble_eq_true rfl)) rfl rfl rfl ?_
  refine me1 (pc' := 70) dm_X2_copyOf_69 rfl rfl rfl rfl ?_
  refine me3 (pc' := 71) dm_X2_copyOf_70 (g_aald (v := .null) (lu (n := 2) (j := 6) hn rfl) rfl (by decide) rfl (Nat.le_of_ble_eq_true rfl)) rfl rfl rfl ?_
  refine me3 (pc' := 72) dm_X2_copyOf_71 (g_aastn (le_ (n := 2) (u := 100) (v := 25) (j := 4) hn rfl hv rfl) (se (n := 2) (u := 100) (v := 25) (j := 4) hn rfl hv _) rfl (by decide) (Nat.le_of_ble_eq_true rfl)) rfl rfl rfl ?_
  refine me1 (pc' := 75) (L' := [(2, .int (2 : Int32)), (0, .ref 127), (1, .ref 4)]) dm_X2_copyOf_72 rfl rfl rfl rfl ?_
  refine me2 (pc' := 18) dm_X2_copyOf_75 rfl rfl rfl ?_
  refine me1 (pc' := 19) dm_X2_copyOf_18 rfl rfl rfl rfl ?_
  refine me0 (pc' := 21) (S' := .int (40 : Int32) :: _) dm_X2_copyOf_19 rfl rfl rfl rfl ?_
  refine me_2f (pc' := 24) dm_X2_copyOf_21 rfl (by decide) rfl ?_
  refine me1 (pc' := 25) dm_X2_copyOf_24 rfl rfl rfl rfl ?_
  refine me3 (pc' := 28) dm_X2_copyOf_25 (g_get (v := .ref 128) (le_ (n := 2) (u := 100) (v := 25) (j := 0) hn rfl hv rfl) rfl rfl (Nat.le_of_ble_eq_true rfl)) rfl rfl rfl ?_
  refine me1 (pc' := 29) dm_X2_copyOf_28 rfl rfl rfl rfl ?_
  refine me1 (pc' := 30) dm_X2_copyOf_29 rfl rfl rfl rfl ?_
  refine me3 (pc' := 33) dm_X2_copyOf_30 (g_get (v := .ref 5) (lu (n := 2) (j := 2) hn rfl) rfl rfl (Nat.le_of_ble_eq_true rfl)) rfl rfl rfl ?_
  refine me1 (pc' := 34) dm_X2_copyOf_33 rfl rfl rfl rfl ?_
  refine me3 (pc' := 35) dm_X2_copyOf_34 (g_lald (v := (0 : Int64)) (lu (n := 2) (j := 3) hn rfl) rfl (by decide) rfl (Nat.le_of_ble_eq_true rfl)) rfl rfl rfl ?_
  refine me3 (pc' := 36) dm_X2_copyOf_35 (g_last (le_ (n := 2) (u := 100) (v := 25) (j := 1) hn rfl hv rfl) (se (n := 2) (u := 100) (v := 25) (j := 1) hn rfl hv _) rfl (by decide) (Nat.le_of_ble_eq_true rfl)) rfl rfl rfl ?_
  refine me1 (pc' := 37) dm_X2_copyOf_36 rfl rfl rfl rfl ?_
  refine me3 (pc' := 40) dm_X2_copyOf_37 (g_get (v := .ref 129) (le_ (n := 2) (u := 100) (v := 25) (j := 0) hn rfl hv rfl) rfl rfl (Nat.le_of_ble_eq_true rfl)) rfl rfl rfl ?_
  refine me1 (pc' := 41) dm_X2_copyOf_40 rfl rfl rfl rfl ?_
  refine me1 (pc' := 42) dm_X2_copyOf_41 rfl rfl rfl rfl ?_
  refine me3 (pc' := 45) dm_X2_copyOf_42 (g_get (v := .ref 6) (lu (n := 2) (j := 2) hn rfl) rfl rfl (Nat.le_of_ble_eq_true rfl)) rfl rfl rfl ?_
  refine me1 (pc' := 46) dm_X2_copyOf_45 rfl rfl rfl rfl ?_
  refine me3 (pc' := 47) dm_X2_copyOf_46 (g_aald (v := .null) (lu (n := 2) (j := 4) hn rfl) rfl (by decide) rfl (Nat.le_of_ble_eq_true rfl)) rfl rfl rfl ?_
  refine me3 (pc' := 48) dm_X2_copyOf_47 (g_aastn (le_ (n := 2) (u := 100) (v := 25) (j := 2) hn rfl hv rfl) (se (n := 2) (u := 100) (v := 25) (j := 2) hn rfl hv _) rfl (by decide) (Nat.le_of_ble_eq_true rfl)) rfl rfl rfl ?_
  refine me1 (pc' := 49) dm_X2_copyOf_48 rfl rfl rfl rfl ?_
  refine me3 (pc' := 52) dm_X2_copyOf_49 (g_get (v := .ref 130) (le_ (n := 2) (u := 100) (v := 25) (j := 0) hn rfl hv rfl) rfl rfl (Nat.le_of_ble_eq_true rfl)) rfl rfl rfl ?_
  refine me1 (pc' := 53) dm_X2_copyOf_52 rfl rfl rfl rfl ?_
  refine me1 (pc' := 54) dm_X2_copyOf_53 rfl rfl rfl rfl ?_
  refine me3 (pc' := 57) dm_X2_copyOf_54 (g_get (v := .ref 7) (lu (n := 2) (j := 2) hn rfl) rfl rfl (Nat.le_of_ble_eq_true rfl)) rfl rfl rfl ?_
  refine me1 (pc' := 58) dm_X2_copyOf_57 rfl rfl rfl rfl ?_
  refine me3 (pc' := 59) dm_X2_copyOf_58 (g_lald (v := (0 : Int64)) (lu (n := 2) (j := 5) hn rfl) rfl (by decide) rfl (Nat.le_of_ble_eq_true rfl)) rfl rfl rfl ?_
  refine me3 (pc' := 60) dm_X2_copyOf_59 (g_last (le_ (n := 2) (u := 100) (v := 25) (j := 3) hn rfl hv rfl) (se (n := 2) (u := 100) (v := 25) (j := 3) hn rfl hv _) rfl (by decide) (Nat.le_of_ble_eq_true rfl)) rfl rfl rfl ?_
  refine me1 (pc' := 61) dm_X2_copyOf_60 rfl rfl rfl rfl ?_
  refine me3 (pc' := 64) dm_X2_copyOf_61 (g_get (v := .ref 131) (le_ (n := 2) (u := 100) (v := 25) (j := 0) hn rfl hv rfl) rfl rfl (Nat.le_of_ble_eq_true rfl)) rfl rfl rfl ?_
  refine me1 (pc' := 65) dm_X2_copyOf_64 rfl rfl rfl rfl ?_
  refine me1 (pc' := 66) dm_X2_copyOf_65 rfl rfl rfl rfl ?_
  refine me3 (pc' := 69) dm_X2_copyOf_66 (g_get (v := .ref 8) (lu (n := 2) (j := 2) hn rfl) rfl rfl (Nat.le_of_ble_eq_true rfl)) rfl rfl rfl ?_
  refine me1 (pc' := 70) dm_X2_copyOf_69 rfl rfl rfl rfl ?_
  refine me3 (pc' := 71) dm_X2_copyOf_70 (g_aald (v := .null) (lu (n := 2) (j := 6) hn rfl) rfl (by decide) rfl (Nat.le_of_ble_eq_true rfl)) rfl rfl rfl ?_
  refine me3 (pc' := 72) dm_X2_copyOf_71 (g_aastn (le_ (n := 2) (u := 100) (v := 25) (j := 4) hn rfl hv rfl) (se (n := 2) (u := 100) (v := 25) (j := 4) hn rfl hv _) rfl (by decide) (Nat.le_of_ble_eq_true rfl)) rfl rfl rfl ?_
  refine me1 (pc' := 75) (L' := [(2, .int (3 : Int32)), (0, .ref 127), (1, .ref 4)]) dm_X2_copyOf_72 rfl rfl rfl rfl ?_
  refine me2 (pc' := 18) dm_X2_copyOf_75 rfl rfl rfl ?_
  refine me1 (pc' := 19) dm_X2_copyOf_18 rfl rfl rfl rfl ?_
  refine me0 (pc' := 21) (S' := .int (40 : Int32) :: _) dm_X2_copyOf_19 rfl rfl rfl rfl ?_
  refine me_2f (pc' := 24) dm_X2_copyOf_21 rfl (by decide) rfl ?_
  refine me1 (pc' := 25) dm_X2_copyOf_24 rfl rfl rfl rfl ?_
  refine me3 (pc' := 28) dm_X2_copyOf_25 (g_get (v := .ref 128) (le_ (n := 2) (u := 100) (v := 25) (j := 0) hn rfl hv rfl) rfl rfl (Nat.le_of_ble_eq_true rfl)) rfl rfl rfl ?_
  refine me1 (pc' := 29) dm_X2_copyOf_28 rfl rfl rfl rfl ?_
  refine me1 (pc' := 30) dm_X2_copyOf_29 rfl rfl rfl rfl ?_
  refine me3 (pc' := 33) dm_X2_copyOf_30 (g_get (v := .ref 5) (lu (n := 2) (j := 2) hn rfl) rfl rfl (Nat.le_of_ble_eq_true rfl)) rfl rfl rfl ?_
  refine me1 (pc' := 34) dm_X2_copyOf_33 rfl rfl rfl rfl ?_
  refine me3 (pc' := 35) dm_X2_copyOf_34 (g_lald (v := (0 : Int64)) (lu (n := 2) (j := 3) hn rfl) rfl (by decide) rfl (Nat.le_of_ble_eq_true rfl)) rfl rfl rfl ?_
  refine me3 (pc' := 36) dm_X2_copyOf_35 (g_last (le_ (n := 2) (u := 100) (v := 25) (j := 1) hn rfl hv rfl) (se (n := 2) (u := 100) (v := 25) (j := 1) hn rfl hv _) rfl (by decide) (Nat.le_of_ble_eq_true rfl)) rfl rfl rfl ?_
  refine me1 (pc' := 37) dm_X2_copyOf_36 rfl rfl rfl rfl ?_
  refine me3 (pc' := 40) dm_X2_copyOf_37 (g_get (v := .ref 129) (le_ (n := 2) (u := 100) (v := 25) (j := 0) hn rfl hv rfl) rfl rfl (Nat.le_of_ble_eq_true rfl)) rfl rfl rfl ?_
  refine me1 (pc' := 41) dm_X2_copyOf_40 rfl rfl rfl rfl ?_
  refine me1 (pc' := 42) dm_X2_copyOf_41 rfl rfl rfl rfl ?_
  refine me3 (pc' := 45) dm_X2_copyOf_42 (g_get (v := .ref 6) (lu (n := 2) (j := 2) hn rfl) rfl rfl (Nat.le_of_ble_eq_true rfl)) rfl rfl rfl ?_
  refine me1 (pc' := 46) dm_X2_copyOf_45 rfl rfl rfl rfl ?_
  refine me3 (pc' := 47) dm_X2_copyOf_46 (g_aald (v := .null) (lu (n := 2) (j := 4) hn rfl) rfl (by decide) rfl (Nat.le_of_ble_eq_true rfl)) rfl rfl rfl ?_
  refine me3 (pc' := 48) dm_X2_copyOf_47 (g_aastn (le_ (n := 2) (u := 100) (v := 25) (j := 2) hn rfl hv rfl) (se (n := 2) (u := 100) (v := 25) (j := 2) hn rfl hv _) rfl (by decide) (Nat.le_of_ble_eq_true rfl)) rfl rfl rfl ?_
  refine me1 (pc' := 49) dm_X2_copyOf_48 rfl rfl rfl rfl ?_
  refine me3 (pc' := 52) dm_X2_copyOf_49 (g_get (v := .ref 130) (le_ (n := 2) (u := 100) (v := 25) (j := 0) hn rfl hv rfl) rfl rfl (Nat.le_of_ble_eq_true rfl)) rfl rfl rfl ?_
  refine me1 (pc' := 53) dm_X2_copyOf_52 rfl rfl rfl rfl ?_
  refine me1 (pc' := 54) dm_X2_copyOf_53 rfl rfl rfl rfl ?_
  refine me3 (pc' := 57) dm_X2_copyOf_54 (g_get (v := .ref 7) (lu (n := 2) (j := 2) hn rfl) rfl rfl (Nat.le_of_ble_eq_true rfl)) rfl rfl rfl ?_
  refine me1 (pc' := 58) dm_X2_copyOf_57 rfl rfl rfl rfl ?_
  refine me3 (pc' := 59) dm_X2_copyOf_58 (g_lald (v := (0 : Int64)) (lu (n := 2) (j := 5) hn rfl) rfl (by decide) rfl (Nat.le_of_ble_eq_true rfl)) rfl rfl rfl ?_
  refine me3 (pc' := 60) dm_X2_copyOf_59 (g_last (le_ (n := 2) (u := 100) (v := 25) (j := 3) hn rfl hv rfl) (se (n := 2) (u := 100) (v := 25) (j := 3) hn rfl hv _) rfl (by decide) (Nat.le_of_ble_eq_true rfl)) rfl rfl rfl ?_
  refine me1 (pc' := 61) dm_X2_copyOf_60 rfl rfl rfl rfl ?_
  refine me3 (pc' := 64) dm_X2_copyOf_61 (g_get (v := .ref 131) (le_ (n := 2) (u := 100) (v := 25) (j := 0) hn rfl hv rfl) rfl rfl (Nat.le_of_ble_eq_true rfl)) rfl rfl rfl ?_
  refine me1 (pc' := 65) dm_X2_copyOf_64 rfl rfl rfl rfl ?_
  refine me1 (pc' := 66) dm_X2_copyOf_65 rfl rfl rfl rfl ?_
  refine me3 (pc' := 69) dm_X2_copyOf_66 (g_get (v := .ref 8) (lu (n := 2) (j := 2) hn rfl) rfl rfl (Nat.le_of_ble_eq_true rfl)) rfl rfl rfl ?_
  refine me1 (pc' := 70) dm_X2_copyOf_69 rfl rfl rfl rfl ?_
  refine me3 (pc' := 71) dm_X2_copyOf_70 (g_aald (v := .null) (lu (n := 2) (j := 6) hn rfl) rfl (by decide) rfl (Nat.le_of_ble_eq_true rfl)) rfl rfl rfl ?_
  refine me3 (pc' := 72) dm_X2_copyOf_71 (g_aastn (le_ (n := 2) (u := 100) (v := 25) (j := 4) hn rfl hv rfl) (se (n := 2) (u := 100) (v := 25) (j := 4) hn rfl hv _) rfl (by decide) (Nat.le_of_ble_eq_true rfl)) rfl rfl rfl ?_
  refine me1 (pc' := 75) (L' := [(2, .int (4 : Int32)), (0, .ref 127), (1, .ref 4)]) dm_X2_copyOf_72 rfl rfl rfl rfl ?_
  refine me2 (pc' := 18) dm_X2_copyOf_75 rfl rfl rfl ?_
  refine me1 (pc' := 19) dm_X2_copyOf_18 rfl rfl rfl rfl ?_
  refine me0 (pc' := 21) (S' := .int (40 : Int32) :: _) dm_X2_copyOf_19 rfl rfl rfl rfl ?_
  refine me_2f (pc' := 24) dm_X2_copyOf_21 rfl (by decide) rfl ?_
  refine me1 (pc' := 25) dm_X2_copyOf_24 rfl rfl rfl rfl ?_
  refine me3 (pc' := 28) dm_X2_copyOf_25 (g_get (v := .ref 128) (le_ (n := 2) (u := 100) (v := 25) (j := 0) hn rfl hv rfl) rfl rfl (Nat.le_of_ble_eq_true rfl)) rfl rfl rfl ?_
  refine me1 (pc' := 29) dm_X2_copyOf_28 rfl rfl rfl rfl ?_
  refine me1 (pc' := 30) dm_X2_copyOf_29 rfl rfl rfl rfl ?_
  refine me3 (pc' := 33) dm_X2_copyOf_30 (g_get (v := .ref 5) (lu (n := 2) (j := 2) hn rfl) rfl rfl (Nat.le_of_ble_eq_true rfl)) rfl rfl rfl ?_
  refine me1 (pc' := 34) dm_X2_copyOf_33 rfl rfl rfl rfl ?_
  refine me3 (pc' := 35) dm_X2_copyOf_34 (g_lald (v := (0 : Int64)) (lu (n := 2) (j := 3) hn rfl) rfl (by decide) rfl (Nat.le_of_ble_eq_true rfl)) rfl rfl rfl ?_
  refine me3 (pc' := 36) dm_X2_copyOf_35 (g_last (le_ (n := 2) (u := 100) (v := 25) (j := 1) hn rfl hv rfl) (se (n := 2) (u := 100) (v := 25) (j := 1) hn rfl hv _) rfl (by decide) (Nat.le_of_ble_eq_true rfl)) rfl rfl rfl ?_
  refine me1 (pc' := 37) dm_X2_copyOf_36 rfl rfl rfl rfl ?_
  refine me3 (pc' := 40) dm_X2_copyOf_37 (g_get (v := .ref 129) (le_ (n := 2) (u := 100) (v := 25) (j := 0) hn rfl hv rfl) rfl rfl (Nat.le_of_ble_eq_true rfl)) rfl rfl rfl ?_
  refine me1 (pc' := 41) dm_X2_copyOf_40 rfl rfl rfl rfl ?_
  refine me1 (pc' := 42) dm_X2_copyOf_41 rfl rfl rfl rfl ?_
  refine me3 (pc' := 45) dm_X2_copyOf_42 (g_get (v := .ref 6) (lu (n := 2) (j := 2) hn rfl) rfl rfl (Nat.le_of_ble_eq_true rfl)) rfl rfl rfl ?_
  refine me1 (pc' := 46) dm_X2_copyOf_45 rfl rfl rfl rfl ?_
  refine me3 (pc' := 47) dm_X2_copyOf_46 (g_aald (v := .null) (lu (n := 2) (j := 4) hn rfl) rfl (by decide) rfl (Nat.le_of_ble_eq_true rfl)) rfl rfl rfl ?_
  refine me3 (pc' := 48) dm_X2_copyOf_47 (g_aastn (le_ (n := 2) (u := 100) (v := 25) (j := 2) hn rfl hv rfl) (se (n := 2) (u := 100) (v := 25) (j := 2) hn rfl hv _) rfl (by decide) (Nat.le_of_ble_eq_true rfl)) rfl rfl rfl ?_
  refine me1 (pc' := 49) dm_X2_copyOf_48 rfl rfl rfl rfl ?_
  refine me3 (pc' := 52) dm_X2_copyOf_49 (g_get (v := .ref 130) (le_ (n := 2) (u := 100) (v := 25) (j := 0) hn rfl hv rfl) rfl rfl (Nat.le_of_ble_eq_true rfl)) rfl rfl rfl ?_
  refine me1 (pc' := 53) dm_X2_copyOf_52 rfl rfl rfl rfl ?_
  refine me1 (pc' := 54) dm_X2_copyOf_53 rfl rfl rfl rfl ?_
  refine me3 (pc' := 57) dm_X2_copyOf_54 (g_get (v := .ref 7) (lu (n := 2) (j := 2) hn rfl) rfl rfl (Nat.le_of_ble_eq_true rfl)) rfl rfl rfl ?_
  refine me1 (pc' := 58) dm_X2_copyOf_57 rfl rfl rfl rfl ?_
  refine me3 (pc' := 59) dm_X2_copyOf_58 (g_lald (v := (0 : Int64)) (lu (n := 2) (j := 5) hn rfl) rfl (by decide) rfl (Nat.le_of_ble_eq_true rfl)) rfl rfl rfl ?_
  refine me3 (pc' := 60) dm_X2_copyOf_59 (g_last (le_ (n := 2) (u := 100) (v := 25) (j := 3) hn rfl hv rfl) (se (n := 2) (u := 100) (v := 25) (j := 3) hn rfl hv _) rfl (by decide) (Nat.le_of_ble_eq_true rfl)) rfl rfl rfl ?_
  refine me1 (pc' := 61) dm_X2_copyOf_60 rfl rfl rfl rfl ?_
  refine me3 (pc' := 64) dm_X2_copyOf_61 (g_get (v := .ref 131) (le_ (n := 2) (u := 100) (v := 25) (j := 0) hn rfl hv rfl) rfl rfl (Nat.le_of_ble_eq_true rfl)) rfl rfl rfl ?_
  refine me1 (pc' := 65) dm_X2_copyOf_64 rfl rfl rfl rfl ?_
  refine me1 (pc' := 66) dm_X2_copyOf_65 rfl rfl rfl rfl ?_
  refine me3 (pc' := 69) dm_X2_copyOf_66 (g_get (v := .ref 8) (lu (n := 2) (j := 2) hn rfl) rfl rfl (Nat.le_of_ble_eq_true rfl)) rfl rfl rfl ?_
  refine me1 (pc' := 70) dm_X2_copyOf_69 rfl rfl rfl rfl ?_
  refine me3 (pc' := 71) dm_X2_copyOf_70 (g_aald (v := .null) (lu (n := 2) (j := 6) hn rfl) rfl (by decide) rfl (Nat.le_of_ble_eq_true rfl)) rfl rfl rfl ?_
  refine me3 (pc' := 72) dm_X2_copyOf_71 (g_aastn (le_ (n := 2) (u := 100) (v := 25) (j := 4) hn rfl hv rfl) (se (n := 2) (u := 100) (v := 25) (j := 4) hn rfl hv _) rfl (by decide) (Nat.le_of_ble_eq_true rfl)) rfl rfl rfl ?_
  refine me1 (pc' := 75) (L' := [(2, .int (5 : Int32)), (0, .ref 127), (1, .ref 4)]) dm_X2_copyOf_72 rfl rfl rfl rfl ?_
  refine me2 (pc' := 18) dm_X2_copyOf_75 rfl rfl rfl ?_
  refine me1 (pc' := 19) dm_X2_copyOf_18 rfl rfl rfl rfl ?_
  refine me0 (pc' := 21) (S' := .int (40 : Int32) :: _) dm_X2_copyOf_19 rfl rfl rfl rfl ?_
  refine me_2f (pc' := 24) dm_X2_copyOf_21 rfl (by decide) rfl ?_
  refine me1 (pc' := 25) dm_X2_copyOf_24 rfl rfl rfl rfl ?_
  refine me3 (pc' := 28) dm_X2_copyOf_25 (g_get (v := .ref 128) (le_ (n := 2) (u := 100) (v := 25) (j := 0) hn rfl hv rfl) rfl rfl (Nat.le_of_ble_eq_true rfl)) rfl rfl rfl ?_
  refine me1 (pc' := 29) dm_X2_copyOf_28 rfl rfl rfl rfl ?_
  refine me1 (pc' := 30) dm_X2_copyOf_29 rfl rfl rfl rfl ?_
  refine me3 (pc' := 33) dm_X2_copyOf_30 (g_get (v := .ref 5) (lu (n := 2) (j := 2) hn rfl) rfl rfl (Nat.le_of_ble_eq_true rfl)) rfl rfl rfl ?_
  refine me1 (pc' := 34) dm_X2_copyOf_33 rfl rfl rfl rfl ?_
  refine me3 (pc' := 35) dm_X2_copyOf_34 (g_lald (v := (0 : Int64)) (lu (n := 2) (j := 3) hn rfl) rfl (by decide) rfl (Nat.le_of_ble_eq_true rfl)) rfl rfl rfl ?_
  refine me3 (pc' := 36) dm_X2_copyOf_35 (g_last (le_ (n := 2) (u := 100) (v := 25) (j := 1) hn rfl hv rfl) (se (n := 2) (u := 100) (v := 25) (j := 1) hn rfl hv _) rfl (by decide) (Nat.le_of_ble_eq_true rfl)) rfl rfl rfl ?_
  refine me1 (pc' := 37) dm_X2_copyOf_36 rfl rfl rfl rfl ?_
  refine me3 (pc' := 40) dm_X2_copyOf_37 (g_get (v := .ref 129) (le_ (n := 2) (u := 100) (v := 25) (j := 0) hn rfl hv rfl) rfl rfl (Nat.le_of_ble_eq_true rfl)) rfl rfl rfl ?_
  refine me1 (pc' := 41) dm_X2_copyOf_40 rfl rfl rfl rfl ?_
  refine me1 (pc' := 42) dm_X2_copyOf_41 rfl rfl rfl rfl ?_
  refine me3 (pc' := 45) dm_X2_copyOf_42 (g_get (v := .ref 6) (lu (n := 2) (j := 2) hn rfl) rfl rfl (Nat.le_of_ble_eq_true rfl)) rfl rfl rfl ?_
  refine me1 (pc' := 46) dm_X2_copyOf_45 rfl rfl rfl rfl ?_
  refine me3 (pc' := 47) dm_X2_copyOf_46 (g_aald (v := .null) (lu (n := 2) (j := 4) hn rfl) rfl (by decide) rfl (Nat.le_of_ble_eq_true rfl)) rfl rfl rfl ?_
  refine me3 (pc' := 48) dm_X2_copyOf_47 (g_aastn (le_ (n := 2) (u := 100) (v := 25) (j := 2) hn rfl hv rfl) (se (n := 2) (u := 100) (v := 25) (j := 2) hn rfl hv _) rfl (by decide) (Nat.le_of_ble_eq_true rfl)) rfl rfl rfl ?_
  refine me1 (pc' := 49) dm_X2_copyOf_48 rfl rfl rfl rfl ?_
  refine me3 (pc' := 52) dm_X2_copyOf_49 (g_get (v := .ref 130) (le_ (n := 2) (u := 100) (v := 25) (j := 0) hn rfl hv rfl) rfl rfl (Nat.le_of_ble_eq_true rfl)) rfl rfl rfl ?_
  refine me1 (pc' := 53) dm_X2_copyOf_52 rfl rfl rfl rfl ?_
  refine me1 (pc' := 54) dm_X2_copyOf_53 rfl rfl rfl rfl ?_
  refine me3 (pc' := 57) dm_X2_copyOf_54 (g_get (v := .ref 7) (lu (n := 2) (j := 2) hn rfl) rfl rfl (Nat.le_of_ble_eq_true rfl)) rfl rfl rfl ?_
  refine me1 (pc' := 58) dm_X2_copyOf_57 rfl rfl rfl rfl ?_
  refine me3 (pc' := 59) dm_X2_copyOf_58 (g_lald (v := (0 : Int64)) (lu (n := 2) (j := 5) hn rfl) rfl (by decide) rfl (Nat.le_of_ble_eq_true rfl)) rfl rfl rfl ?_
  refine me3 (pc' := 60) dm_X2_copyOf_59 (g_last (le_ (n := 2) (u := 100) (v := 25) (j := 3) hn rfl hv rfl) (se (n := 2) (u := 100) (v := 25) (j := 3) hn rfl hv _) rfl (by decide) (Nat.le_of_ble_eq_true rfl)) rfl rfl rfl ?_
  refine me1 (pc' := 61) dm_X2_copyOf_60 rfl rfl rfl rfl ?_
  refine me3 (pc' := 64) dm_X2_copyOf_61 (g_get (v := .ref 131) (le_ (n := 2) (u := 100) (v := 25) (j := 0) hn rfl hv rfl) rfl rfl (Nat.le_of_ble_eq_true rfl)) rfl rfl rfl ?_
  refine me1 (pc' := 65) dm_X2_copyOf_64 rfl rfl rfl rfl ?_
  refine me1 (pc' := 66) dm_X2_copyOf_65 rfl rfl rfl rfl ?_
  refine me3 (pc' := 69) dm_X2_copyOf_66 (g_get (v := .ref 8) (lu (n := 2) (j := 2) hn rfl) rfl rfl (Nat.le_of_ble_eq_true rfl)) rfl rfl rfl ?_
  refine me1 (pc' := 70) dm_X2_copyOf_69 rfl rfl rfl rfl ?_
  refine me3 (pc' := 71) dm_X2_copyOf_70 (g_aald (v := .null) (lu (n := 2) (j := 6) hn rfl) rfl (by decide) rfl (Nat.le_of_ble_eq_true rfl)) rfl rfl rfl ?_
  refine me3 (pc' := 72) dm_X2_copyOf_71 (g_aastn (le_ (n := 2) (u := 100) (v := 25) (j := 4) hn rfl hv rfl) (se (n := 2) (u := 100) (v := 25) (j := 4) hn rfl hv _) rfl (by decide) (Nat.le_of_ble_eq_true rfl)) rfl rfl rfl ?_
  refine me1 (pc' := 75) (L' := [(2, .int (6 : Int32)), (0, .ref 127), (1, .ref 4)]) dm_X2_copyOf_72 rfl rfl rfl rfl ?_
  refine me2 (pc' := 18) dm_X2_copyOf_75 rfl rfl rfl ?_
  refine me1 (pc' := 19) dm_X2_copyOf_18 rfl rfl rfl rfl ?_
  refine me0 (pc' := 21) (S' := .int (40 : Int32) :: _) dm_X2_copyOf_19 rfl rfl rfl rfl ?_
  refine me_2f (pc' := 24) dm_X2_copyOf_21 rfl (by decide) rfl ?_
  refine me1 (pc' := 25) dm_X2_copyOf_24 rfl rfl rfl rfl ?_
  refine me3 (pc' := 28) dm_X2_copyOf_25 (g_get (v := .ref 128) (le_ (n := 2) (u := 100) (v := 25) (j := 0) hn rfl hv rfl) rfl rfl (Nat.le_of_ble_eq_true rfl)) rfl rfl rfl ?_
  refine me1 (pc' := 29) dm_X2_copyOf_28 rfl rfl rfl rfl ?_
  refine me1 (pc' := 30) dm_X2_copyOf_29 rfl rfl rfl rfl ?_
  refine me3 (pc' := 33) dm_X2_copyOf_30 (g_get (v := .ref 5) (lu (n := 2) (j := 2) hn rfl) rfl rfl (Nat.le_of_ble_eq_true rfl)) rfl rfl rfl ?_
  refine me1 (pc' := 34) dm_X2_copyOf_33 rfl rfl rfl rfl ?_
  refine me3 (pc' := 35) dm_X2_copyOf_34 (g_lald (v := (0 : Int64)) (lu (n := 2) (j := 3) hn rfl) rfl (by decide) rfl (Nat.le_of_ble_eq_true rfl)) rfl rfl rfl ?_
  refine me3 (pc' := 36) dm_X2_copyOf_35 (g_last (le_ (n := 2) (u := 100) (v := 25) (j := 1) hn rfl hv rfl) (se (n := 2) (u := 100) (v := 25) (j := 1) hn rfl hv _) rfl (by decide) (Nat.le_of_ble_eq_true rfl)) rfl rfl rfl ?_
  refine me1 (pc' := 37) dm_X2_copyOf_36 rfl rfl rfl rfl ?_
  refine me3 (pc' := 40) dm_X2_copyOf_37 (g_get (v := .ref 129) (le_ (n := 2) (u := 100) (v := 25) (j := 0) hn rfl hv rfl) rfl rfl (Nat.le_of_ble_eq_true rfl)) rfl rfl rfl ?_
  refine me1 (pc' := 41) dm_X2_copyOf_40 rfl rfl rfl rfl ?_
  refine me1 (pc' := 42) dm_X2_copyOf_41 rfl rfl rfl rfl ?_
  refine me3 (pc' := 45) dm_X2_copyOf_42 (g_get (v := .ref 6) (lu (n := 2) (j := 2) hn rfl) rfl rfl (Nat.le_of_ble_eq_true rfl)) rfl rfl rfl ?_
  refine me1 (pc' := 46) dm_X2_copyOf_45 rfl rfl rfl rfl ?_
  refine me3 (pc' := 47) dm_X2_copyOf_46 (g_aald (v := .null) (lu (n := 2) (j := 4) hn rfl) rfl (by decide) rfl (Nat.le_of_ble_eq_true rfl)) rfl rfl rfl ?_
  refine me3 (pc' := 48) dm_X2_copyOf_47 (g_aastn (le_ (n := 2) (u := 100) (v := 25) (j := 2) hn rfl hv rfl) (se (n := 2) (u := 100) (v := 25) (j := 2) hn rfl hv _) rfl (by decide) (Nat.le_of_ble_eq_true rfl)) rfl rfl rfl ?_
  refine me1 (pc' := 49) dm_X2_copyOf_48 rfl rfl rfl rfl ?_
  refine me3 (pc' := 52) dm_X2_copyOf_49 (g_get (v := .ref 130) (le_ (n := 2) (u := 100) (v := 25) (j := 0) hn rfl hv rfl) rfl rfl (Nat.le_of_ble_eq_true rfl)) rfl rfl rfl ?_
  refine me1 (pc' := 53) dm_X2_copyOf_52 rfl rfl rfl rfl ?_
  refine me1 (pc' := 54) dm_X2_copyOf_53 rfl rfl rfl rfl ?_
  refine me3 (pc' := 57) dm_X2_copyOf_54 (g_get (v := .ref 7) (lu (n := 2) (j := 2) hn rfl) rfl rfl (Nat.le_of_ble_eq_true rfl)) rfl rfl rfl ?_
  refine me1 (pc' := 58) dm_X2_copyOf_57 rfl rfl rfl rfl ?_
  refine me3 (pc' := 59) dm_X2_copyOf_58 (g_lald (v := (0 : Int64)) (lu (n := 2) (j := 5) hn rfl) rfl (by decide) rfl (Nat.le_of_ble_eq_true rfl)) rfl rfl rfl ?_
  refine me3 (pc' := 60) dm_X2_copyOf_59 (g_last (le_ (n := 2) (u := 100) (v := 25) (j := 3) hn rfl hv rfl) (se (n := 2) (u := 100) (v := 25) (j := 3) hn rfl hv _) rfl (by decide) (Nat.le_of_ble_eq_true rfl)) rfl rfl rfl ?_
  refine me1 (pc' := 61) dm_X2_copyOf_60 rfl rfl rfl rfl ?_
  refine me3 (pc' := 64) dm_X2_copyOf_61 (g_get (v := .ref 131) (le_ (n := 2) (u := 100) (v := 25) (j := 0) hn rfl hv rfl) rfl rfl (Nat.le_of_ble_eq_true rfl)) rfl rfl rfl ?_
  refine me1 (pc' := 65) dm_X2_copyOf_64 rfl rfl rfl rfl ?_
  refine me1 (pc' := 66) dm_X2_copyOf_65 rfl rfl rfl rfl ?_
  refine me3 (pc' := 69) dm_X2_copyOf_66 (g_get (v := .ref 8) (lu (n := 2) (j := 2) hn rfl) rfl rfl (Nat.le_of_ble_eq_true rfl)) rfl rfl rfl ?_
  refine me1 (pc' := 70) dm_X2_copyOf_69 rfl rfl rfl rfl ?_
  refine me3 (pc' := 71) dm_X2_copyOf_70 (g_aald (v := .null) (lu (n := 2) (j := 6) hn rfl) rfl (by decide) rfl (Nat.le_of_ble_eq_true rfl)) rfl rfl rfl ?_
  refine me3 (pc' := 72) dm_X2_copyOf_71 (g_aastn (le_ (n := 2) (u := 100) (v := 25) (j := 4) hn rfl hv rfl) (se (n := 2) (u := 100) (v := 25) (j := 4) hn rfl hv _) rfl (by decide) (Nat.le_of_ble_eq_true rfl)) rfl rfl rfl ?_
  refine me1 (pc' := 75) (L' := [(2, .int (7 : Int32)), (0, .ref 127), (1, .ref 4)]) dm_X2_copyOf_72 rfl rfl rfl rfl ?_
  refine me2 (pc' := 18) dm_X2_copyOf_75 rfl rfl rfl ?_
  refine me1 (pc' := 19) dm_X2_copyOf_18 rfl rfl rfl rfl ?_
  refine me0 (pc' := 21) (S' := .int (40 : Int32) :: _) dm_X2_copyOf_19 rfl rfl rfl rfl ?_
  refine me_2f (pc' := 24) dm_X2_copyOf_21 rfl (by decide) rfl ?_
  refine me1 (pc' := 25) dm_X2_copyOf_24 rfl rfl rfl rfl ?_
  refine me3 (pc' := 28) dm_X2_copyOf_25 (g_get (v := .ref 128) (le_ (n := 2) (u := 100) (v := 25) (j := 0) hn rfl hv rfl) rfl rfl (Nat.le_of_ble_eq_true rfl)) rfl rfl rfl ?_
  refine me1 (pc' := 29) dm_X2_copyOf_28 rfl rfl rfl rfl ?_
  refine me1 (pc' := 30) dm_X2_copyOf_29 rfl rfl rfl rfl ?_
  refine me3 (pc' := 33) dm_X2_copyOf_30 (g_get (v := .ref 5) (lu (n := 2) (j := 2) hn rfl) rfl rfl (Nat.le_of_ble_eq_true rfl)) rfl rfl rfl ?_
  refine me1 (pc' := 34) dm_X2_copyOf_33 rfl rfl rfl rfl ?_
  refine me3 (pc' := 35) dm_X2_copyOf_34 (g_lald (v := (0 : Int64)) (lu (n := 2) (j := 3) hn rfl) rfl (by decide) rfl (Nat.le_of_ble_eq_true rfl)) rfl rfl rfl ?_
  refine me3 (pc' := 36) dm_X2_copyOf_35 (g_last (le_ (n := 2) (u := 100) (v := 25) (j := 1) hn rfl hv rfl) (se (n := 2) (u := 100) (v := 25) (j := 1) hn rfl hv _) rfl (by decide) (Nat.le_of_ble_eq_true rfl)) rfl rfl rfl ?_
  refine me1 (pc' := 37) dm_X2_copyOf_36 rfl rfl rfl rfl ?_
  refine me3 (pc' := 40) dm_X2_copyOf_37 (g_get (v := .ref 129) (le_ (n := 2) (u := 100) (v := 25) (j := 0) hn rfl hv rfl) rfl rfl (Nat.le_of_ble_eq_true rfl)) rfl rfl rfl ?_
  refine me1 (pc' := 41) dm_X2_copyOf_40 rfl rfl rfl rfl ?_
  refine me1 (pc' := 42) dm_X2_copyOf_41 rfl rfl rfl rfl ?_
  refine me3 (pc' := 45) dm_X2_copyOf_42 (g_get (v := .ref 6) (lu (n := 2) (j := 2) hn rfl) rfl rfl (Nat.le_of_ble_eq_true rfl)) rfl rfl rfl ?_
  refine me1 (pc' := 46) dm_X2_copyOf_45 rfl rfl rfl rfl ?_
  refine me3 (pc' := 47) dm_X2_copyOf_46 (g_aald (v := .null) (lu (n := 2) (j := 4) hn rfl) rfl (by decide) rfl (Nat.le_of_ble_eq_true rfl)) rfl rfl rfl ?_
  refine me3 (pc' := 48) dm_X2_copyOf_47 (g_aastn (le_ (n := 2) (u := 100) (v := 25) (j := 2) hn rfl hv rfl) (se (n := 2) (u := 100) (v := 25) (j := 2) hn rfl hv _) rfl (by decide) (Nat.le_of_ble_eq_true rfl)) rfl rfl rfl ?_
  refine me1 (pc' := 49) dm_X2_copyOf_48 rfl rfl rfl rfl ?_
  refine me3 (pc' := 52) dm_X2_copyOf_49 (g_get (v := .ref 130) (le_ (n := 2) (u := 100) (v := 25) (j := 0) hn rfl hv rfl) rfl rfl (Nat.le_of_ble_eq_true rfl)) rfl rfl rfl ?_
  refine me1 (pc' := 53) dm_X2_copyOf_52 rfl rfl rfl rfl ?_
  refine me1 (pc' := 54) dm_X2_copyOf_53 rfl rfl rfl rfl ?_
  refine me3 (pc' := 57) dm_X2_copyOf_54 (g_get (v := .ref 7) (lu (n := 2) (j := 2) hn rfl) rfl rfl (Nat.le_of_ble_eq_true rfl)) rfl rfl rfl ?_
  refine me1 (pc' := 58) dm_X2_copyOf_57 rfl rfl rfl rfl ?_
  refine me3 (pc' := 59) dm_X2_copyOf_58 (g_lald (v := (0 : Int64)) (lu (n := 2) (j := 5) hn rfl) rfl (by decide) rfl (Nat.le_of_ble_eq_true rfl)) rfl rfl rfl ?_
  refine me3 (pc' := 60) dm_X2_copyOf_59 (g_last (le_ (n := 2) (u := 100) (v := 25) (j := 3) hn rfl hv rfl) (se (n := 2) (u := 100) (v := 25) (j := 3) hn rfl hv _) rfl (by decide) (Nat.le_of_ble_eq_true rfl)) rfl rfl rfl ?_
  refine me1 (pc' := 61) dm_X2_copyOf_60 rfl rfl rfl rfl ?_
  refine me3 (pc' := 64) dm_X2_copyOf_61 (g_get (v := .ref 131) (le_ (n := 2) (u := 100) (v := 25) (j := 0) hn rfl hv rfl) rfl rfl (Nat.le_of_ble_eq_true rfl)) rfl rfl rfl ?_
  refine me1 (pc' := 65) dm_X2_copyOf_64 rfl rfl rfl rfl ?_
  refine me1 (pc' := 66) dm_X2_copyOf_65 rfl rfl rfl rfl ?_
  refine me3 (pc' := 69) dm_X2_copyOf_66 (g_get (v := .ref 8) (lu (n := 2) (j := 2) hn rfl) rfl rfl (Nat.le_of_ble_eq_true rfl)) rfl rfl rfl ?_
  refine me1 (pc' := 70) dm_X2_copyOf_69 rfl rfl rfl rfl ?_
  refine me3 (pc' := 71) dm_X2_copyOf_70 (g_aald (v := .null) (lu (n := 2) (j := 6) hn rfl) rfl (by decide) rfl (Nat.le_of_ble_eq_true rfl)) rfl rfl rfl ?_
  refine me3 (pc' := 72) dm_X2_copyOf_71 (g_aastn (le_ (n := 2) (u := 100) (v := 25) (j := 4) hn rfl hv rfl) (se (n := 2) (u := 100) (v := 25) (j := 4) hn rfl hv _) rfl (by decide) (Nat.le_of_ble_eq_true rfl)) rfl rfl rfl ?_
  refine me1 (pc' := 75) (L' := [(2, .int (8 : Int32)), (0, .ref 127), (1, .ref 4)]) dm_X2_copyOf_72 rfl rfl rfl rfl ?_
  refine me2 (pc' := 18) dm_X2_copyOf_75 rfl rfl rfl ?_
  refine me1 (pc' := 19) dm_X2_copyOf_18 rfl rfl rfl rfl ?_
  refine me0 (pc' := 21) (S' := .int (40 : Int32) :: _) dm_X2_copyOf_19 rfl rfl rfl rfl ?_
  refine me_2f (pc' := 24) dm_X2_copyOf_21 rfl (by decide) rfl ?_
  refine me1 (pc' := 25) dm_X2_copyOf_24 rfl rfl rfl rfl ?_
  refine me3 (pc' := 28) dm_X2_copyOf_25 (g_get (v := .ref 128) (le_ (n := 2) (u := 100) (v := 25) (j := 0) hn rfl hv rfl) rfl rfl (Nat.le_of_ble_eq_true rfl)) rfl rfl rfl ?_
  refine me1 (pc' := 29) dm_X2_copyOf_28 rfl rfl rfl rfl ?_
  refine me1 (pc' := 30) dm_X2_copyOf_29 rfl rfl rfl rfl ?_
  refine me3 (pc' := 33) dm_X2_copyOf_30 (g_get (v := .ref 5) (lu (n := 2) (j := 2) hn rfl) rfl rfl (Nat.le_of_ble_eq_true rfl)) rfl rfl rfl ?_
  refine me1 (pc' := 34) dm_X2_copyOf_33 rfl rfl rfl rfl ?_
  refine me3 (pc' := 35) dm_X2_copyOf_34 (g_lald (v := (0 : Int64)) (lu (n := 2) (j := 3) hn rfl) rfl (by decide) rfl (Nat.le_of_ble_eq_true rfl)) rfl rfl rfl ?_
  refine me3 (pc' := 36) dm_X2_copyOf_35 (g_last (le_ (n := 2) (u := 100) (v := 25) (j := 1) hn rfl hv rfl) (se (n := 2) (u := 100) (v := 25) (j := 1) hn rfl hv _) rfl (by decide) (Nat.le_of_ble_eq_true rfl)) rfl rfl rfl ?_
  refine me1 (pc' := 37) dm_X2_copyOf_36 rfl rfl rfl rfl ?_
  refine me3 (pc' := 40) dm_X2_copyOf_37 (g_get (v := .ref 129) (le_ (n := 2) (u := 100) (v := 25) (j := 0) hn rfl hv rfl) rfl rfl (Nat.le_of_ble_eq_true rfl)) rfl rfl rfl ?_
  refine me1 (pc' := 41) dm_X2_copyOf_40 rfl rfl rfl rfl ?_
  refine me1 (pc' := 42) dm_X2_copyOf_41 rfl rfl rfl rfl ?_
  refine me3 (pc' := 45) dm_X2_copyOf_42 (g_get (v := .ref 6) (lu (n := 2) (j := 2) hn rfl) rfl rfl (Nat.le_of_ble_eq_true rfl)) rfl rfl rfl ?_
  refine me1 (pc' := 46) dm_X2_copyOf_45 rfl rfl rfl rfl ?_
  refine me3 (pc' := 47) dm_X2_copyOf_46 (g_aald (v := .null) (lu (n := 2) (j := 4) hn rfl) rfl (by decide) rfl (Nat.le_of_ble_eq_true rfl)) rfl rfl rfl ?_
  refine me3 (pc' := 48) dm_X2_copyOf_47 (g_aastn (le_ (n := 2) (u := 100) (v := 25) (j := 2) hn rfl hv rfl) (se (n := 2) (u := 100) (v := 25) (j := 2) hn rfl hv _) rfl (by decide) (Nat.le_of_ble_eq_true rfl)) rfl rfl rfl ?_
  refine me1 (pc' := 49) dm_X2_copyOf_48 rfl rfl rfl rfl ?_
  refine me3 (pc' := 52) dm_X2_copyOf_49 (g_get (v := .ref 130) (le_ (n := 2) (u := 100) (v := 25) (j := 0) hn rfl hv rfl) rfl rfl (Nat.le_of_ble_eq_true rfl)) rfl rfl rfl ?_
  refine me1 (pc' := 53) dm_X2_copyOf_52 rfl rfl rfl rfl ?_
  refine me1 (pc' := 54) dm_X2_copyOf_53 rfl rfl rfl rfl ?_
  refine me3 (pc' := 57) dm_X2_copyOf_54 (g_get (v := .ref 7) (lu (n := 2) (j := 2) hn rfl) rfl rfl (Nat.le_of_ble_eq_true rfl)) rfl rfl rfl ?_
  refine me1 (pc' := 58) dm_X2_copyOf_57 rfl rfl rfl rfl ?_
  refine me3 (pc' := 59) dm_X2_copyOf_58 (g_lald (v := (0 : Int64)) (lu (n := 2) (j := 5) hn rfl) rfl (by decide) rfl (Nat.le_of_ble_eq_true rfl)) rfl rfl rfl ?_
  refine me3 (pc' := 60) dm_X2_copyOf_59 (g_last (le_ (n := 2) (u := 100) (v := 25) (j := 3) hn rfl hv rfl) (se (n := 2) (u := 100) (v := 25) (j := 3) hn rfl hv _) rfl (by decide) (Nat.le_of_ble_eq_true rfl)) rfl rfl rfl ?_
  refine me1 (pc' := 61) dm_X2_copyOf_60 rfl rfl rfl rfl ?_
  refine me3 (pc' := 64) dm_X2_copyOf_61 (g_get (v := .ref 131) (le_ (n := 2) (u := 100) (v := 25) (j := 0) hn rfl hv rfl) rfl rfl (Nat.le_of_ble_eq_true rfl)) rfl rfl rfl ?_
  refine me1 (pc' := 65) dm_X2_copyOf_64 rfl rfl rfl rfl ?_
  refine me1 (pc' := 66) dm_X2_copyOf_65 rfl rfl rfl rfl ?_
  refine me3 (pc' := 69) dm_X2_copyOf_66 (g_get (v := .ref 8) (lu (n := 2) (j := 2) hn rfl) rfl rfl (Nat.le_of_ble_eq_true rfl)) rfl rfl rfl ?_
  refine me1 (pc' := 70) dm_X2_copyOf_69 rfl rfl rfl rfl ?_
  refine me3 (pc' := 71) dm_X2_copyOf_70 (g_aald (v := .null) (lu (n := 2) (j := 6) hn rfl) rfl (by decide) rfl (Nat.le_of_ble_eq_true rfl)) rfl rfl rfl ?_
  refine me3 (pc' := 72) dm_X2_copyOf_71 (g_aastn (le_ (n := 2) (u := 100) (v := 25) (j := 4) hn rfl hv rfl) (se (n := 2) (u := 100) (v := 25) (j := 4) hn rfl hv _) rfl (by decide) (Nat.le_of_ble_eq_true rfl)) rfl rfl rfl ?_
  refine me1 (pc' := 75) (L' := [(2, .int (9 : Int32)), (0, .ref 127), (1, .ref 4)]) dm_X2_copyOf_72 rfl rfl rfl rfl ?_
  refine me2 (pc' := 18) dm_X2_copyOf_75 rfl rfl rfl ?_
  refine me1 (pc' := 19) dm_X2_copyOf_18 rfl rfl rfl rfl ?_
  refine me0 (pc' := 21) (S' := .int (40 : Int32) :: _) dm_X2_copyOf_19 rfl rfl rfl rfl ?_
  refine me_2f (pc' := 24) dm_X2_copyOf_21 rfl (by decide) rfl ?_
  refine me1 (pc' := 25) dm_X2_copyOf_24 rfl rfl rfl rfl ?_
  refine me3 (pc' := 28) dm_X2_copyOf_25 (g_get (v := .ref 128) (le_ (n := 2) (u := 100) (v := 25) (j := 0) hn rfl hv rfl) rfl rfl (Nat.le_of_ble_eq_true rfl)) rfl rfl rfl ?_
  refine me1 (pc' := 29) dm_X2_copyOf_28 rfl rfl rfl rfl ?_
  refine me1 (pc' := 30) dm_X2_copyOf_29 rfl rfl rfl rfl ?_
  refine me3 (pc' := 33) dm_X2_copyOf_30 (g_get (v := .ref 5) (lu (n := 2) (j := 2) hn rfl) rfl rfl (Nat.le_of_ble_eq_true rfl)) rfl rfl rfl ?_
  refine me1 (pc' := 34) dm_X2_copyOf_33 rfl rfl rfl rfl ?_
  refine me3 (pc' := 35) dm_X2_copyOf_34 (g_lald (v := (0 : Int64)) (lu (n := 2) (j := 3) hn rfl) rfl (by decide) rfl (Nat.le_of_ble_eq_true rfl)) rfl rfl rfl ?_
  refine me3 (pc' := 36) dm_X2_copyOf_35 (g_last (le_ (n := 2) (u := 100) (v := 25) (j := 1) hn rfl hv rfl) (se (n := 2) (u := 100) (v := 25) (j := 1) hn rfl hv _) rfl (by decide) (Nat.le_of_ble_eq_true rfl)) rfl rfl rfl ?_
  refine me1 (pc' := 37) dm_X2_copyOf_36 rfl rfl rfl rfl ?_
  refine me3 (pc' := 40) dm_X2_copyOf_37 (g_get (v := .ref 129) (le_ (n := 2) (u := 100) (v := 25) (j := 0) hn rfl hv rfl) rfl rfl (Nat.le_of_ble_eq_true rfl)) rfl rfl rfl ?_
  refine me1 (pc' := 41) dm_X2_copyOf_40 rfl rfl rfl rfl ?_
  refine me1 (pc' := 42) dm_X2_copyOf_41 rfl rfl rfl rfl ?_
  refine me3 (pc' := 45) dm_X2_copyOf_42 (g_get (v := .ref 6) (lu (n := 2) (j := 2) hn rfl) rfl rfl (Nat.le_of_ble_eq_true rfl)) rfl rfl rfl ?_
  refine me1 (pc' := 46) dm_X2_copyOf_45 rfl rfl rfl rfl ?_
  refine me3 (pc' := 47) dm_X2_copyOf_46 (g_aald (v := .null) (lu (n := 2) (j := 4) hn rfl) rfl (by decide) rfl (Nat.le_of_ble_eq_true rfl)) rfl rfl rfl ?_
  refine me3 (pc' := 48) dm_X2_copyOf_47 (g_aastn (le_ (n := 2) (u := 100) (v := 25) (j := 2) hn rfl hv rfl) (se (n := 2) (u := 100) (v := 25) (j := 2) hn rfl hv _) rfl (by decide) (Nat.le_of_ble_eq_true rfl)) rfl rfl rfl ?_
  refine me1 (pc' := 49) dm_X2_copyOf_48 rfl rfl rfl rfl ?_
  refine me3 (pc' := 52) dm_X2_copyOf_49 (g_get (v := .ref 130) (le_ (n := 2) (u := 100) (v := 25) (j := 0) hn rfl hv rfl) rfl rfl (Nat.le_of_ble_eq_true rfl)) rfl rfl rfl ?_
  refine me1 (pc' := 53) dm_X2_copyOf_52 rfl rfl rfl rfl ?_
  refine me1 (pc' := 54) dm_X2_copyOf_53 rfl rfl rfl rfl ?_
  refine me3 (pc' := 57) dm_X2_copyOf_54 (g_get (v := .ref 7) (lu (n := 2) (j := 2) hn rfl) rfl rfl (Nat.le_of_ble_eq_true rfl)) rfl rfl rfl ?_
  refine me1 (pc' := 58) dm_X2_copyOf_57 rfl rfl rfl rfl ?_
  refine me3 (pc' := 59) dm_X2_copyOf_58 (g_lald (v := (0 : Int64)) (lu (n := 2) (j := 5) hn rfl) rfl (by decide) rfl (Nat.le_of_ble_eq_true rfl)) rfl rfl rfl ?_
  refine me3 (pc' := 60) dm_X2_copyOf_59 (g_last (le_ (n := 2) (u := 100) (v := 25) (j := 3) hn rfl hv rfl) (se (n := 2) (u := 100) (v := 25) (j := 3) hn rfl hv _) rfl (by decide) (Nat.le_of_ble_eq_true rfl)) rfl rfl rfl ?_
  refine me1 (pc' := 61) dm_X2_copyOf_60 rfl rfl rfl rfl ?_
  refine me3 (pc' := 64) dm_X2_copyOf_61 (g_get (v := .ref 131) (le_ (n := 2) (u := 100) (v := 25) (j := 0) hn rfl hv rfl) rfl rfl (Nat.le_of_ble_eq_true rfl)) rfl rfl rfl ?_
  refine me1 (pc' := 65) dm_X2_copyOf_64 rfl rfl rfl rfl ?_
  refine me1 (pc' := 66) dm_X2_copyOf_65 rfl rfl rfl rfl ?_
  refine me3 (pc' := 69) dm_X2_copyOf_66 (g_get (v := .ref 8) (lu (n := 2) (j := 2) hn rfl) rfl rfl (Nat.le_of_ble_eq_true rfl)) rfl rfl rfl ?_
  refine me1 (pc' := 70) dm_X2_copyOf_69 rfl rfl rfl rfl ?_
  refine me3 (pc' := 71) dm_X2_copyOf_70 (g_aald (v := .null) (lu (n := 2) (j := 6) hn rfl) rfl (by decide) rfl (Nat.le_of_ble_eq_true rfl)) rfl rfl rfl ?_
  refine me3 (pc' := 72) dm_X2_copyOf_71 (g_aastn (le_ (n := 2) (u := 100) (v := 25) (j := 4) hn rfl hv rfl) (se (n := 2) (u := 100) (v := 25) (j := 4) hn rfl hv _) rfl (by decide) (Nat.le_of_ble_eq_true rfl)) rfl rfl rfl ?_
  refine me1 (pc' := 75) (L' := [(2, .int (10 : Int32)), (0, .ref 127), (1, .ref 4)]) dm_X2_copyOf_72 rfl rfl rfl rfl ?_
  refine me2 (pc' := 18) dm_X2_copyOf_75 rfl rfl rfl ?_
  refine me1 (pc' := 19) dm_X2_copyOf_18 rfl rfl rfl rfl ?_
  refine me0 (pc' := 21) (S' := .int (40 : Int32) :: _) dm_X2_copyOf_19 rfl rfl rfl rfl ?_
  refine me_2f (pc' := 24) dm_X2_copyOf_21 rfl (by decide) rfl ?_
  refine me1 (pc' := 25) dm_X2_copyOf_24 rfl rfl rfl rfl ?_
  refine me3 (pc' := 28) dm_X2_copyOf_25 (g_get (v := .ref 128) (le_ (n := 2) (u := 100) (v := 25) (j := 0) hn rfl hv rfl) rfl rfl (Nat.le_of_ble_eq_true rfl)) rfl rfl rfl ?_
  refine me1 (pc' := 29) dm_X2_copyOf_28 rfl rfl rfl rfl ?_
  refine me1 (pc' := 30) dm_X2_copyOf_29 rfl rfl rfl rfl ?_
  refine me3 (pc' := 33) dm_X2_copyOf_30 (g_get (v := .ref 5) (lu (n := 2) (j := 2) hn rfl) rfl rfl (Nat.le_of_ble_eq_true rfl)) rfl rfl rfl ?_
  refine me1 (pc' := 34) dm_X2_copyOf_33 rfl rfl rfl rfl ?_
  refine me3 (pc' := 35) dm_X2_copyOf_34 (g_lald (v := (0 : Int64)) (lu (n := 2) (j := 3) hn rfl) rfl (by decide) rfl (Nat.le_of_ble_eq_true rfl)) rfl rfl rfl ?_
  refine me3 (pc' := 36) dm_X2_copyOf_35 (g_last (le_ (n := 2) (u := 100) (v := 25) (j := 1) hn rfl hv rfl) (se (n := 2) (u := 100) (v := 25) (j := 1) hn rfl hv _) rfl (by decide) (Nat.le_of_ble_eq_true rfl)) rfl rfl rfl ?_
  refine me1 (pc' := 37) dm_X2_copyOf_36 rfl rfl rfl rfl ?_
  refine me3 (pc' := 40) dm_X2_copyOf_37 (g_get (v := .ref 129) (le_ (n := 2) (u := 100) (v := 25) (j := 0) hn rfl hv rfl) rfl rfl (Nat.le_of_ble_eq_true rfl)) rfl rfl rfl ?_
  refine me1 (pc' := 41) dm_X2_copyOf_40 rfl rfl rfl rfl ?_
  refine me1 (pc' := 42) dm_X2_copyOf_41 rfl rfl rfl rfl ?_
  refine me3 (pc' := 45) dm_X2_copyOf_42 (g_get (v := .ref 6) (lu (n := 2) (j := 2) hn rfl) rfl rfl (Nat.le_of_ble_eq_true rfl)) rfl rfl rfl ?_
  refine me1 (pc' := 46) dm_X2_copyOf_45 rfl rfl rfl rfl ?_
  refine me3 (pc' := 47) dm_X2_copyOf_46 (g_aald (v := .null) (lu (n := 2) (j := 4) hn rfl) rfl (by decide) rfl (Nat.le_of_ble_eq_true rfl)) rfl rfl rfl ?_
  refine me3 (pc' := 48) dm_X2_copyOf_47 (g_aastn (le_ (n := 2) (u := 100) (v := 25) (j := 2) hn rfl hv rfl) (se (n := 2) (u := 100) (v := 25) (j := 2) hn rfl hv _) rfl (by decide) (Nat.le_of_ble_eq_true rfl)) rfl rfl rfl ?_
  refine me1 (pc' := 49) dm_X2_copyOf_48 rfl rfl rfl rfl ?_
  refine me3 (pc' := 52) dm_X2_copyOf_49 (g_get (v := .ref 130) (le_ (n := 2) (u := 100) (v := 25) (j := 0) hn rfl hv rfl) rfl rfl (Nat.le_of_ble_eq_true rfl)) rfl rfl rfl ?_
  refine me1 (pc' := 53) dm_X2_copyOf_52 rfl rfl rfl rfl ?_
  refine me1 (pc' := 54) dm_X2_copyOf_53 rfl rfl rfl rfl ?_
  refine me3 (pc' := 57) dm_X2_copyOf_54 (g_get (v := .ref 7) (lu (n := 2) (j := 2) hn rfl) rfl rfl (Nat.le_of_ble_eq_true rfl)) rfl rfl rfl ?_
  refine me1 (pc' := 58) dm_X2_copyOf_57 rfl rfl rfl rfl ?_
  refine me3 (pc' := 59) dm_X2_copyOf_58 (g_lald (v := (0 : Int64)) (lu (n := 2) (j := 5) hn rfl) rfl (by decide) rfl (Nat.le_of_ble_eq_true rfl)) rfl rfl rfl ?_
  refine me3 (pc' := 60) dm_X2_copyOf_59 (g_last (le_ (n := 2) (u := 100) (v := 25) (j := 3) hn rfl hv rfl) (se (n := 2) (u := 100) (v := 25) (j := 3) hn rfl hv _) rfl (by decide) (Nat.le_of_ble_eq_true rfl)) rfl rfl rfl ?_
  refine me1 (pc' := 61) dm_X2_copyOf_60 rfl rfl rfl rfl ?_
  refine me3 (pc' := 64) dm_X2_copyOf_61 (g_get (v := .ref 131) (le_ (n := 2) (u := 100) (v := 25) (j := 0) hn rfl hv rfl) rfl rfl (Nat.le_of_ble_eq_true rfl)) rfl rfl rfl ?_
  refine me1 (pc' := 65) dm_X2_copyOf_64 rfl rfl rfl rfl ?_
  refine me1 (pc' := 66) dm_X2_copyOf_65 rfl rfl rfl rfl ?_
  refine me3 (pc' := 69) dm_X2_copyOf_66 (g_get (v := .ref 8) (lu (n := 2) (j := 2) hn rfl) rfl rfl (Nat.le_of_ble_eq_true rfl)) rfl rfl rfl ?_
  refine me1 (pc' := 70) dm_X2_copyOf_69 rfl rfl rfl rfl ?_
  refine me3 (pc' := 71) dm_X2_copyOf_70 (g_aald (v := .null) (lu (n := 2) (j := 6) hn rfl) rfl (by decide) rfl (Nat.le_of_ble_eq_true rfl)) rfl rfl rfl ?_
  refine me3 (pc' := 72) dm_X2_copyOf_71 (g_aastn (le_ (n := 2) (u := 100) (v := 25) (j := 4) hn rfl hv rfl) (se (n := 2) (u := 100) (v := 25) (j := 4) hn rfl hv _) rfl (by decide) (Nat.le_of_ble_eq_true rfl)) rfl rfl rfl ?_
  refine me1 (pc' := 75) (L' := [(2, .int (11 : Int32)), (0, .ref 127), (1, .ref 4)]) dm_X2_copyOf_72 rfl rfl rfl rfl ?_
  refine me2 (pc' := 18) dm_X2_copyOf_75 rfl rfl rfl ?_
  refine me1 (pc' := 19) dm_X2_copyOf_18 rfl rfl rfl rfl ?_
  refine me0 (pc' := 21) (S' := .int (40 : Int32) :: _) dm_X2_copyOf_19 rfl rfl rfl rfl ?_
  refine me_2f (pc' := 24) dm_X2_copyOf_21 rfl (by decide) rfl ?_
  refine me1 (pc' := 25) dm_X2_copyOf_24 rfl rfl rfl rfl ?_
  refine me3 (pc' := 28) dm_X2_copyOf_25 (g_get (v := .ref 128) (le_ (n := 2) (u := 100) (v := 25) (j := 0) hn rfl hv rfl) rfl rfl (Nat.le_of_ble_eq_true rfl)) rfl rfl rfl ?_
  refine me1 (pc' := 29) dm_X2_copyOf_28 rfl rfl rfl rfl ?_
  refine me1 (pc' := 30) dm_X2_copyOf_29 rfl rfl rfl rfl ?_
  refine me3 (pc' := 33) dm_X2_copyOf_30 (g_get (v := .ref 5) (lu (n := 2) (j := 2) hn rfl) rfl rfl (Nat.le_of_ble_eq_true rfl)) rfl rfl rfl ?_
  refine me1 (pc' := 34) dm_X2_copyOf_33 rfl rfl rfl rfl ?_
  refine me3 (pc' := 35) dm_X2_copyOf_34 (g_lald (v := (0 : Int64)) (lu (n := 2) (j := 3) hn rfl) rfl (by decide) rfl (Nat.le_of_ble_eq_true rfl)) rfl rfl rfl ?_
  refine me3 (pc' := 36) dm_X2_copyOf_35 (g_last (le_ (n := 2) (u := 100) (v := 25) (j := 1) hn rfl hv rfl) (se (n := 2) (u := 100) (v := 25) (j := 1) hn rfl hv _) rfl (by decide) (Nat.le_of_ble_eq_true rfl)) rfl rfl rfl ?_
  refine me1 (pc' := 37) dm_X2_copyOf_36 rfl rfl rfl rfl ?_
  refine me3 (pc' := 40) dm_X2_copyOf_37 (g_get (v := .ref 129) (le_ (n := 2) (u := 100) (v := 25) (j := 0) hn rfl hv rfl) rfl rfl (Nat.le_of_ble_eq_true rfl)) rfl rfl rfl ?_
  refine me1 (pc' := 41) dm_X2_copyOf_40 rfl rfl rfl rfl ?_
  refine me1 (pc' := 42) dm_X2_copyOf_41 rfl rfl rfl rfl ?_
  refine me3 (pc' := 45) dm_X2_copyOf_42 (g_get (v := .ref 6) (lu (n := 2) (j := 2) hn rfl) rfl rfl (Nat.le_of_ble_eq_true rfl)) rfl rfl rfl ?_
  refine me1 (pc' := 46) dm_X2_copyOf_45 rfl rfl rfl rfl ?_
  refine me3 (pc' := 47) dm_X2_copyOf_46 (g_aald (v := .null) (lu (n := 2) (j := 4) hn rfl) rfl (by decide) rfl (Nat.le_of_ble_eq_true rfl)) rfl rfl rfl ?_
  refine me3 (pc' := 48) dm_X2_copyOf_47 (g_aastn (le_ (n := 2) (u := 100) (v := 25) (j := 2) hn rfl hv rfl) (se (n := 2) (u := 100) (v := 25) (j := 2) hn rfl hv _) rfl (by decide) (Nat.le_of_ble_eq_true rfl)) rfl rfl rfl ?_
  refine me1 (pc' := 49) dm_X2_copyOf_48 rfl rfl rfl rfl ?_
  refine me3 (pc' := 52) dm_X2_copyOf_49 (g_get (v := .ref 130) (le_ (n := 2) (u := 100) (v := 25) (j := 0) hn rfl hv rfl) rfl rfl (Nat.le_of_ble_eq_true rfl)) rfl rfl rfl ?_
  refine me1 (pc' := 53) dm_X2_copyOf_52 rfl rfl rfl rfl ?_
  refine me1 (pc' := 54) dm_X2_copyOf_53 rfl rfl rfl rfl ?_
  refine me3 (pc' := 57) dm_X2_copyOf_54 (g_get (v := .ref 7) (lu (n := 2) (j := 2) hn rfl) rfl rfl (Nat.le_of_ble_eq_true rfl)) rfl rfl rfl ?_
  refine me1 (pc' := 58) dm_X2_copyOf_57 rfl rfl rfl rfl ?_
  refine me3 (pc' := 59) dm_X2_copyOf_58 (g_lald (v := (0 : Int64)) (lu (n := 2) (j := 5) hn rfl) rfl (by decide) rfl (Nat.le_of_ble_eq_true rfl)) rfl rfl rfl ?_
  refine me3 (pc' := 60) dm_X2_copyOf_59 (g_last (le_ (n := 2) (u := 100) (v := 25) (j := 3) hn rfl hv rfl) (se (n := 2) (u := 100) (v := 25) (j := 3) hn rfl hv _) rfl (by decide) (Nat.le_of_ble_eq_true rfl)) rfl rfl rfl ?_
  refine me1 (pc' := 61) dm_X2_copyOf_60 rfl rfl rfl rfl ?_
  refine me3 (pc' := 64) dm_X2_copyOf_61 (g_get (v := .ref 131) (le_ (n := 2) (u := 100) (v := 25) (j := 0) hn rfl hv rfl) rfl rfl (Nat.le_of_ble_eq_true rfl)) rfl rfl rfl ?_
  refine me1 (pc' := 65) dm_X2_copyOf_64 rfl rfl rfl rfl ?_
  refine me1 (pc' := 66) dm_X2_copyOf_65 rfl rfl rfl rfl ?_
  refine me3 (pc' := 69) dm_X2_copyOf_66 (g_get (v := .ref 8) (lu (n := 2) (j := 2) hn rfl) rfl rfl (Nat.le_of_ble_eq_true rfl)) rfl rfl rfl ?_
  refine me1 (pc' := 70) dm_X2_copyOf_69 rfl rfl rfl rfl ?_
  refine me3 (pc' := 71) dm_X2_copyOf_70 (g_aald (v := .null) (lu (n := 2) (j := 6) hn rfl) rfl (by decide) rfl (Nat.le_of_ble_eq_true rfl)) rfl rfl rfl ?_
  refine me3 (pc' := 72) dm_X2_copyOf_71 (g_aastn (le_ (n := 2) (u := 100) (v := 25) (j := 4) hn rfl hv rfl) (se (n := 2) (u := 100) (v := 25) (j := 4) hn rfl hv _) rfl (by decide) (Nat.le_of_ble_eq_true rfl)) rfl rfl rfl ?_
  refine me1 (pc' := 75) (L' := [(2, .int (12 : Int32)), (0, .ref 127), (1, .ref 4)]) dm_X2_copyOf_72 rfl rfl rfl rfl ?_
  refine me2 (pc' := 18) dm_X2_copyOf_75 rfl rfl rfl ?_
  refine me1 (pc' := 19) dm_X2_copyOf_18 rfl rfl rfl rfl ?_
  refine me0 (pc' := 21) (S' := .int (40 : Int32) :: _) dm_X2_copyOf_19 rfl rfl rfl rfl ?_
  refine me_2f (pc' := 24) dm_X2_copyOf_21 rfl (by decide) rfl ?_
  refine me1 (pc' := 25) dm_X2_copyOf_24 rfl rfl rfl rfl ?_
  refine me3 (pc' := 28) dm_X2_copyOf_25 (g_get (v := .ref 128) (le_ (n := 2) (u := 100) (v := 25) (j := 0) hn rfl hv rfl) rfl rfl (Nat.le_of_ble_eq_true rfl)) rfl rfl rfl ?_
  refine me1 (pc' := 29) dm_X2_copyOf_28 rfl rfl rfl rfl ?_
  refine me1 (pc' := 30) dm_X2_copyOf_29 rfl rfl rfl rfl ?_
  refine me3 (pc' := 33) dm_X2_copyOf_30 (g_get (v := .ref 5) (lu (n := 2) (j := 2) hn rfl) rfl rfl (Nat.le_of_ble_eq_true rfl)) rfl rfl rfl ?_
  refine me1 (pc' := 34) dm_X2_copyOf_33 rfl rfl rfl rfl ?_
  refine me3 (pc' := 35) dm_X2_copyOf_34 (g_lald (v := (0 : Int64)) (lu (n := 2) (j := 3) hn rfl) rfl (by decide) rfl (Nat.le_of_ble_eq_true rfl)) rfl rfl rfl ?_
  refine me3 (pc' := 36) dm_X2_copyOf_35 (g_last (le_ (n := 2) (u := 100) (v := 25) (j := 1) hn rfl hv rfl) (se (n := 2) (u := 100) (v := 25) (j := 1) hn rfl hv _) rfl (by decide) (Nat.le_of_ble_eq_true rfl)) rfl rfl rfl ?_
  refine me1 (pc' := 37) dm_X2_copyOf_36 rfl rfl rfl rfl ?_
  refine me3 (pc' := 40) dm_X2_copyOf_37 (g_get (v := .ref 129) (le_ (n := 2) (u := 100) (v := 25) (j := 0) hn rfl hv rfl) rfl rfl (Nat.le_of_ble_eq_true rfl)) rfl rfl rfl ?_
  refine me1 (pc' := 41) dm_X2_copyOf_40 rfl rfl rfl rfl ?_
  refine me1 (pc' := 42) dm_X2_copyOf_41 rfl rfl rfl rfl ?_
  refine me3 (pc' := 45) dm_X2_copyOf_42 (g_get (v := .ref 6) (lu (n := 2) (j := 2) hn rfl) rfl rfl (Nat.le_of_ble_eq_true rfl)) rfl rfl rfl ?_
  refine me1 (pc' := 46) dm_X2_copyOf_45 rfl rfl rfl rfl ?_
  refine me3 (pc' := 47) dm_X2_copyOf_46 (g_aald (v := .null) (lu (n := 2) (j := 4) hn rfl) rfl (by decide) rfl (Nat.le_of_ble_eq_true rfl)) rfl rfl rfl ?_
  refine me3 (pc' := 48) dm_X2_copyOf_47 (g_aastn (le_ (n := 2) (u := 100) (v := 25) (j := 2) hn rfl hv rfl) (se (n := 2) (u := 100) (v := 25) (j := 2) hn rfl hv _) rfl (by decide) (Nat.le_of_ble_eq_true rfl)) rfl rfl rfl ?_
  refine me1 (pc' := 49) dm_X2_copyOf_48 rfl rfl rfl rfl ?_
  refine me3 (pc' := 52) dm_X2_copyOf_49 (g_get (v := .ref 130) (le_ (n := 2) (u := 100) (v := 25) (j := 0) hn rfl hv rfl) rfl rfl (Nat.le_of_ble_eq_true rfl)) rfl rfl rfl ?_
  refine me1 (pc' := 53) dm_X2_copyOf_52 rfl rfl rfl rfl ?_
  refine me1 (pc' := 54) dm_X2_copyOf_53 rfl rfl rfl rfl ?_
  refine me3 (pc' := 57) dm_X2_copyOf_54 (g_get (v := .ref 7) (lu (n := 2) (j := 2) hn rfl) rfl rfl (Nat.le_of_ble_eq_true rfl)) rfl rfl rfl ?_
  refine me1 (pc' := 58) dm_X2_copyOf_57 rfl rfl rfl rfl ?_
  refine me3 (pc' := 59) dm_X2_copyOf_58 (g_lald (v := (0 : Int64)) (lu (n := 2) (j := 5) hn rfl) rfl (by decide) rfl (Nat.le_of_ble_eq_true rfl)) rfl rfl rfl ?_
  refine me3 (pc' := 60) dm_X2_copyOf_59 (g_last (le_ (n := 2) (u := 100) (v := 25) (j := 3) hn rfl hv rfl) (se (n := 2) (u := 100) (v := 25) (j := 3) hn rfl hv _) rfl (by decide) (Nat.le_of_ble_eq_true rfl)) rfl rfl rfl ?_
  refine me1 (pc' := 61) dm_X2_copyOf_60 rfl rfl rfl rfl ?_
  refine me3 (pc' := 64) dm_X2_copyOf_61 (g_get (v := .ref 131) (le_ (n := 2) (u := 100) (v := 25) (j := 0) hn rfl hv rfl) rfl rfl (Nat.le_of_ble_eq_true rfl)) rfl rfl rfl ?_
  refine me1 (pc' := 65) dm_X2_copyOf_64 rfl rfl rfl rfl ?_
  refine me1 (pc' := 66) dm_X2_copyOf_65 rfl rfl rfl rfl ?_
  refine me3 (pc' := 69) dm_X2_copyOf_66 (g_get (v := .ref 8) (lu (n := 2) (j := 2) hn rfl) rfl rfl (Nat.le_of_ble_eq_true rfl)) rfl rfl rfl ?_
  refine me1 (pc' := 70) dm_X2_copyOf_69 rfl rfl rfl rfl ?_
  refine me3 (pc' := 71) dm_X2_copyOf_70 (g_aald (v := .null) (lu (n := 2) (j := 6) hn rfl) rfl (by decide) rfl (Nat.le_of_ble_eq_true rfl)) rfl rfl rfl ?_
  refine me3 (pc' := 72) dm_X2_copyOf_71 (g_aastn (le_ (n := 2) (u := 100) (v := 25) (j := 4) hn rfl hv rfl) (se (n := 2) (u := 100) (v := 25) (j := 4) hn rfl hv _) rfl (by decide) (Nat.le_of_ble_eq_true rfl)) rfl rfl rfl ?_
  refine me1 (pc' := 75) (L' := [(2, .int (13 : Int32)), (0, .ref 127), (1, .ref 4)]) dm_X2_copyOf_72 rfl rfl rfl rfl ?_
  refine me2 (pc' := 18) dm_X2_copyOf_75 rfl rfl rfl ?_
  refine me1 (pc' := 19) dm_X2_copyOf_18 rfl rfl rfl rfl ?_
  refine me0 (pc' := 21) (S' := .int (40 : Int32) :: _) dm_X2_copyOf_19 rfl rfl rfl rfl ?_
  refine me_2f (pc' := 24) dm_X2_copyOf_21 rfl (by decide) rfl ?_
  refine me1 (pc' := 25) dm_X2_copyOf_24 rfl rfl rfl rfl ?_
  refine me3 (pc' := 28) dm_X2_copyOf_25 (g_get (v := .ref 128) (le_ (n := 2) (u := 100) (v := 25) (j := 0) hn rfl hv rfl) rfl rfl (Nat.le_of_ble_eq_true rfl)) rfl rfl rfl ?_
  refine me1 (pc' := 29) dm_X2_copyOf_28 rfl rfl rfl rfl ?_
  refine me1 (pc' := 30) dm_X2_copyOf_29 rfl rfl rfl rfl ?_
  refine me3 (pc' := 33) dm_X2_copyOf_30 (g_get (v := .ref 5) (lu (n := 2) (j := 2) hn rfl) rfl rfl (Nat.le_of_ble_eq_true rfl)) rfl rfl rfl ?_
  refine me1 (pc' := 34) dm_X2_copyOf_33 rfl rfl rfl rfl ?_
  refine me3 (pc' := 35) dm_X2_copyOf_34 (g_lald (v := (0 : Int64)) (lu (n := 2) (j := 3) hn rfl) rfl (by decide) rfl (Nat.le_of_ble_eq_true rfl)) rfl rfl rfl ?_
  refine me3 (pc' := 36) dm_X2_copyOf_35 (g_last (le_ (n := 2) (u := 100) (v := 25) (j := 1) hn rfl hv rfl) (se (n := 2) (u := 100) (v := 25) (j := 1) hn rfl hv _) rfl (by decide) (Nat.le_of_ble_eq_true rfl)) rfl rfl rfl ?_
  refine me1 (pc' := 37) dm_X2_copyOf_36 rfl rfl rfl rfl ?_
  refine me3 (pc' := 40) dm_X2_copyOf_37 (g_get (v := .ref 129) (le_ (n := 2) (u := 100) (v := 25) (j := 0) hn rfl hv rfl) rfl rfl (Nat.le_of_ble_eq_true rfl)) rfl rfl rfl ?_
  refine me1 (pc' := 41) dm_X2_copyOf_40 rfl rfl rfl rfl ?_
  refine me1 (pc' := 42) dm_X2_copyOf_41 rfl rfl rfl rfl ?_
  refine me3 (pc' := 45) dm_X2_copyOf_42 (g_get (v := .ref 6) (lu (n := 2) (j := 2) hn rfl) rfl rfl (Nat.le_of_ble_eq_true rfl)) rfl rfl rfl ?_
  refine me1 (pc' := 46) dm_X2_copyOf_45 rfl rfl rfl rfl ?_
  refine me3 (pc' := 47) dm_X2_copyOf_46 (g_aald (v := .null) (lu (n := 2) (j := 4) hn rfl) rfl (by decide) rfl (Nat.le_of_ble_eq_true rfl)) rfl rfl rfl ?_
  refine me3 (pc' := 48) dm_X2_copyOf_47 (g_aastn (le_ (n := 2) (u := 100) (v := 25) (j := 2) hn rfl hv rfl) (se (n := 2) (u := 100) (v := 25) (j := 2) hn rfl hv _) rfl (by decide) (Nat.le_of_ble_eq_true rfl)) rfl rfl rfl ?_
  refine me1 (pc' := 49) dm_X2_copyOf_48 rfl rfl rfl rfl ?_
  refine me3 (pc' := 52) dm_X2_copyOf_49 (g_get (v := .ref 130) (le_ (n := 2) (u := 100) (v := 25) (j := 0) hn rfl hv rfl) rfl rfl (Nat.le_of_ble_eq_true rfl)) rfl rfl rfl ?_
  refine me1 (pc' := 53) dm_X2_copyOf_52 rfl rfl rfl rfl ?_
  refine me1 (pc' := 54) dm_X2_copyOf_53 rfl rfl rfl rfl ?_
  refine me3 (pc' := 57) dm_X2_copyOf_54 (g_get (v := .ref 7) (lu (n := 2) (j := 2) hn rfl) rfl rfl (Nat.le_of_ble_eq_true rfl)) rfl rfl rfl ?_
  refine me1 (pc' := 58) dm_X2_copyOf_57 rfl rfl rfl rfl ?_
  refine me3 (pc' := 59) dm_X2_copyOf_58 (g_lald (v := (0 : Int64)) (lu (n := 2) (j := 5) hn rfl) rfl (by decide) rfl (Nat.le_of_ble_eq_true rfl)) rfl rfl rfl ?_
  refine me3 (pc' := 60) dm_X2_copyOf_59 (g_last (le_ (n := 2) (u := 100) (v := 25) (j := 3) hn rfl hv rfl) (se (n := 2) (u := 100) (v := 25) (j := 3) hn rfl hv _) rfl (by decide) (Nat.le_of_ble_eq_true rfl)) rfl rfl rfl ?_
  refine me1 (pc' := 61) dm_X2_copyOf_60 rfl rfl rfl rfl ?_
  refine me3 (pc' := 64) dm_X2_copyOf_61 (g_get (v := .ref 131) (le_ (n := 2) (u := 100) (v := 25) (j := 0) hn rfl hv rfl) rfl rfl (Nat.le_of_ble_eq_true rfl)) rfl rfl rfl ?_
  refine me1 (pc' := 65) dm_X2_copyOf_64 rfl rfl rfl rfl ?_
  refine me1 (pc' := 66) dm_X2_copyOf_65 rfl rfl rfl rfl ?_
  refine me3 (pc' := 69) dm_X2_copyOf_66 (g_get (v := .ref 8) (lu (n := 2) (j := 2) hn rfl) rfl rfl (Nat.le_of_ble_eq_true rfl)) rfl rfl rfl ?_
  refine me1 (pc' := 70) dm_X2_copyOf_69 rfl rfl rfl rfl ?_
  refine me3 (pc' := 71) dm_X2_copyOf_70 (g_aald (v := .null) (lu (n := 2) (j := 6) hn rfl) rfl (by decide) rfl (Nat.le_of_ble_eq_true rfl)) rfl rfl rfl ?_
  refine me3 (pc' := 72) dm_X2_copyOf_71 (g_aastn (le_ (n := 2) (u := 100) (v := 25) (j := 4) hn rfl hv rfl) (se (n := 2) (u := 100) (v := 25) (j := 4) hn rfl hv _) rfl (by decide) (Nat.le_of_ble_eq_true rfl)) rfl rfl rfl ?_
  refine me1 (pc' := 75) (L' := [(2, .int (14 : Int32)), (0, .ref 127), (1, .ref 4)]) dm_X2_copyOf_72 rfl rfl rfl rfl ?_
  refine me2 (pc' := 18) dm_X2_copyOf_75 rfl rfl rfl ?_
  refine me1 (pc' := 19) dm_X2_copyOf_18 rfl rfl rfl rfl ?_
  refine me0 (pc' := 21) (S' := .int (40 : Int32) :: _) dm_X2_copyOf_19 rfl rfl rfl rfl ?_
  refine me_2f (pc' := 24) dm_X2_copyOf_21 rfl (by decide) rfl ?_
  refine me1 (pc' := 25) dm_X2_copyOf_24 rfl rfl rfl rfl ?_
  refine me3 (pc' := 28) dm_X2_copyOf_25 (g_get (v := .ref 128) (le_ (n := 2) (u := 100) (v := 25) (j := 0) hn rfl hv rfl) rfl rfl (Nat.le_of_ble_eq_true rfl)) rfl rfl rfl ?_
  refine me1 (pc' := 29) dm_X2_copyOf_28 rfl rfl rfl rfl ?_
  refine me1 (pc' := 30) dm_X2_copyOf_29 rfl rfl rfl rfl ?_
  refine me3 (pc' := 33) dm_X2_copyOf_30 (g_get (v := .ref 5) (lu (n := 2) (j := 2) hn rfl) rfl rfl (Nat.le_of_ble_eq_true rfl)) rfl rfl rfl ?_
  refine me1 (pc' := 34) dm_X2_copyOf_33 rfl rfl rfl rfl ?_
  refine me3 (pc' := 35) dm_X2_copyOf_34 (g_lald (v := (0 : Int64)) (lu (n := 2) (j := 3) hn rfl) rfl (by decide) rfl (Nat.le_of_ble_eq_true rfl)) rfl rfl rfl ?_
  refine me3 (pc' := 36) dm_X2_copyOf_35 (g_last (le_ (n := 2) (u := 100) (v := 25) (j := 1) hn rfl hv rfl) (se (n := 2) (u := 100) (v := 25) (j := 1) hn rfl hv _) rfl (by decide) (Nat.le_of_ble_eq_true rfl)) rfl rfl rfl ?_
  refine me1 (pc' := 37) dm_X2_copyOf_36 rfl rfl rfl rfl ?_
  refine me3 (pc' := 40) dm_X2_copyOf_37 (g_get (v := .ref 129) (le_ (n := 2) (u := 100) (v := 25) (j := 0) hn rfl hv rfl) rfl rfl (Nat.le_of_ble_eq_true rfl)) rfl rfl rfl ?_
  refine me1 (pc' := 41) dm_X2_copyOf_40 rfl rfl rfl rfl ?_
  refine me1 (pc' := 42) dm_X2_copyOf_41 rfl rfl rfl rfl ?_
  refine me3 (pc' := 45) dm_X2_copyOf_42 (g_get (v := .ref 6) (lu (n := 2) (j := 2) hn rfl) rfl rfl (Nat.le_of_ble_eq_true rfl)) rfl rfl rfl ?_
  refine me1 (pc' := 46) dm_X2_copyOf_45 rfl rfl rfl rfl ?_
  refine me3 (pc' := 47) dm_X2_copyOf_46 (g_aald (v := .null) (lu (n := 2) (j := 4) hn rfl) rfl (by decide) rfl (Nat.le_of_ble_eq_true rfl)) rfl rfl rfl ?_
  refine me3 (pc' := 48) dm_X2_copyOf_47 (g_aastn (le_ (n := 2) (u := 100) (v := 25) (j := 2) hn rfl hv rfl) (se (n := 2) (u := 100) (v := 25) (j := 2) hn rfl hv _) rfl (by decide) (Nat.le_of_ble_eq_true rfl)) rfl rfl rfl ?_
  refine me1 (pc' := 49) dm_X2_copyOf_48 rfl rfl rfl rfl ?_
  refine me3 (pc' := 52) dm_X2_copyOf_49 (g_get (v := .ref 130) (le_ (n := 2) (u := 100) (v := 25) (j := 0) hn rfl hv rfl) rfl rfl (Nat.le_of_ble_eq_true rfl)) rfl rfl rfl ?_
  refine me1 (pc' := 53) dm_X2_copyOf_52 rfl rfl rfl rfl ?_
  refine me1 (pc' := 54) dm_X2_copyOf_53 rfl rfl rfl rfl ?_
  refine me3 (pc' := 57) dm_X2_copyOf_54 (g_get (v := .ref 7) (lu (n := 2) (j := 2) hn rfl) rfl rfl (Nat.le_of_ble_eq_true rfl)) rfl rfl rfl ?_
  refine me1 (pc' := 58) dm_X2_copyOf_57 rfl rfl rfl rfl ?_
  refine me3 (pc' := 59) dm_X2_copyOf_58 (g_lald (v := (0 : Int64)) (lu (n := 2) (j := 5) hn rfl) rfl (by decide) rfl (Nat.le_of_ble_eq_true rfl)) rfl rfl rfl ?_
  refine me3 (pc' := 60) dm_X2_copyOf_59 (g_last (le_ (n := 2) (u := 100) (v := 25) (j := 3) hn rfl hv rfl) (se (n := 2) (u := 100) (v := 25) (j := 3) hn rfl hv _) rfl (by decide) (Nat.le_of_ble_eq_true rfl)) rfl rfl rfl ?_
  refine me1 (pc' := 61) dm_X2_copyOf_60 rfl rfl rfl rfl ?_
  refine me3 (pc' := 64) dm_X2_copyOf_61 (g_get (v := .ref 131) (le_ (n := 2) (u := 100) (v := 25) (j := 0) hn rfl hv rfl) rfl rfl (Nat.le_of_ble_eq_true rfl)) rfl rfl rfl ?_
  refine me1 (pc' := 65) dm_X2_copyOf_64 rfl rfl rfl rfl ?_
  refine me1 (pc' := 66) dm_X2_copyOf_65 rfl rfl rfl rfl ?_
  refine me3 (pc' := 69) dm_X2_copyOf_66 (g_get (v := .ref 8) (lu (n := 2) (j := 2) hn rfl) rfl rfl (Nat.le_of_ble_eq_true rfl)) rfl rfl rfl ?_
  refine me1 (pc' := 70) dm_X2_copyOf_69 rfl rfl rfl rfl ?_
  refine me3 (pc' := 71) dm_X2_copyOf_70 (g_aald (v := .null) (lu (n := 2) (j := 6) hn rfl) rfl (by decide) rfl (Nat.le_of_ble_eq_true rfl)) rfl rfl rfl ?_
  refine me3 (pc' := 72) dm_X2_copyOf_71 (g_aastn (le_ (n := 2) (u := 100) (v := 25) (j := 4) hn rfl hv rfl) (se (n := 2) (u := 100) (v := 25) (j := 4) hn rfl hv _) rfl (by decide) (Nat.le_of_ble_eq_true rfl)) rfl rfl rfl ?_
  refine me1 (pc' := 75) (L' := [(2, .int (15 : Int32)), (0, .ref 127), (1, .ref 4)]) dm_X2_copyOf_72 rfl rfl rfl rfl ?_
  refine me2 (pc' := 18) dm_X2_copyOf_75 rfl rfl rfl ?_
  refine me1 (pc' := 19) dm_X2_copyOf_18 rfl rfl rfl rfl ?_
  refine me0 (pc' := 21) (S' := .int (40 : Int32) :: _) dm_X2_copyOf_19 rfl rfl rfl rfl ?_
  refine me_2f (pc' := 24) dm_X2_copyOf_21 rfl (by decide) rfl ?_
  refine me1 (pc' := 25) dm_X2_copyOf_24 rfl rfl rfl rfl ?_
  refine me3 (pc' := 28) dm_X2_copyOf_25 (g_get (v := .ref 128) (le_ (n := 2) (u := 100) (v := 25) (j := 0) hn rfl hv rfl) rfl rfl (Nat.le_of_ble_eq_true rfl)) rfl rfl rfl ?_
  refine me1 (pc' := 29) dm_X2_copyOf_28 rfl rfl rfl rfl ?_
  refine me1 (pc' := 30) dm_X2_copyOf_29 rfl rfl rfl rfl ?_
  refine me3 (pc' := 33) dm_X2_copyOf_30 (g_get (v := .ref 5) (lu (n := 2) (j := 2) hn rfl) rfl rfl (Nat.le_of_ble_eq_true rfl)) rfl rfl rfl ?_
  refine me1 (pc' := 34) dm_X2_copyOf_33 rfl rfl rfl rfl ?_
  refine me3 (pc' := 35) dm_X2_copyOf_34 (g_lald (v := (0 : Int64)) (lu (n := 2) (j := 3) hn rfl) rfl (by decide) rfl (Nat.le_of_ble_eq_true rfl)) rfl rfl rfl ?_
  refine me3 (pc' := 36) dm_X2_copyOf_35 (g_last (le_ (n := 2) (u := 100) (v := 25) (j := 1) hn rfl hv rfl) (se (n := 2) (u := 100) (v := 25) (j := 1) hn rfl hv _) rfl (by decide) (Nat.le_of_ble_eq_true rfl)) rfl rfl rfl ?_
  refine me1 (pc' := 37) dm_X2_copyOf_36 rfl rfl rfl rfl ?_
  refine me3 (pc' := 40) dm_X2_copyOf_37 (g_get (v := .ref 129) (le_ (n := 2) (u := 100) (v := 25) (j := 0) hn rfl hv rfl) rfl rfl (Nat.le_of_ble_eq_true rfl)) rfl rfl rfl ?_
  refine me1 (pc' := 41) dm_X2_copyOf_40 rfl rfl rfl rfl ?_
  refine me1 (pc' := 42) dm_X2_copyOf_41 rfl rfl rfl rfl ?_
  refine me3 (pc' := 45) dm_X2_copyOf_42 (g_get (v := .ref 6) (lu (n := 2) (j := 2) hn rfl) rfl rfl (Nat.le_of_ble_eq_true rfl)) rfl rfl rfl ?_
  refine me1 (pc' := 46) dm_X2_copyOf_45 rfl rfl rfl rfl ?_
  refine me3 (pc' := 47) dm_X2_copyOf_46 (g_aald (v := .null) (lu (n := 2) (j := 4) hn rfl) rfl (by decide) rfl (Nat.le_of_ble_eq_true rfl)) rfl rfl rfl ?_
  refine me3 (pc' := 48) dm_X2_copyOf_47 (g_aastn (le_ (n := 2) (u := 100) (v := 25) (j := 2) hn rfl hv rfl) (se (n := 2) (u := 100) (v := 25) (j := 2) hn rfl hv _) rfl (by decide) (Nat.le_of_ble_eq_true rfl)) rfl rfl rfl ?_
  refine me1 (pc' := 49) dm_X2_copyOf_48 rfl rfl rfl rfl ?_
  refine me3 (pc' := 52) dm_X2_copyOf_49 (g_get (v := .ref 130) (le_ (n := 2) (u := 100) (v := 25) (j := 0) hn rfl hv rfl) rfl rfl (Nat.le_of_ble_eq_true rfl)) rfl rfl rfl ?_
  refine me1 (pc' := 53) dm_X2_copyOf_52 rfl rfl rfl rfl ?_
  refine me1 (pc' := 54) dm_X2_copyOf_53 rfl rfl rfl rfl ?_
  refine me3 (pc' := 57) dm_X2_copyOf_54 (g_get (v := .ref 7) (lu (n := 2) (j := 2) hn rfl) rfl rfl (Nat.le_of_ble_eq_true rfl)) rfl rfl rfl ?_
  refine me1 (pc' := 58) dm_X2_copyOf_57 rfl rfl rfl rfl ?_
  refine me3 (pc' := 59) dm_X2_copyOf_58 (g_lald (v := (0 : Int64)) (lu (n := 2) (j := 5) hn rfl) rfl (by decide) rfl (Nat.le_of_ble_eq_true rfl)) rfl rfl rfl ?_
  refine me3 (pc' := 60) dm_X2_copyOf_59 (g_last (le_ (n := 2) (u := 100) (v := 25) (j := 3) hn rfl hv rfl) (se (n := 2) (u := 100) (v := 25) (j := 3) hn rfl hv _) rfl (by decide) (Nat.le_of_ble_eq_true rfl)) rfl rfl rfl ?_
  refine me1 (pc' := 61) dm_X2_copyOf_60 rfl rfl rfl rfl ?_
  refine me3 (pc' := 64) dm_X2_copyOf_61 (g_get (v := .ref 131) (le_ (n := 2) (u := 100) (v := 25) (j := 0) hn rfl hv rfl) rfl rfl (Nat.le_of_ble_eq_true rfl)) rfl rfl rfl ?_
  refine me1 (pc' := 65) dm_X2_copyOf_64 rfl rfl rfl rfl ?_
  refine me1 (pc' := 66) dm_X2_copyOf_65 rfl rfl rfl rfl ?_
  refine me3 (pc' := 69) dm_X2_copyOf_66 (g_get (v := .ref 8) (lu (n := 2) (j := 2) hn rfl) rfl rfl (Nat.le_of_ble_eq_true rfl)) rfl rfl rfl ?_
  refine me1 (pc' := 70) dm_X2_copyOf_69 rfl rfl rfl rfl ?_
  refine me3 (pc' := 71) dm_X2_copyOf_70 (g_aald (v := .null) (lu (n := 2) (j := 6) hn rfl) rfl (by decide) rfl (Nat.le_of_ble_eq_true rfl)) rfl rfl rfl ?_
  refine me3 (pc' := 72) dm_X2_copyOf_71 (g_aastn (le_ (n := 2) (u := 100) (v := 25) (j := 4) hn rfl hv rfl) (se (n := 2) (u := 100) (v := 25) (j := 4) hn rfl hv _) rfl (by decide) (Nat.le_of_ble_eq_true rfl)) rfl rfl rfl ?_
  refine me1 (pc' := 75) (L' := [(2, .int (16 : Int32)), (0, .ref 127), (1, .ref 4)]) dm_X2_copyOf_72 rfl rfl rfl rfl ?_
  refine me2 (pc' := 18) dm_X2_copyOf_75 rfl rfl rfl ?_
  refine me1 (pc' := 19) dm_X2_copyOf_18 rfl rfl rfl rfl ?_
  refine me0 (pc' := 21) (S' := .int (40 : Int32) :: _) dm_X2_copyOf_19 rfl rfl rfl rfl ?_
  refine me_2f (pc' := 24) dm_X2_copyOf_21 rfl (by decide) rfl ?_
  refine me1 (pc' := 25) dm_X2_copyOf_24 rfl rfl rfl rfl ?_
  refine me3 (pc' := 28) dm_X2_copyOf_25 (g_get (v := .ref 128) (le_ (n := 2) (u := 100) (v := 25) (j := 0) hn rfl hv rfl) rfl rfl (Nat.le_of_ble_eq_true rfl)) rfl rfl rfl ?_
  refine me1 (pc' := 29) dm_X2_copyOf_28 rfl rfl rfl rfl ?_
  refine me1 (pc' := 30) dm_X2_copyOf_29 rfl rfl rfl rfl ?_
  refine me3 (pc' := 33) dm_X2_copyOf_30 (g_get (v := .ref 5) (lu (n := 2) (j := 2) hn rfl) rfl rfl (Nat.le_of_ble_eq_true rfl)) rfl rfl rfl ?_
  refine me1 (pc' := 34) dm_X2_copyOf_33 rfl rfl rfl rfl ?_
  refine me3 (pc' := 35) dm_X2_copyOf_34 (g_lald (v := (0 : Int64)) (lu (n := 2) (j := 3) hn rfl) rfl (by decide) rfl (Nat.le_of_ble_eq_true rfl)) rfl rfl rfl ?_
  refine me3 (pc' := 36) dm_X2_copyOf_35 (g_last (le_ (n := 2) (u := 100) (v := 25) (j := 1) hn rfl hv rfl) (se (n := 2) (u := 100) (v := 25) (j := 1) hn rfl hv _) rfl (by decide) (Nat.le_of_ble_eq_true rfl)) rfl rfl rfl ?_
  refine me1 (pc' := 37) dm_X2_copyOf_36 rfl rfl rfl rfl ?_
  refine me3 (pc' := 40) dm_X2_copyOf_37 (g_get (v := .ref 129) (le_ (n := 2) (u := 100) (v := 25) (j := 0) hn rfl hv rfl) rfl rfl (Nat.le_of_ble_eq_true rfl)) rfl rfl rfl ?_
  refine me1 (pc' := 41) dm_X2_copyOf_40 rfl rfl rfl rfl ?_
  refine me1 (pc' := 42) dm_X2_copyOf_41 rfl rfl rfl rfl ?_
  refine me3 (pc' := 45) dm_X2_copyOf_42 (g_get (v := .ref 6) (lu (n := 2) (j := 2) hn rfl) rfl rfl (Nat.le_of_ble_eq_true rfl)) rfl rfl rfl ?_
  refine me1 (pc' := 46) dm_X2_copyOf_45 rfl rfl rfl rfl ?_
  refine me3 (pc' := 47) dm_X2_copyOf_46 (g_aald (v := .null) (lu (n := 2) (j := 4) hn rfl) rfl (by decide) rfl (Nat.le_of_ble_eq_true rfl)) rfl rfl rfl ?_
  refine me3 (pc' := 48) dm_X2_copyOf_47 (g_aastn (le_ (n := 2) (u := 100) (v := 25) (j := 2) hn rfl hv rfl) (se (n := 2) (u := 100) (v := 25) (j := 2) hn rfl hv _) rfl (by decide) (Nat.le_of_ble_eq_true rfl)) rfl rfl rfl ?_
  refine me1 (pc' := 49) dm_X2_copyOf_48 rfl rfl rfl rfl ?_
  refine me3 (pc' := 52) dm_X2_copyOf_49 (g_get (v := .ref 130) (le_ (n := 2) (u := 100) (v := 25) (j := 0) hn rfl hv rfl) rfl rfl (Nat.le_of_ble_eq_true rfl)) rfl rfl rfl ?_
  refine me1 (pc' := 53) dm_X2_copyOf_52 rfl rfl rfl rfl ?_
  refine me1 (pc' := 54) dm_X2_copyOf_53 rfl rfl rfl rfl ?_
  refine me3 (pc' := 57) dm_X2_copyOf_54 (g_get (v := .ref 7) (lu (n := 2) (j := 2) hn rfl) rfl rfl (Nat.le_of_ble_eq_true rfl)) rfl rfl rfl ?_
  refine me1 (pc' := 58) dm_X2_copyOf_57 rfl rfl rfl rfl ?_
  refine me3 (pc' := 59) dm_X2_copyOf_58 (g_lald (v := (0 : Int64)) (lu (n := 2) (j := 5) hn rfl) rfl (by decide) rfl (Nat.le_of_ble_eq_true rfl)) rfl rfl rfl ?_
  refine me3 (pc' := 60) dm_X2_copyOf_59 (g_last (le_ (n := 2) (u := 100) (v := 25) (j := 3) hn rfl hv rfl) (se (n := 2) (u := 100) (v := 25) (j := 3) hn rfl hv _) rfl (by decide) (Nat.le_of_ble_eq_true rfl)) rfl rfl rfl ?_
  refine me1 (pc' := 61) dm_X2_copyOf_60 rfl rfl rfl rfl ?_
  refine me3 (pc' := 64) dm_X2_copyOf_61 (g_get (v := .ref 131) (le_ (n := 2) (u := 100) (v := 25) (j := 0) hn rfl hv rfl) rfl rfl (Nat.le_of_ble_eq_true rfl)) rfl rfl rfl ?_
  refine me1 (pc' := 65) dm_X2_copyOf_64 rfl rfl rfl rfl ?_
  refine me1 (pc' := 66) dm_X2_copyOf_65 rfl rfl rfl rfl ?_
  refine me3 (pc' := 69) dm_X2_copyOf_66 (g_get (v := .ref 8) (lu (n := 2) (j := 2) hn rfl) rfl rfl (Nat.le_of_ble_eq_true rfl)) rfl rfl rfl ?_
  refine me1 (pc' := 70) dm_X2_copyOf_69 rfl rfl rfl rfl ?_
  refine me3 (pc' := 71) dm_X2_copyOf_70 (g_aald (v := .null) (lu (n := 2) (j := 6) hn rfl) rfl (by decide) rfl (Nat.le_of_ble_eq_true rfl)) rfl rfl rfl ?_
  refine me3 (pc' := 72) dm_X2_copyOf_71 (g_aastn (le_ (n := 2) (u := 100) (v := 25) (j := 4) hn rfl hv rfl) (se (n := 2) (u := 100) (v := 25) (j := 4) hn rfl hv _) rfl (by decide) (Nat.le_of_ble_eq_true rfl)) rfl rfl rfl ?_
  refine me1 (pc' := 75) (L' := [(2, .int (17 : Int32)), (0, .ref 127), (1, .ref 4)]) dm_X2_copyOf_72 rfl rfl rfl rfl ?_
  refine me2 (pc' := 18) dm_X2_copyOf_75 rfl rfl rfl ?_
  refine me1 (pc' := 19) dm_X2_copyOf_18 rfl rfl rfl rfl ?_
  refine me0 (pc' := 21) (S' := .int (40 : Int32) :: _) dm_X2_copyOf_19 rfl rfl rfl rfl ?_
  refine me_2f (pc' := 24) dm_X2_copyOf_21 rfl (by decide) rfl ?_
  refine me1 (pc' := 25) dm_X2_copyOf_24 rfl rfl rfl rfl ?_
  refine me3 (pc' := 28) dm_X2_copyOf_25 (g_get (v := .ref 128) (le_ (n := 2) (u := 100) (v := 25) (j := 0) hn rfl hv rfl) rfl rfl (Nat.le_of_ble_eq_true rfl)) rfl rfl rfl ?_
  refine me1 (pc' := 29) dm_X2_copyOf_28 rfl rfl rfl rfl ?_
  refine me1 (pc' := 30) dm_X2_copyOf_29 rfl rfl rfl rfl ?_
  refine me3 (pc' := 33) dm_X2_copyOf_30 (g_get (v := .ref 5) (lu (n := 2) (j := 2) hn rfl) rfl rfl (Nat.le_of_ble_eq_true rfl)) rfl rfl rfl ?_
  refine me1 (pc' := 34) dm_X2_copyOf_33 rfl rfl rfl rfl ?_
  refine me3 (pc' := 35) dm_X2_copyOf_34 (g_lald (v := (0 : Int64)) (lu (n := 2) (j := 3) hn rfl) rfl (by decide) rfl (Nat.le_of_ble_eq_true rfl)) rfl rfl rfl ?_
  refine me3 (pc' := 36) dm_X2_copyOf_35 (g_last (le_ (n := 2) (u := 100) (v := 25) (j := 1) hn rfl hv rfl) (se (n := 2) (u := 100) (v := 25) (j := 1) hn rfl hv _) rfl (by decide) (Nat.le_of_ble_eq_true rfl)) rfl rfl rfl ?_
  refine me1 (pc' := 37) dm_X2_copyOf_36 rfl rfl rfl rfl ?_
  refine me3 (pc' := 40) dm_X2_copyOf_37 (g_get (v := .ref 129) (le_ (n := 2) (u := 100) (v := 25) (j := 0) hn rfl hv rfl) rfl rfl (Nat.le_of_ble_eq_true rfl)) rfl rfl rfl ?_
  refine me1 (pc' := 41) dm_X2_copyOf_40 rfl rfl rfl rfl ?_
  refine me1 (pc' := 42) dm_X2_copyOf_41 rfl rfl rfl rfl ?_
  refine me3 (pc' := 45) dm_X2_copyOf_42 (g_get (v := .ref 6) (lu (n := 2) (j := 2) hn rfl) rfl rfl (Nat.le_of_ble_eq_true rfl)) rfl rfl rfl ?_
  refine me1 (pc' := 46) dm_X2_copyOf_45 rfl rfl rfl rfl ?_
  refine me3 (pc' := 47) dm_X2_copyOf_46 (g_aald (v := .null) (lu (n := 2) (j := 4) hn rfl) rfl (by decide) rfl (Nat.le_of_ble_eq_true rfl)) rfl rfl rfl ?_
  refine me3 (pc' := 48) dm_X2_copyOf_47 (g_aastn (le_ (n := 2) (u := 100) (v := 25) (j := 2) hn rfl hv rfl) (se (n := 2) (u := 100) (v := 25) (j := 2) hn rfl hv _) rfl (by decide) (Nat.le_of_ble_eq_true rfl)) rfl rfl rfl ?_
  refine me1 (pc' := 49) dm_X2_copyOf_48 rfl rfl rfl rfl ?_
  refine me3 (pc' := 52) dm_X2_copyOf_49 (g_get (v := .ref 130) (le_ (n := 2) (u := 100) (v := 25) (j := 0) hn rfl hv rfl) rfl rfl (Nat.le_of_ble_eq_true rfl)) rfl rfl rfl ?_
  refine me1 (pc' := 53) dm_X2_copyOf_52 rfl rfl rfl rfl ?_
  refine me1 (pc' := 54) dm_X2_copyOf_53 rfl rfl rfl rfl ?_
  refine me3 (pc' := 57) dm_X2_copyOf_54 (g_get (v := .ref 7) (lu (n := 2) (j := 2) hn rfl) rfl rfl (Nat.le_of_ble_eq_true rfl)) rfl rfl rfl ?_
  refine me1 (pc' := 58) dm_X2_copyOf_57 rfl rfl rfl rfl ?_
  refine me3 (pc' := 59) dm_X2_copyOf_58 (g_lald (v := (0 : Int64)) (lu (n := 2) (j := 5) hn rfl) rfl (by decide) rfl (Nat.le_of_ble_eq_true rfl)) rfl rfl rfl ?_
  refine me3 (pc' := 60) dm_X2_copyOf_59 (g_last (le_ (n := 2) (u := 100) (v := 25) (j := 3) hn rfl hv rfl) (se (n := 2) (u := 100) (v := 25) (j := 3) hn rfl hv _) rfl (by decide) (Nat.le_of_ble_eq_true rfl)) rfl rfl rfl ?_
  refine me1 (pc' := 61) dm_X2_copyOf_60 rfl rfl rfl rfl ?_
  refine me3 (pc' := 64) dm_X2_copyOf_61 (g_get (v := .ref 131) (le_ (n := 2) (u := 100) (v := 25) (j := 0) hn rfl hv rfl) rfl rfl (Nat.le_of_ble_eq_true rfl)) rfl rfl rfl ?_
  refine me1 (pc' := 65) dm_X2_copyOf_64 rfl rfl rfl rfl ?_
  refine me1 (pc' := 66) dm_X2_copyOf_65 rfl rfl rfl rfl ?_
  refine me3 (pc' := 69) dm_X2_copyOf_66 (g_get (v := .ref 8) (lu (n := 2) (j := 2) hn rfl) rfl rfl (Nat.le_of_ble_eq_true rfl)) rfl rfl rfl ?_
  refine me1 (pc' := 70) dm_X2_copyOf_69 rfl rfl rfl rfl ?_
  refine me3 (pc' := 71) dm_X2_copyOf_70 (g_aald (v := .null) (lu (n := 2) (j := 6) hn rfl) rfl (by decide) rfl (Nat.le_of_ble_eq_true rfl)) rfl rfl rfl ?_
  refine me3 (pc' := 72) dm_X2_copyOf_71 (g_aastn (le_ (n := 2) (u := 100) (v := 25) (j := 4) hn rfl hv rfl) (se (n := 2) (u := 100) (v := 25) (j := 4) hn rfl hv _) rfl (by decide) (Nat.le_of_ble_eq_true rfl)) rfl rfl rfl ?_
  refine me1 (pc' := 75) (L' := [(2, .int (18 : Int32)), (0, .ref 127), (1, .ref 4)]) dm_X2_copyOf_72 rfl rfl rfl rfl ?_
  refine me2 (pc' := 18) dm_X2_copyOf_75 rfl rfl rfl ?_
  refine me1 (pc' := 19) dm_X2_copyOf_18 rfl rfl rfl rfl ?_
  refine me0 (pc' := 21) (S' := .int (40 : Int32) :: _) dm_X2_copyOf_19 rfl rfl rfl rfl ?_
  refine me_2f (pc' := 24) dm_X2_copyOf_21 rfl (by decide) rfl ?_
  refine me1 (pc' := 25) dm_X2_copyOf_24 rfl rfl rfl rfl ?_
  refine me3 (pc' := 28) dm_X2_copyOf_25 (g_get (v := .ref 128) (le_ (n := 2) (u := 100) (v := 25) (j := 0) hn rfl hv rfl) rfl rfl (Nat.le_of_ble_eq_true rfl)) rfl rfl rfl ?_
  refine me1 (pc' := 29) dm_X2_copyOf_28 rfl rfl rfl rfl ?_
  refine me1 (pc' := 30) dm_X2_copyOf_29 rfl rfl rfl rfl ?_
  refine me3 (pc' := 33) dm_X2_copyOf_30 (g_get (v := .ref 5) (lu (n := 2) (j := 2) hn rfl) rfl rfl (Nat.le_of_ble_eq_true rfl)) rfl rfl rfl ?_
  refine me1 (pc' := 34) dm_X2_copyOf_33 rfl rfl rfl rfl ?_
  refine me3 (pc' := 35) dm_X2_copyOf_34 (g_lald (v := (0 : Int64)) (lu (n := 2) (j := 3) hn rfl) rfl (by decide) rfl (Nat.le_of_ble_eq_true rfl)) rfl rfl rfl ?_
  refine me3 (pc' := 36) dm_X2_copyOf_35 (g_last (le_ (n := 2) (u := 100) (v := 25) (j := 1) hn rfl hv rfl) (se (n := 2) (u := 100) (v := 25) (j := 1) hn rfl hv _) rfl (by decide) (Nat.le_of_ble_eq_true rfl)) rfl rfl rfl ?_
  refine me1 (pc' := 37) dm_X2_copyOf_36 rfl rfl rfl rfl ?_
  refine me3 (pc' := 40) dm_X2_copyOf_37 (g_get (v := .ref 129) (le_ (n := 2) (u := 100) (v := 25) (j := 0) hn rfl hv rfl) rfl rfl (Nat.le_of_ble_eq_true rfl)) rfl rfl rfl ?_
  refine me1 (pc' := 41) dm_X2_copyOf_40 rfl rfl rfl rfl ?_
  refine me1 (pc' := 42) dm_X2_copyOf_41 rfl rfl rfl rfl ?_
  refine me3 (pc' := 45) dm_X2_copyOf_42 (g_get (v := .ref 6) (lu (n := 2) (j := 2) hn rfl) rfl rfl (Nat.le_of_ble_eq_true rfl)) rfl rfl rfl ?_
  refine me1 (pc' := 46) dm_X2_copyOf_45 rfl rfl rfl rfl ?_
  refine me3 (pc' := 47) dm_X2_copyOf_46 (g_aald (v := .null) (lu (n := 2) (j := 4) hn rfl) rfl (by decide) rfl (Nat.le_of_ble_eq_true rfl)) rfl rfl rfl ?_
  refine me3 (pc' := 48) dm_X2_copyOf_47 (g_aastn (le_ (n := 2) (u := 100) (v := 25) (j := 2) hn rfl hv rfl) (se (n := 2) (u := 100) (v := 25) (j := 2) hn rfl hv _) rfl (by decide) (Nat.le_of_ble_eq_true rfl)) rfl rfl rfl ?_
  refine me1 (pc' := 49) dm_X2_copyOf_48 rfl rfl rfl rfl ?_
  refine me3 (pc' := 52) dm_X2_copyOf_49 (g_get (v := .ref 130) (le_ (n := 2) (u := 100) (v := 25) (j := 0) hn rfl hv rfl) rfl rfl (Nat.le_of_ble_eq_true rfl)) rfl rfl rfl ?_
  refine me1 (pc' := 53) dm_X2_copyOf_52 rfl rfl rfl rfl ?_
  refine me1 (pc' := 54) dm_X2_copyOf_53 rfl rfl rfl rfl ?_
  refine me3 (pc' := 57) dm_X2_copyOf_54 (g_get (v := .ref 7) (lu (n := 2) (j := 2) hn rfl) rfl rfl (Nat.le_of_ble_eq_true rfl)) rfl rfl rfl ?_
  refine me1 (pc' := 58) dm_X2_copyOf_57 rfl rfl rfl rfl ?_
  refine me3 (pc' := 59) dm_X2_copyOf_58 (g_lald (v := (0 : Int64)) (lu (n := 2) (j := 5) hn rfl) rfl (by decide) rfl (Nat.le_of_ble_eq_true rfl)) rfl rfl rfl ?_
  refine me3 (pc' := 60) dm_X2_copyOf_59 (g_last (le_ (n := 2) (u := 100) (v := 25) (j := 3) hn rfl hv rfl) (se (n := 2) (u := 100) (v := 25) (j := 3) hn rfl hv _) rfl (by decide) (Nat.le_of_ble_eq_true rfl)) rfl rfl rfl ?_
  refine me1 (pc' := 61) dm_X2_copyOf_60 rfl rfl rfl rfl ?_
  refine me3 (pc' := 64) dm_X2_copyOf_61 (g_get (v := .ref 131) (le_ (n := 2) (u := 100) (v := 25) (j := 0) hn rfl hv rfl) rfl rfl (Nat.le_of_ble_eq_true rfl)) rfl rfl rfl ?_
  refine me1 (pc' := 65) dm_X2_copyOf_64 rfl rfl rfl rfl ?_
  refine me1 (pc' := 66) dm_X2_copyOf_65 rfl rfl rfl rfl ?_
  refine me3 (pc' := 69) dm_X2_copyOf_66 (g_get (v := .ref 8) (lu (n := 2) (j := 2) hn rfl) rfl rfl (Nat.le_of_ble_eq_true rfl)) rfl rfl rfl ?_
  refine me1 (pc' := 70) dm_X2_copyOf_69 rfl rfl rfl rfl ?_
  refine me3 (pc' := 71) dm_X2_copyOf_70 (g_aald (v := .null) (lu (n := 2) (j := 6) hn rfl) rfl (by decide) rfl (Nat.le_of_ble_eq_true rfl)) rfl rfl rfl ?_
  refine me3 (pc' := 72) dm_X2_copyOf_71 (g_aastn (le_ (n := 2) (u := 100) (v := 25) (j := 4) hn rfl hv rfl) (se (n := 2) (u := 100) (v := 25) (j := 4) hn rfl hv _) rfl (by decide) (Nat.le_of_ble_eq_true rfl)) rfl rfl rfl ?_
  refine me1 (pc' := 75) (L' := [(2, .int (19 : Int32)), (0, .ref 127), (1, .ref 4)]) dm_X2_copyOf_72 rfl rfl rfl rfl ?_
  refine me2 (pc' := 18) dm_X2_copyOf_75 rfl rfl rfl ?_
  refine me1 (pc' := 19) dm_X2_copyOf_18 rfl rfl rfl rfl ?_
  refine me0 (pc' := 21) (S' := .int (40 : Int32) :: _) dm_X2_copyOf_19 rfl rfl rfl rfl ?_
  refine me_2f (pc' := 24) dm_X2_copyOf_21 rfl (by decide) rfl ?_
  refine me1 (pc' := 25) dm_X2_copyOf_24 rfl rfl rfl rfl ?_
  refine me3 (pc' := 28) dm_X2_copyOf_25 (g_get (v := .ref 128) (le_ (n := 2) (u := 100) (v := 25) (j := 0) hn rfl hv rfl) rfl rfl (Nat.le_of_ble_eq_true rfl)) rfl rfl rfl ?_
  refine me1 (pc' := 29) dm_X2_copyOf_28 rfl rfl rfl rfl ?_
  refine me1 (pc' := 30) dm_X2_copyOf_29 rfl rfl rfl rfl ?_
  refine me3 (pc' := 33) dm_X2_copyOf_30 (g_get (v := .ref 5) (lu (n := 2) (j := 2) hn rfl) rfl rfl (Nat.le_of_ble_eq_true rfl)) rfl rfl rfl ?_
  refine me1 (pc' := 34) dm_X2_copyOf_33 rfl rfl rfl rfl ?_
  refine me3 (pc' := 35) dm_X2_copyOf_34 (g_lald (v := (0 : Int64)) (lu (n := 2) (j := 3) hn rfl) rfl (by decide) rfl (Nat.le_of_ble_eq_true rfl)) rfl rfl rfl ?_
  refine me3 (pc' := 36) dm_X2_copyOf_35 (g_last (le_ (n := 2) (u := 100) (v := 25) (j := 1) hn rfl hv rfl) (se (n := 2) (u := 100) (v := 25) (j := 1) hn rfl hv _) rfl (by decide) (Nat.le_of_ble_eq_true rfl)) rfl rfl rfl ?_
  refine me1 (pc' := 37) dm_X2_copyOf_36 rfl rfl rfl rfl ?_
  refine me3 (pc' := 40) dm_X2_copyOf_37 (g_get (v := .ref 129) (le_ (n := 2) (u := 100) (v := 25) (j := 0) hn rfl hv rfl) rfl rfl (Nat.le_of_ble_eq_true rfl)) rfl rfl rfl ?_
  refine me1 (pc' := 41) dm_X2_copyOf_40 rfl rfl rfl rfl ?_
  refine me1 (pc' := 42) dm_X2_copyOf_41 rfl rfl rfl rfl ?_
  refine me3 (pc' := 45) dm_X2_copyOf_42 (g_get (v := .ref 6) (lu (n := 2) (j := 2) hn rfl) rfl rfl (Nat.le_of_ble_eq_true rfl)) rfl rfl rfl ?_
  refine me1 (pc' := 46) dm_X2_copyOf_45 rfl rfl rfl rfl ?_
  refine me3 (pc' := 47) dm_X2_copyOf_46 (g_aald (v := .null) (lu (n := 2) (j := 4) hn rfl) rfl (by decide) rfl (Nat.le_of_ble_eq_true rfl)) rfl rfl rfl ?_
  refine me3 (pc' := 48) dm_X2_copyOf_47 (g_aastn (le_ (n := 2) (u := 100) (v := 25) (j := 2) hn rfl hv rfl) (se (n := 2) (u := 100) (v := 25) (j := 2) hn rfl hv _) rfl (by decide) (Nat.le_of_ble_eq_true rfl)) rfl rfl rfl ?_
  refine me1 (pc' := 49) dm_X2_copyOf_48 rfl rfl rfl rfl ?_
  refine me3 (pc' := 52) dm_X2_copyOf_49 (g_get (v := .ref 130) (le_ (n := 2) (u := 100) (v := 25) (j := 0) hn rfl hv rfl) rfl rfl (Nat.le_of_ble_eq_true rfl)) rfl rfl rfl ?_
  refine me1 (pc' := 53) dm_X2_copyOf_52 rfl rfl rfl rfl ?_
  refine me1 (pc' := 54) dm_X2_copyOf_53 rfl rfl rfl rfl ?_
  refine me3 (pc' := 57) dm_X2_copyOf_54 (g_get (v := .ref 7) (lu (n := 2) (j := 2) hn rfl) rfl rfl (Nat.le_of_ble_eq_true rfl)) rfl rfl rfl ?_
  refine me1 (pc' := 58) dm_X2_copyOf_57 rfl rfl rfl rfl ?_
  refine me3 (pc' := 59) dm_X2_copyOf_58 (g_lald (v := (0 : Int64)) (lu (n := 2) (j := 5) hn rfl) rfl (by decide) rfl (Nat.le_of_ble_eq_true rfl)) rfl rfl rfl ?_
  refine me3 (pc' := 60) dm_X2_copyOf_59 (g_last (le_ (n := 2) (u := 100) (v := 25) (j := 3) hn rfl hv rfl) (se (n := 2) (u := 100) (v := 25) (j := 3) hn rfl hv _) rfl (by decide) (Nat.le_of_ble_eq_true rfl)) rfl rfl rfl ?_
  refine me1 (pc' := 61) dm_X2_copyOf_60 rfl rfl rfl rfl ?_
  refine me3 (pc' := 64) dm_X2_copyOf_61 (g_get (v := .ref 131) (le_ (n := 2) (u := 100) (v := 25) (j := 0) hn rfl hv rfl) rfl rfl (Nat.le_of_ble_eq_true rfl)) rfl rfl rfl ?_
  refine me1 (pc' := 65) dm_X2_copyOf_64 rfl rfl rfl rfl ?_
  refine me1 (pc' := 66) dm_X2_copyOf_65 rfl rfl rfl rfl ?_
  refine me3 (pc' := 69) dm_X2_copyOf_66 (g_get (v := .ref 8) (lu (n := 2) (j := 2) hn rfl) rfl rfl (Nat.le_of_ble_eq_true rfl)) rfl rfl rfl ?_
  refine me1 (pc' := 70) dm_X2_copyOf_69 rfl rfl rfl rfl ?_
  refine me3 (pc' := 71) dm_X2_copyOf_70 (g_aald (v := .null) (lu (n := 2) (j := 6) hn rfl) rfl (by decide) rfl (Nat.le_of_ble_eq_true rfl)) rfl rfl rfl ?_
  refine me3 (pc' := 72) dm_X2_copyOf_71 (g_aastn (le_ (n := 2) (u := 100) (v := 25) (j := 4) hn rfl hv rfl) (se (n := 2) (u := 100) (v := 25) (j := 4) hn rfl hv _) rfl (by decide) (Nat.le_of_ble_eq_true rfl)) rfl rfl rfl ?_
  refine me1 (pc' := 75) (L' := [(2, .int (20 : Int32)), (0, .ref 127), (1, .ref 4)]) dm_X2_copyOf_72 rfl rfl rfl rfl ?_
  refine me2 (pc' := 18) dm_X2_copyOf_75 rfl rfl rfl ?_
  refine me1 (pc' := 19) dm_X2_copyOf_18 rfl rfl rfl rfl ?_
  refine me0 (pc' := 21) (S' := .int (40 : Int32) :: _) dm_X2_copyOf_19 rfl rfl rfl rfl ?_
  refine me_2f (pc' := 24) dm_X2_copyOf_21 rfl (by decide) rfl ?_
  refine me1 (pc' := 25) dm_X2_copyOf_24 rfl rfl rfl rfl ?_
  refine me3 (pc' := 28) dm_X2_copyOf_25 (g_get (v := .ref 128) (le_ (n := 2) (u := 100) (v := 25) (j := 0) hn rfl hv rfl) rfl rfl (Nat.le_of_ble_eq_true rfl)) rfl rfl rfl ?_
  refine me1 (pc' := 29) dm_X2_copyOf_28 rfl rfl rfl rfl ?_
  refine me1 (pc' := 30) dm_X2_copyOf_29 rfl rfl rfl rfl ?_
  refine me3 (pc' := 33) dm_X2_copyOf_30 (g_get (v := .ref 5) (lu (n := 2) (j := 2) hn rfl) rfl rfl (Nat.le_of_ble_eq_true rfl)) rfl rfl rfl ?_
  refine me1 (pc' := 34) dm_X2_copyOf_33 rfl rfl rfl rfl ?_
  refine me3 (pc' := 35) dm_X2_copyOf_34 (g_lald (v := (0 : Int64)) (lu (n := 2) (j := 3) hn rfl) rfl (by decide) rfl (Nat.le_of_ble_eq_true rfl)) rfl rfl rfl ?_
  refine me3 (pc' := 36) dm_X2_copyOf_35 (g_last (le_ (n := 2) (u := 100) (v := 25) (j := 1) hn rfl hv rfl) (se (n := 2) (u := 100) (v := 25) (j := 1) hn rfl hv _) rfl (by decide) (Nat.le_of_ble_eq_true rfl)) rfl rfl rfl ?_
  refine me1 (pc' := 37) dm_X2_copyOf_36 rfl rfl rfl rfl ?_
  refine me3 (pc' := 40) dm_X2_copyOf_37 (g_get (v := .ref 129) (le_ (n := 2) (u := 100) (v := 25) (j := 0) hn rfl hv rfl) rfl rfl (Nat.le_of_ble_eq_true rfl)) rfl rfl rfl ?_
  refine me1 (pc' := 41) dm_X2_copyOf_40 rfl rfl rfl rfl ?_
  refine me1 (pc' := 42) dm_X2_copyOf_41 rfl rfl rfl rfl ?_
  refine me3 (pc' := 45) dm_X2_copyOf_42 (g_get (v := .ref 6) (lu (n := 2) (j := 2) hn rfl) rfl rfl (Nat.le_of_ble_eq_true rfl)) rfl rfl rfl ?_
  refine me1 (pc' := 46) dm_X2_copyOf_45 rfl rfl rfl rfl ?_
  refine me3 (pc' := 47) dm_X2_copyOf_46 (g_aald (v := .null) (lu (n := 2) (j := 4) hn rfl) rfl (by decide) rfl (Nat.le_of_ble_eq_true rfl)) rfl rfl rfl ?_
  refine me3 (pc' := 48) dm_X2_copyOf_47 (g_aastn (le_ (n := 2) (u := 100) (v := 25) (j := 2) hn rfl hv rfl) (se (n := 2) (u := 100) (v := 25) (j := 2) hn rfl hv _) rfl (by decide) (Nat.le_of_ble_eq_true rfl)) rfl rfl rfl ?_
  refine me1 (pc' := 49) dm_X2_copyOf_48 rfl rfl rfl rfl ?_
  refine me3 (pc' := 52) dm_X2_copyOf_49 (g_get (v := .ref 130) (le_ (n := 2) (u := 100) (v := 25) (j := 0) hn rfl hv rfl) rfl rfl (Nat.le_of_ble_eq_true rfl)) rfl rfl rfl ?_
  refine me1 (pc' := 53) dm_X2_copyOf_52 rfl rfl rfl rfl ?_
  refine me1 (pc' := 54) dm_X2_copyOf_53 rfl rfl rfl rfl ?_
  refine me3 (pc' := 57) dm_X2_copyOf_54 (g_get (v := .ref 7) (lu (n := 2) (j := 2) hn rfl) rfl rfl (Nat.le_of_ble_eq_true rfl)) rfl rfl rfl ?_
  refine me1 (pc' := 58) dm_X2_copyOf_57 rfl rfl rfl rfl ?_
  refine me3 (pc' := 59) dm_X2_copyOf_58 (g_lald (v := (0 : Int64)) (lu (n := 2) (j := 5) hn rfl) rfl (by decide) rfl (Nat.le_of_ble_eq_true rfl)) rfl rfl rfl ?_
  refine me3 (pc' := 60) dm_X2_copyOf_59 (g_last (le_ (n := 2) (u := 100) (v := 25) (j := 3) hn rfl hv rfl) (se (n := 2) (u := 100) (v := 25) (j := 3) hn rfl hv _) rfl (by decide) (Nat.le_of_ble_eq_true rfl)) rfl rfl rfl ?_
  refine me1 (pc' := 61) dm_X2_copyOf_60 rfl rfl rfl rfl ?_
  refine me3 (pc' := 64) dm_X2_copyOf_61 (g_get (v := .ref 131) (le_ (n := 2) (u := 100) (v := 25) (j := 0) hn rfl hv rfl) rfl rfl (Nat.le_of_ble_eq_true rfl)) rfl rfl rfl ?_
  refine me1 (pc' := 65) dm_X2_copyOf_64 rfl rfl rfl rfl ?_
  refine me1 (pc' := 66) dm_X2_copyOf_65 rfl rfl rfl rfl ?_
  refine me3 (pc' := 69) dm_X2_copyOf_66 (g_get (v := .ref 8) (lu (n := 2) (j := 2) hn rfl) rfl rfl (Nat.le_of_ble_eq_true rfl)) rfl rfl rfl ?_
  refine me1 (pc' := 70) dm_X2_copyOf_69 rfl rfl rfl rfl ?_
  refine me3 (pc' := 71) dm_X2_copyOf_70 (g_aald (v := .null) (lu (n := 2) (j := 6) hn rfl) rfl (by decide) rfl (Nat.le_of_ble_eq_true rfl)) rfl rfl rfl ?_
  refine me3 (pc' := 72) dm_X2_copyOf_71 (g_aastn (le_ (n := 2) (u := 100) (v := 25) (j := 4) hn rfl hv rfl) (se (n := 2) (u := 100) (v := 25) (j := 4) hn rfl hv _) rfl (by decide) (Nat.le_of_ble_eq_true rfl)) rfl rfl rfl ?_
  refine me1 (pc' := 75) (L' := [(2, .int (21 : Int32)), (0, .ref 127), (1, .ref 4)]) dm_X2_copyOf_72 rfl rfl rfl rfl ?_
  refine me2 (pc' := 18) dm_X2_copyOf_75 rfl rfl rfl ?_
  refine me1 (pc' := 19) dm_X2_copyOf_18 rfl rfl rfl rfl ?_
  refine me0 (pc' := 21) (S' := .int (40 : Int32) :: _) dm_X2_copyOf_19 rfl rfl rfl rfl ?_
  refine me_2f (pc' := 24) dm_X2_copyOf_21 rfl (by decide) rfl ?_
  refine me1 (pc' := 25) dm_X2_copyOf_24 rfl rfl rfl rfl ?_
  refine me3 (pc' := 28) dm_X2_copyOf_25 (g_get (v := .ref 128) (le_ (n := 2) (u := 100) (v := 25) (j := 0) hn rfl hv rfl) rfl rfl (Nat.le_of_ble_eq_true rfl)) rfl rfl rfl ?_
  refine me1 (pc' := 29) dm_X2_copyOf_28 rfl rfl rfl rfl ?_
  refine me1 (pc' := 30) dm_X2_copyOf_29 rfl rfl rfl rfl ?_
  refine me3 (pc' := 33) dm_X2_copyOf_30 (g_get (v := .ref 5) (lu (n := 2) (j := 2) hn rfl) rfl rfl (Nat.le_of_ble_eq_true rfl)) rfl rfl rfl ?_
  refine me1 (pc' := 34) dm_X2_copyOf_33 rfl rfl rfl rfl ?_
  refine me3 (pc' := 35) dm_X2_copyOf_34 (g_lald (v := (0 : Int64)) (lu (n := 2) (j := 3) hn rfl) rfl (by decide) rfl (Nat.le_of_ble_eq_true rfl)) rfl rfl rfl ?_
  refine me3 (pc' := 36) dm_X2_copyOf_35 (g_last (le_ (n := 2) (u := 100) (v := 25) (j := 1) hn rfl hv rfl) (se (n := 2) (u := 100) (v := 25) (j := 1) hn rfl hv _) rfl (by decide) (Nat.le_of_ble_eq_true rfl)) rfl rfl rfl ?_
  refine me1 (pc' := 37) dm_X2_copyOf_36 rfl rfl rfl rfl ?_
  refine me3 (pc' := 40) dm_X2_copyOf_37 (g_get (v := .ref 129) (le_ (n := 2) (u := 100) (v := 25) (j := 0) hn rfl hv rfl) rfl rfl (Nat.le_of_ble_eq_true rfl)) rfl rfl rfl ?_
  refine me1 (pc' := 41) dm_X2_copyOf_40 rfl rfl rfl rfl ?_
  refine me1 (pc' := 42) dm_X2_copyOf_41 rfl rfl rfl rfl ?_
  refine me3 (pc' := 45) dm_X2_copyOf_42 (g_get (v := .ref 6) (lu (n := 2) (j := 2) hn rfl) rfl rfl (Nat.le_of_ble_eq_true rfl)) rfl rfl rfl ?_
  refine me1 (pc' := 46) dm_X2_copyOf_45 rfl rfl rfl rfl ?_
  refine me3 (pc' := 47) dm_X2_copyOf_46 (g_aald (v := .null) (lu (n := 2) (j := 4) hn rfl) rfl (by decide) rfl (Nat.le_of_ble_eq_true rfl)) rfl rfl rfl ?_
  refine me3 (pc' := 48) dm_X2_copyOf_47 (g_aastn (le_ (n := 2) (u := 100) (v := 25) (j := 2) hn rfl hv rfl) (se (n := 2) (u := 100) (v := 25) (j := 2) hn rfl hv _) rfl (by decide) (Nat.le_of_ble_eq_true rfl)) rfl rfl rfl ?_
  refine me1 (pc' := 49) dm_X2_copyOf_48 rfl rfl rfl rfl ?_
  refine me3 (pc' := 52) dm_X2_copyOf_49 (g_get (v := .ref 130) (le_ (n := 2) (u := 100) (v := 25) (j := 0) hn rfl hv rfl) rfl rfl (Nat.le_of_ble_eq_true rfl)) rfl rfl rfl ?_
  refine me1 (pc' := 53) dm_X2_copyOf_52 rfl rfl rfl rfl ?_
  refine me1 (pc' := 54) dm_X2_copyOf_53 rfl rfl rfl rfl ?_
  refine me3 (pc' := 57) dm_X2_copyOf_54 (g_get (v := .ref 7) (lu (n := 2) (j := 2) hn rfl) rfl rfl (Nat.le_of_ble_eq_true rfl)) rfl rfl rfl ?_
  refine me1 (pc' := 58) dm_X2_copyOf_57 rfl rfl rfl rfl ?_
  refine me3 (pc' := 59) dm_X2_copyOf_58 (g_lald (v := (0 : Int64)) (lu (n := 2) (j := 5) hn rfl) rfl (by decide) rfl (Nat.le_of_ble_eq_true rfl)) rfl rfl rfl ?_
  refine me3 (pc' := 60) dm_X2_copyOf_59 (g_last (le_ (n := 2) (u := 100) (v := 25) (j := 3) hn rfl hv rfl) (se (n := 2) (u := 100) (v := 25) (j := 3) hn rfl hv _) rfl (by decide) (Nat.le_of_ble_eq_true rfl)) rfl rfl rfl ?_
  refine me1 (pc' := 61) dm_X2_copyOf_60 rfl rfl rfl rfl ?_
  refine me3 (pc' := 64) dm_X2_copyOf_61 (g_get (v := .ref 131) (le_ (n := 2) (u := 100) (v := 25) (j := 0) hn rfl hv rfl) rfl rfl (Nat.le_of_ble_eq_true rfl)) rfl rfl rfl ?_
  refine me1 (pc' := 65) dm_X2_copyOf_64 rfl rfl rfl rfl ?_
  refine me1 (pc' := 66) dm_X2_copyOf_65 rfl rfl rfl rfl ?_
  refine me3 (pc' := 69) dm_X2_copyOf_66 (g_get (v := .ref 8) (lu (n := 2) (j := 2) hn rfl) rfl rfl (Nat.le_of_ble_eq_true rfl)) rfl rfl rfl ?_
  refine me1 (pc' := 70) dm_X2_copyOf_69 rfl rfl rfl rfl ?_
  refine me3 (pc' := 71) dm_X2_copyOf_70 (g_aald (v := .null) (lu (n := 2) (j := 6) hn rfl) rfl (by decide) rfl (Nat.le_of_ble_eq_true rfl)) rfl rfl rfl ?_
  refine me3 (pc' := 72) dm_X2_copyOf_71 (g_aastn (le_ (n := 2) (u := 100) (v := 25) (j := 4) hn rfl hv rfl) (se (n := 2) (u := 100) (v := 25) (j := 4) hn rfl hv _) rfl (by decide) (Nat.le_of_ble_eq_true rfl)) rfl rfl rfl ?_
  refine me1 (pc' := 75) (L' := [(2, .int (22 : Int32)), (0, .ref 127), (1, .ref 4)]) dm_X2_copyOf_72 rfl rfl rfl rfl ?_
  refine me2 (pc' := 18) dm_X2_copyOf_75 rfl rfl rfl ?_
  refine me1 (pc' := 19) dm_X2_copyOf_18 rfl rfl rfl rfl ?_
  refine me0 (pc' := 21) (S' := .int (40 : Int32) :: _) dm_X2_copyOf_19 rfl rfl rfl rfl ?_
  refine me_2f (pc' := 24) dm_X2_copyOf_21 rfl (by decide) rfl ?_
  refine me1 (pc' := 25) dm_X2_copyOf_24 rfl rfl rfl rfl ?_
  refine me3 (pc' := 28) dm_X2_copyOf_25 (g_get (v := .ref 128) (le_ (n := 2) (u := 100) (v := 25) (j := 0) hn rfl hv rfl) rfl rfl (Nat.le_of_ble_eq_true rfl)) rfl rfl rfl ?_
  refine me1 (pc' := 29) dm_X2_copyOf_28 rfl rfl rfl rfl ?_
  refine me1 (pc' := 30) dm_X2_copyOf_29 rfl rfl rfl rfl ?_
  refine me3 (pc' := 33) dm_X2_copyOf_30 (g_get (v := .ref 5) (lu (n := 2) (j := 2) hn rfl) rfl rfl (Nat.le_of_ble_eq_true rfl)) rfl rfl rfl ?_
  refine me1 (pc' := 34) dm_X2_copyOf_33 rfl rfl rfl rfl ?_
  refine me3 (pc' := 35) dm_X2_copyOf_34 (g_lald (v := (0 : Int64)) (lu (n := 2) (j := 3) hn rfl) rfl (by decide) rfl (Nat.le_of_ble_eq_true rfl)) rfl rfl rfl ?_
  refine me3 (pc' := 36) dm_X2_copyOf_35 (g_last (le_ (n := 2) (u := 100) (v := 25) (j := 1) hn rfl hv rfl) (se (n := 2) (u := 100) (v := 25) (j := 1) hn rfl hv _) rfl (by decide) (Nat.le_of_ble_eq_true rfl)) rfl rfl rfl ?_
  refine me1 (pc' := 37) dm_X2_copyOf_36 rfl rfl rfl rfl ?_
  refine me3 (pc' := 40) dm_X2_copyOf_37 (g_get (v := .ref 129) (le_ (n := 2) (u := 100) (v := 25) (j := 0) hn rfl hv rfl) rfl rfl (Nat.le_of_ble_eq_true rfl)) rfl rfl rfl ?_
  refine me1 (pc' := 41) dm_X2_copyOf_40 rfl rfl rfl rfl ?_
  refine me1 (pc' := 42) dm_X2_copyOf_41 rfl rfl rfl rfl ?_
  refine me3 (pc' := 45) dm_X2_copyOf_42 (g_get (v := .ref 6) (lu (n := 2) (j := 2) hn rfl) rfl rfl (Nat.le_of_ble_eq_true rfl)) rfl rfl rfl ?_
  refine me1 (pc' := 46) dm_X2_copyOf_45 rfl rfl rfl rfl ?_
  refine me3 (pc' := 47) dm_X2_copyOf_46 (g_aald (v := .null) (lu (n := 2) (j := 4) hn rfl) rfl (by decide) rfl (Nat.le_of_ble_eq_true rfl)) rfl rfl rfl ?_
  refine me3 (pc' := 48) dm_X2_copyOf_47 (g_aastn (le_ (n := 2) (u := 100) (v := 25) (j := 2) hn rfl hv rfl) (se (n := 2) (u := 100) (v := 25) (j := 2) hn rfl hv _) rfl (by decide) (Nat.le_of_ble_eq_true rfl)) rfl rfl rfl ?_
  refine me1 (pc' := 49) dm_X2_copyOf_48 rfl rfl rfl rfl ?_
  refine me3 (pc' := 52) dm_X2_copyOf_49 (g_get (v := .ref 130) (le_ (n := 2) (u := 100) (v := 25) (j := 0) hn rfl hv rfl) rfl rfl (Nat.le_of_ble_eq_true rfl)) rfl rfl rfl ?_
  refine me1 (pc' := 53) dm_X2_copyOf_52 rfl rfl rfl rfl ?_
  refine me1 (pc' := 54) dm_X2_copyOf_53 rfl rfl rfl rfl ?_
  refine me3 (pc' := 57) dm_X2_copyOf_54 (g_get (v := .ref 7) (lu (n := 2) (j := 2) hn rfl) rfl rfl (Nat.le_of_ble_eq_true rfl)) rfl rfl rfl ?_
  refine me1 (pc' := 58) dm_X2_copyOf_57 rfl rfl rfl rfl ?_
  refine me3 (pc' := 59) dm_X2_copyOf_58 (g_lald (v := (0 : Int64)) (lu (n := 2) (j := 5) hn rfl) rfl (by decide) rfl (Nat.le_of_ble_eq_true rfl)) rfl rfl rfl ?_
  refine me3 (pc' := 60) dm_X2_copyOf_59 (g_last (le_ (n := 2) (u := 100) (v := 25) (j := 3) hn rfl hv rfl) (se (n := 2) (u := 100) (v := 25) (j := 3) hn rfl hv _) rfl (by decide) (Nat.le_of_ble_eq_true rfl)) rfl rfl rfl ?_
  refine me1 (pc' := 61) dm_X2_copyOf_60 rfl rfl rfl rfl ?_
  refine me3 (pc' := 64) dm_X2_copyOf_61 (g_get (v := .ref 131) (le_ (n := 2) (u := 100) (v := 25) (j := 0) hn rfl hv rfl) rfl rfl (Nat.le_of_ble_eq_true rfl)) rfl rfl rfl ?_
  refine me1 (pc' := 65) dm_X2_copyOf_64 rfl rfl rfl rfl ?_
  refine me1 (pc' := 66) dm_X2_copyOf_65 rfl rfl rfl rfl ?_
  refine me3 (pc' := 69) dm_X2_copyOf_66 (g_get (v := .ref 8) (lu (n := 2) (j := 2) hn rfl) rfl rfl (Nat.le_of_ble_eq_true rfl)) rfl rfl rfl ?_
  refine me1 (pc' := 70) dm_X2_copyOf_69 rfl rfl rfl rfl ?_
  refine me3 (pc' := 71) dm_X2_copyOf_70 (g_aald (v := .null) (lu (n := 2) (j := 6) hn rfl) rfl (by decide) rfl (Nat.le_of_ble_eq_true rfl)) rfl rfl rfl ?_
  refine me3 (pc' := 72) dm_X2_copyOf_71 (g_aastn (le_ (n := 2) (u := 100) (v := 25) (j := 4) hn rfl hv rfl) (se (n := 2) (u := 100) (v := 25) (j := 4) hn rfl hv _) rfl (by decide) (Nat.le_of_ble_eq_true rfl)) rfl rfl rfl ?_
  refine me1 (pc' := 75) (L' := [(2, .int (23 : Int32)), (0, .ref 127), (1, .ref 4)]) dm_X2_copyOf_72 rfl rfl rfl rfl ?_
  refine me2 (pc' := 18) dm_X2_copyOf_75 rfl rfl rfl ?_
  refine me1 (pc' := 19) dm_X2_copyOf_18 rfl rfl rfl rfl ?_
  refine me0 (pc' := 21) (S' := .int (40 : Int32) :: _) dm_X2_copyOf_19 rfl rfl rfl rfl ?_
  refine me_2f (pc' := 24) dm_X2_copyOf_21 rfl (by decide) rfl ?_
  refine me1 (pc' := 25) dm_X2_copyOf_24 rfl rfl rfl rfl ?_
  refine me3 (pc' := 28) dm_X2_copyOf_25 (g_get (v := .ref 128) (le_ (n := 2) (u := 100) (v := 25) (j := 0) hn rfl hv rfl) rfl rfl (Nat.le_of_ble_eq_true rfl)) rfl rfl rfl ?_
  refine me1 (pc' := 29) dm_X2_copyOf_28 rfl rfl rfl rfl ?_
  refine me1 (pc' := 30) dm_X2_copyOf_29 rfl rfl rfl rfl ?_
  refine me3 (pc' := 33) dm_X2_copyOf_30 (g_get (v := .ref 5) (lu (n := 2) (j := 2) hn rfl) rfl rfl (Nat.le_of_ble_eq_true rfl)) rfl rfl rfl ?_
  refine me1 (pc' := 34) dm_X2_copyOf_33 rfl rfl rfl rfl ?_
  refine me3 (pc' := 35) dm_X2_copyOf_34 (g_lald (v := (0 : Int64)) (lu (n := 2) (j := 3) hn rfl) rfl (by decide) rfl (Nat.le_of_ble_eq_true rfl)) rfl rfl rfl ?_
  refine me3 (pc' := 36) dm_X2_copyOf_35 (g_last (le_ (n := 2) (u := 100) (v := 25) (j := 1) hn rfl hv rfl) (se (n := 2) (u := 100) (v := 25) (j := 1) hn rfl hv _) rfl (by decide) (Nat.le_of_ble_eq_true rfl)) rfl rfl rfl ?_
  refine me1 (pc' := 37) dm_X2_copyOf_36 rfl rfl rfl rfl ?_
  refine me3 (pc' := 40) dm_X2_copyOf_37 (g_get (v := .ref 129) (le_ (n := 2) (u := 100) (v := 25) (j := 0) hn rfl hv rfl) rfl rfl (Nat.le_of_ble_eq_true rfl)) rfl rfl rfl ?_
  refine me1 (pc' := 41) dm_X2_copyOf_40 rfl rfl rfl rfl ?_
  refine me1 (pc' := 42) dm_X2_copyOf_41 rfl rfl rfl rfl ?_
  refine me3 (pc' := 45) dm_X2_copyOf_42 (g_get (v := .ref 6) (lu (n := 2) (j := 2) hn rfl) rfl rfl (Nat.le_of_ble_eq_true rfl)) rfl rfl rfl ?_
  refine me1 (pc' := 46) dm_X2_copyOf_45 rfl rfl rfl rfl ?_
  refine me3 (pc' := 47) dm_X2_copyOf_46 (g_aald (v := .null) (lu (n := 2) (j := 4) hn rfl) rfl (by decide) rfl (Nat.le_of_ble_eq_true rfl)) rfl rfl rfl ?_
  refine me3 (pc' := 48) dm_X2_copyOf_47 (g_aastn (le_ (n := 2) (u := 100) (v := 25) (j := 2) hn rfl hv rfl) (se (n := 2) (u := 100) (v := 25) (j := 2) hn rfl hv _) rfl (by decide) (Nat.le_of_ble_eq_true rfl)) rfl rfl rfl ?_
  refine me1 (pc' := 49) dm_X2_copyOf_48 rfl rfl rfl rfl ?_
  refine me3 (pc' := 52) dm_X2_copyOf_49 (g_get (v := .ref 130) (le_ (n := 2) (u := 100) (v := 25) (j := 0) hn rfl hv rfl) rfl rfl (Nat.le_of_ble_eq_true rfl)) rfl rfl rfl ?_
  refine me1 (pc' := 53) dm_X2_copyOf_52 rfl rfl rfl rfl ?_
  refine me1 (pc' := 54) dm_X2_copyOf_53 rfl rfl rfl rfl ?_
  refine me3 (pc' := 57) dm_X2_copyOf_54 (g_get (v := .ref 7) (lu (n := 2) (j := 2) hn rfl) rfl rfl (Nat.le_of_ble_eq_true rfl)) rfl rfl rfl ?_
  refine me1 (pc' := 58) dm_X2_copyOf_57 rfl rfl rfl rfl ?_
  refine me3 (pc' := 59) dm_X2_copyOf_58 (g_lald (v := (0 : Int64)) (lu (n := 2) (j := 5) hn rfl) rfl (by decide) rfl (Nat.le_of_ble_eq_true rfl)) rfl rfl rfl ?_
  refine me3 (pc' := 60) dm_X2_copyOf_59 (g_last (le_ (n := 2) (u := 100) (v := 25) (j := 3) hn rfl hv rfl) (se (n := 2) (u := 100) (v := 25) (j := 3) hn rfl hv _) rfl (by decide) (Nat.le_of_ble_eq_true rfl)) rfl rfl rfl ?_
  refine me1 (pc' := 61) dm_X2_copyOf_60 rfl rfl rfl rfl ?_
  refine me3 (pc' := 64) dm_X2_copyOf_61 (g_get (v := .ref 131) (le_ (n := 2) (u := 100) (v := 25) (j := 0) hn rfl hv rfl) rfl rfl (Nat.le_of_ble_eq_true rfl)) rfl rfl rfl ?_
  refine me1 (pc' := 65) dm_X2_copyOf_64 rfl rfl rfl rfl ?_
  refine me1 (pc' := 66) dm_X2_copyOf_65 rfl rfl rfl rfl ?_
  refine me3 (pc' := 69) dm_X2_copyOf_66 (g_get (v := .ref 8) (lu (n := 2) (j := 2) hn rfl) rfl rfl (Nat.le_of_ble_eq_true rfl)) rfl rfl rfl ?_
  refine me1 (pc' := 70) dm_X2_copyOf_69 rfl rfl rfl rfl ?_
  refine me3 (pc' := 71) dm_X2_copyOf_70 (g_aald (v := .null) (lu (n := 2) (j := 6) hn rfl) rfl (by decide) rfl (Nat.le_of_ble_eq_true rfl)) rfl rfl rfl ?_
  refine me3 (pc' := 72) dm_X2_copyOf_71 (g_aastn (le_ (n := 2) (u := 100) (v := 25) (j := 4) hn rfl hv rfl) (se (n := 2) (u := 100) (v := 25) (j := 4) hn rfl hv _) rfl (by decide) (Nat.le_of_ble_eq_true rfl)) rfl rfl rfl ?_
  refine me1 (pc' := 75) (L' := [(2, .int (24 : Int32)), (0, .ref 127), (1, .ref 4)]) dm_X2_copyOf_72 rfl rfl rfl rfl ?_
  refine me2 (pc' := 18) dm_X2_copyOf_75 rfl rfl rfl ?_
  refine me1 (pc' := 19) dm_X2_copyOf_18 rfl rfl rfl rfl ?_
  refine me0 (pc' := 21) (S' := .int (40 : Int32) :: _) dm_X2_copyOf_19 rfl rfl rfl rfl ?_
  refine me_2f (pc' := 24) dm_X2_copyOf_21 rfl (by decide) rfl ?_
  refine me1 (pc' := 25) dm_X2_copyOf_24 rfl rfl rfl rfl ?_
  refine me3 (pc' := 28) dm_X2_copyOf_25 (g_get (v := .ref 128) (le_ (n := 2) (u := 100) (v := 25) (j := 0) hn rfl hv rfl) rfl rfl (Nat.le_of_ble_eq_true rfl)) rfl rfl rfl ?_
  refine me1 (pc' := 29) dm_X2_copyOf_28 rfl rfl rfl rfl ?_
  refine me1 (pc' := 30) dm_X2_copyOf_29 rfl rfl rfl rfl ?_
  refine me3 (pc' := 33) dm_X2_copyOf_30 (g_get (v := .ref 5) (lu (n := 2) (j := 2) hn rfl) rfl rfl (Nat.le_of_ble_eq_true rfl)) rfl rfl rfl ?_
  refine me1 (pc' := 34) dm_X2_copyOf_33 rfl rfl rfl rfl ?_
  refine me3 (pc' := 35) dm_X2_copyOf_34 (g_lald (v := (0 : Int64)) (lu (n := 2) (j := 3) hn rfl) rfl (by decide) rfl (Nat.le_of_ble_eq_true rfl)) rfl rfl rfl ?_
  refine me3 (pc' := 36) dm_X2_copyOf_35 (g_last (le_ (n := 2) (u := 100) (v := 25) (j := 1) hn rfl hv rfl) (se (n := 2) (u := 100) (v := 25) (j := 1) hn rfl hv _) rfl (by decide) (Nat.le_of_ble_eq_true rfl)) rfl rfl rfl ?_
  refine me1 (pc' := 37) dm_X2_copyOf_36 rfl rfl rfl rfl ?_
  refine me3 (pc' := 40) dm_X2_copyOf_37 (g_get (v := .ref 129) (le_ (n := 2) (u := 100) (v := 25) (j := 0) hn rfl hv rfl) rfl rfl (Nat.le_of_ble_eq_true rfl)) rfl rfl rfl ?_
  refine me1 (pc' := 41) dm_X2_copyOf_40 rfl rfl rfl rfl ?_
  refine me1 (pc' := 42) dm_X2_copyOf_41 rfl rfl rfl rfl ?_
  refine me3 (pc' := 45) dm_X2_copyOf_42 (g_get (v := .ref 6) (lu (n := 2) (j := 2) hn rfl) rfl rfl (Nat.le_of_ble_eq_true rfl)) rfl rfl rfl ?_
  refine me1 (pc' := 46) dm_X2_copyOf_45 rfl rfl rfl rfl ?_
  refine me3 (pc' := 47) dm_X2_copyOf_46 (g_aald (v := .null) (lu (n := 2) (j := 4) hn rfl) rfl (by decide) rfl (Nat.le_of_ble_eq_true rfl)) rfl rfl rfl ?_
  refine me3 (pc' := 48) dm_X2_copyOf_47 (g_aastn (le_ (n := 2) (u := 100) (v := 25) (j := 2) hn rfl hv rfl) (se (n := 2) (u := 100) (v := 25) (j := 2) hn rfl hv _) rfl (by decide) (Nat.le_of_ble_eq_true rfl)) rfl rfl rfl ?_
  refine me1 (pc' := 49) dm_X2_copyOf_48 rfl rfl rfl rfl ?_
  refine me3 (pc' := 52) dm_X2_copyOf_49 (g_get (v := .ref 130) (le_ (n := 2) (u := 100) (v := 25) (j := 0) hn rfl hv rfl) rfl rfl (Nat.le_of_ble_eq_true rfl)) rfl rfl rfl ?_
  refine me1 (pc' := 53) dm_X2_copyOf_52 rfl rfl rfl rfl ?_
  refine me1 (pc' := 54) dm_X2_copyOf_53 rfl rfl rfl rfl ?_
  refine me3 (pc' := 57) dm_X2_copyOf_54 (g_get (v := .ref 7) (lu (n := 2) (j := 2) hn rfl) rfl rfl (Nat.le_of_ble_eq_true rfl)) rfl rfl rfl ?_
  refine me1 (pc' := 58) dm_X2_copyOf_57 rfl rfl rfl rfl ?_
  refine me3 (pc' := 59) dm_X2_copyOf_58 (g_lald (v := (0 : Int64)) (lu (n := 2) (j := 5) hn rfl) rfl (by decide) rfl (Nat.le_of_ble_eq_true rfl)) rfl rfl rfl ?_
  refine me3 (pc' := 60) dm_X2_copyOf_59 (g_last (le_ (n := 2) (u := 100) (v := 25) (j := 3) hn rfl hv rfl) (se (n := 2) (u := 100) (v := 25) (j := 3) hn rfl hv _) rfl (by decide) (Nat.le_of_ble_eq_true rfl)) rfl rfl rfl ?_
  refine me1 (pc' := 61) dm_X2_copyOf_60 rfl rfl rfl rfl ?_
  refine me3 (pc' := 64) dm_X2_copyOf_61 (g_get (v := .ref 131) (le_ (n := 2) (u := 100) (v := 25) (j := 0) hn rfl hv rfl) rfl rfl (Nat.le_of_ble_eq_true rfl)) rfl rfl rfl ?_
  refine me1 (pc' := 65) dm_X2_copyOf_64 rfl rfl rfl rfl ?_
  refine me1 (pc' := 66) dm_X2_copyOf_65 rfl rfl rfl rfl ?_
  refine me3 (pc' := 69) dm_X2_copyOf_66 (g_get (v := .ref 8) (lu (n := 2) (j := 2) hn rfl) rfl rfl (Nat.le_of_ble_eq_true rfl)) rfl rfl rfl ?_
  refine me1 (pc' := 70) dm_X2_copyOf_69 rfl rfl rfl rfl ?_
  refine me3 (pc' := 71) dm_X2_copyOf_70 (g_aald (v := .null) (lu (n := 2) (j := 6) hn rfl) rfl (by decide) rfl (Nat.le_of_ble_eq_true rfl)) rfl rfl rfl ?_
  refine me3 (pc' := 72) dm_X2_copyOf_71 (g_aastn (le_ (n := 2) (u := 100) (v := 25) (j := 4) hn rfl hv rfl) (se (n := 2) (u := 100) (v := 25) (j := 4) hn rfl hv _) rfl (by decide) (Nat.le_of_ble_eq_true rfl)) rfl rfl rfl ?_
  refine me1 (pc' := 75) (L' := [(2, .int (25 : Int32)), (0, .ref 127), (1, .ref 4)]) dm_X2_copyOf_72 rfl rfl rfl rfl ?_
  refine me2 (pc' := 18) dm_X2_copyOf_75 rfl rfl rfl ?_
  refine me1 (pc' := 19) dm_X2_copyOf_18 rfl rfl rfl rfl ?_
  refine me0 (pc' := 21) (S' := .int (40 : Int32) :: _) dm_X2_copyOf_19 rfl rfl rfl rfl ?_
  refine me_2f (pc' := 24) dm_X2_copyOf_21 rfl (by decide) rfl ?_
  refine me1 (pc' := 25) dm_X2_copyOf_24 rfl rfl rfl rfl ?_
  refine me3 (pc' := 28) dm_X2_copyOf_25 (g_get (v := .ref 128) (le_ (n := 2) (u := 100) (v := 25) (j := 0) hn rfl hv rfl) rfl rfl (Nat.le_of_ble_eq_true rfl)) rfl rfl rfl ?_
  refine me1 (pc' := 29) dm_X2_copyOf_28 rfl rfl rfl rfl ?_
  refine me1 (pc' := 30) dm_X2_copyOf_29 rfl rfl rfl rfl ?_
  refine me3 (pc' := 33) dm_X2_copyOf_30 (g_get (v := .ref 5) (lu (n := 2) (j := 2) hn rfl) rfl rfl (Nat.le_of_ble_eq_true rfl)) rfl rfl rfl ?_
  refine me1 (pc' := 34) dm_X2_copyOf_33 rfl rfl rfl rfl ?_
  refine me3 (pc' := 35) dm_X2_copyOf_34 (g_lald (v := (0 : Int64)) (lu (n := 2) (j := 3) hn rfl) rfl (by decide) rfl (Nat.le_of_ble_eq_true rfl)) rfl rfl rfl ?_
  refine me3 (pc' := 36) dm_X2_copyOf_35 (g_last (le_ (n := 2) (u := 100) (v := 25) (j := 1) hn rfl hv rfl) (se (n := 2) (u := 100) (v := 25) (j := 1) hn rfl hv _) rfl (by decide) (Nat.le_of_ble_eq_true rfl)) rfl rfl rfl ?_
  refine me1 (pc' := 37) dm_X2_copyOf_36 rfl rfl rfl rfl ?_
  refine me3 (pc' := 40) dm_X2_copyOf_37 (g_get (v := .ref 129) (le_ (n := 2) (u := 100) (v := 25) (j := 0) hn rfl hv rfl) rfl rfl (Nat.le_of_ble_eq_true rfl)) rfl rfl rfl ?_
  refine me1 (pc' := 41) dm_X2_copyOf_40 rfl rfl rfl rfl ?_
  refine me1 (pc' := 42) dm_X2_copyOf_41 rfl rfl rfl rfl ?_
  refine me3 (pc' := 45) dm_X2_copyOf_42 (g_get (v := .ref 6) (lu (n := 2) (j := 2) hn rfl) rfl rfl (Nat.le_of_ble_eq_true rfl)) rfl rfl rfl ?_
  refine me1 (pc' := 46) dm_X2_copyOf_45 rfl rfl rfl rfl ?_
  refine me3 (pc' := 47) dm_X2_copyOf_46 (g_aald (v := .null) (lu (n := 2) (j := 4) hn rfl) rfl (by decide) rfl (Nat.le_of_ble_eq_true rfl)) rfl rfl rfl ?_
  refine me3 (pc' := 48) dm_X2_copyOf_47 (g_aastn (le_ (n := 2) (u := 100) (v := 25) (j := 2) hn rfl hv rfl) (se (n := 2) (u := 100) (v := 25) (j := 2) hn rfl hv _) rfl (by decide) (Nat.le_of_ble_eq_true rfl)) rfl rfl rfl ?_
  refine me1 (pc' := 49) dm_X2_copyOf_48 rfl rfl rfl rfl ?_
  refine me3 (pc' := 52) dm_X2_copyOf_49 (g_get (v := .ref 130) (le_ (n := 2) (u := 100) (v := 25) (j := 0) hn rfl hv rfl) rfl rfl (Nat.le_of_ble_eq_true rfl)) rfl rfl rfl ?_
  refine me1 (pc' := 53) dm_X2_copyOf_52 rfl rfl rfl rfl ?_
  refine me1 (pc' := 54) dm_X2_copyOf_53 rfl rfl rfl rfl ?_
  refine me3 (pc' := 57) dm_X2_copyOf_54 (g_get (v := .ref 7) (lu (n := 2) (j := 2) hn rfl) rfl rfl (Nat.le_of_ble_eq_true rfl)) rfl rfl rfl ?_
  refine me1 (pc' := 58) dm_X2_copyOf_57 rfl rfl rfl rfl ?_
  refine me3 (pc' := 59) dm_X2_copyOf_58 (g_lald (v := (0 : Int64)) (lu (n := 2) (j := 5) hn rfl) rfl (by decide) rfl (Nat.le_of_ble_eq_true rfl)) rfl rfl rfl ?_
  refine me3 (pc' := 60) dm_X2_copyOf_59 (g_last (le_ (n := 2) (u := 100) (v := 25) (j := 3) hn rfl hv rfl) (se (n := 2) (u := 100) (v := 25) (j := 3) hn rfl hv _) rfl (by decide) (Nat.le_of_ble_eq_true rfl)) rfl rfl rfl ?_
  refine me1 (pc' := 61) dm_X2_copyOf_60 rfl rfl rfl rfl ?_
  refine me3 (pc' := 64) dm_X2_copyOf_61 (g_get (v := .ref 131) (le_ (n := 2) (u := 100) (v := 25) (j := 0) hn rfl hv rfl) rfl rfl (Nat.le_of_ble_eq_true rfl)) rfl rfl rfl ?_
  refine me1 (pc' := 65) dm_X2_copyOf_64 rfl rfl rfl rfl ?_
  refine me1 (pc' := 66) dm_X2_copyOf_65 rfl rfl rfl rfl ?_
  refine me3 (pc' := 69) dm_X2_copyOf_66 (g_get (v := .ref 8) (lu (n := 2) (j := 2) hn rfl) rfl rfl (Nat.le_of_ble_eq_true rfl)) rfl rfl rfl ?_
  refine me1 (pc' := 70) dm_X2_copyOf_69 rfl rfl rfl rfl ?_
  refine me3 (pc' := 71) dm_X2_copyOf_70 (g_aald (v := .null) (lu (n := 2) (j := 6) hn rfl) rfl (by decide) rfl (Nat.le_of_ble_eq_true rfl)) rfl rfl rfl ?_
  refine me3 (pc' := 72) dm_X2_copyOf_71 (g_aastn (le_ (n := 2) (u := 100) (v := 25) (j := 4) hn rfl hv rfl) (se (n := 2) (u := 100) (v := 25) (j := 4) hn rfl hv _) rfl (by decide) (Nat.le_of_ble_eq_true rfl)) rfl rfl rfl ?_
  refine me1 (pc' := 75) (L' := [(2, .int (26 : Int32)), (0, .ref 127), (1, .ref 4)]) dm_X2_copyOf_72 rfl rfl rfl rfl ?_
  refine me2 (pc' := 18) dm_X2_copyOf_75 rfl rfl rfl ?_
  refine me1 (pc' := 19) dm_X2_copyOf_18 rfl rfl rfl rfl ?_
  refine me0 (pc' := 21) (S' := .int (40 : Int32) :: _) dm_X2_copyOf_19 rfl rfl rfl rfl ?_
  refine me_2f (pc' := 24) dm_X2_copyOf_21 rfl (by decide) rfl ?_
  refine me1 (pc' := 25) dm_X2_copyOf_24 rfl rfl rfl rfl ?_
  refine me3 (pc' := 28) dm_X2_copyOf_25 (g_get (v := .ref 128) (le_ (n := 2) (u := 100) (v := 25) (j := 0) hn rfl hv rfl) rfl rfl (Nat.le_of_ble_eq_true rfl)) rfl rfl rfl ?_
  refine me1 (pc' := 29) dm_X2_copyOf_28 rfl rfl rfl rfl ?_
  refine me1 (pc' := 30) dm_X2_copyOf_29 rfl rfl rfl rfl ?_
  refine me3 (pc' := 33) dm_X2_copyOf_30 (g_get (v := .ref 5) (lu (n := 2) (j := 2) hn rfl) rfl rfl (Nat.le_of_ble_eq_true rfl)) rfl rfl rfl ?_
  refine me1 (pc' := 34) dm_X2_copyOf_33 rfl rfl rfl rfl ?_
  refine me3 (pc' := 35) dm_X2_copyOf_34 (g_lald (v := (0 : Int64)) (lu (n := 2) (j := 3) hn rfl) rfl (by decide) rfl (Nat.le_of_ble_eq_true rfl)) rfl rfl rfl ?_
  refine me3 (pc' := 36) dm_X2_copyOf_35 (g_last (le_ (n := 2) (u := 100) (v := 25) (j := 1) hn rfl hv rfl) (se (n := 2) (u := 100) (v := 25) (j := 1) hn rfl hv _) rfl (by decide) (Nat.le_of_ble_eq_true rfl)) rfl rfl rfl ?_
  refine me1 (pc' := 37) dm_X2_copyOf_36 rfl rfl rfl rfl ?_
  refine me3 (pc' := 40) dm_X2_copyOf_37 (g_get (v := .ref 129) (le_ (n := 2) (u := 100) (v := 25) (j := 0) hn rfl hv rfl) rfl rfl (Nat.le_of_ble_eq_true rfl)) rfl rfl rfl ?_
  refine me1 (pc' := 41) dm_X2_copyOf_40 rfl rfl rfl rfl ?_
  refine me1 (pc' := 42) dm_X2_copyOf_41 rfl rfl rfl rfl ?_
  refine me3 (pc' := 45) dm_X2_copyOf_42 (g_get (v := .ref 6) (lu (n := 2) (j := 2) hn rfl) rfl rfl (Nat.le_of_ble_eq_true rfl)) rfl rfl rfl ?_
  refine me1 (pc' := 46) dm_X2_copyOf_45 rfl rfl rfl rfl ?_
  refine me3 (pc' := 47) dm_X2_copyOf_46 (g_aald (v := .null) (lu (n := 2) (j := 4) hn rfl) rfl (by decide) rfl (Nat.le_of_ble_eq_true rfl)) rfl rfl rfl ?_
  refine me3 (pc' := 48) dm_X2_copyOf_47 (g_aastn (le_ (n := 2) (u := 100) (v := 25) (j := 2) hn rfl hv rfl) (se (n := 2) (u := 100) (v := 25) (j := 2) hn rfl hv _) rfl (by decide) (Nat.le_of_ble_eq_true rfl)) rfl rfl rfl ?_
  refine me1 (pc' := 49) dm_X2_copyOf_48 rfl rfl rfl rfl ?_
  refine me3 (pc' := 52) dm_X2_copyOf_49 (g_get (v := .ref 130) (le_ (n := 2) (u := 100) (v := 25) (j := 0) hn rfl hv rfl) rfl rfl (Nat.le_of_ble_eq_true rfl)) rfl rfl rfl ?_
  refine me1 (pc' := 53) dm_X2_copyOf_52 rfl rfl rfl rfl ?_
  refine me1 (pc' := 54) dm_X2_copyOf_53 rfl rfl rfl rfl ?_
  refine me3 (pc' := 57) dm_X2_copyOf_54 (g_get (v := .ref 7) (lu (n := 2) (j := 2) hn rfl) rfl rfl (Nat.le_of_ble_eq_true rfl)) rfl rfl rfl ?_
  refine me1 (pc' := 58) dm_X2_copyOf_57 rfl rfl rfl rfl ?_
  refine me3 (pc' := 59) dm_X2_copyOf_58 (g_lald (v := (0 : Int64)) (lu (n := 2) (j := 5) hn rfl) rfl (by decide) rfl (Nat.le_of_ble_eq_true rfl)) rfl rfl rfl ?_
  refine me3 (pc' := 60) dm_X2_copyOf_59 (g_last (le_ (n := 2) (u := 100) (v := 25) (j := 3) hn rfl hv rfl) (se (n := 2) (u := 100) (v := 25) (j := 3) hn rfl hv _) rfl (by decide) (Nat.le_of_ble_eq_true rfl)) rfl rfl rfl ?_
  refine me1 (pc' := 61) dm_X2_copyOf_60 rfl rfl rfl rfl ?_
  refine me3 (pc' := 64) dm_X2_copyOf_61 (g_get (v := .ref 131) (le_ (n := 2) (u := 100) (v := 25) (j := 0) hn rfl hv rfl) rfl rfl (Nat.le_of_ble_eq_true rfl)) rfl rfl rfl ?_
  refine me1 (pc' := 65) dm_X2_copyOf_64 rfl rfl rfl rfl ?_
  refine me1 (pc' := 66) dm_X2_copyOf_65 rfl rfl rfl rfl ?_
  refine me3 (pc' := 69) dm_X2_copyOf_66 (g_get (v := .ref 8) (lu (n := 2) (j := 2) hn rfl) rfl rfl (Nat.le_of_ble_eq_true rfl)) rfl rfl rfl ?_
  refine me1 (pc' := 70) dm_X2_copyOf_69 rfl rfl rfl rfl ?_
  refine me3 (pc' := 71) dm_X2_copyOf_70 (g_aald (v := .null) (lu (n := 2) (j := 6) hn rfl) rfl (by decide) rfl (Nat.le_of_ble_eq_true rfl)) rfl rfl rfl ?_
  refine me3 (pc' := 72) dm_X2_copyOf_71 (g_aastn (le_ (n := 2) (u := 100) (v := 25) (j := 4) hn rfl hv rfl) (se (n := 2) (u := 100) (v := 25) (j := 4) hn rfl hv _) rfl (by decide) (Nat.le_of_ble_eq_true rfl)) rfl rfl rfl ?_
  refine me1 (pc' := 75) (L' := [(2, .int (27 : Int32)), (0, .ref 127), (1, .ref 4)]) dm_X2_copyOf_72 rfl rfl rfl rfl ?_
  refine me2 (pc' := 18) dm_X2_copyOf_75 rfl rfl rfl ?_
  refine me1 (pc' := 19) dm_X2_copyOf_18 rfl rfl rfl rfl ?_
  refine me0 (pc' := 21) (S' := .int (40 : Int32) :: _) dm_X2_copyOf_19 rfl rfl rfl rfl ?_
  refine me_2f (pc' := 24) dm_X2_copyOf_21 rfl (by decide) rfl ?_
  refine me1 (pc' := 25) dm_X2_copyOf_24 rfl rfl rfl rfl ?_
  refine me3 (pc' := 28) dm_X2_copyOf_25 (g_get (v := .ref 128) (le_ (n := 2) (u := 100) (v := 25) (j := 0) hn rfl hv rfl) rfl rfl (Nat.le_of_ble_eq_true rfl)) rfl rfl rfl ?_
  refine me1 (pc' := 29) dm_X2_copyOf_28 rfl rfl rfl rfl ?_
  refine me1 (pc' := 30) dm_X2_copyOf_29 rfl rfl rfl rfl ?_
  refine me3 (pc' := 33) dm_X2_copyOf_30 (g_get (v := .ref 5) (lu (n := 2) (j := 2) hn rfl) rfl rfl (Nat.le_of_ble_eq_true rfl)) rfl rfl rfl ?_
  refine me1 (pc' := 34) dm_X2_copyOf_33 rfl rfl rfl rfl ?_
  refine me3 (pc' := 35) dm_X2_copyOf_34 (g_lald (v := (0 : Int64)) (lu (n := 2) (j := 3) hn rfl) rfl (by decide) rfl (Nat.le_of_ble_eq_true rfl)) rfl rfl rfl ?_
  refine me3 (pc' := 36) dm_X2_copyOf_35 (g_last (le_ (n := 2) (u := 100) (v := 25) (j := 1) hn rfl hv rfl) (se (n := 2) (u := 100) (v := 25) (j := 1) hn rfl hv _) rfl (by decide) (Nat.le_of_ble_eq_true rfl)) rfl rfl rfl ?_
  refine me1 (pc' := 37) dm_X2_copyOf_36 rfl rfl rfl rfl ?_
  refine me3 (pc' := 40) dm_X2_copyOf_37 (g_get (v := .ref 129) (le_ (n := 2) (u := 100) (v := 25) (j := 0) hn rfl hv rfl) rfl rfl (Nat.le_of_ble_eq_true rfl)) rfl rfl rfl ?_
  refine me1 (pc' := 41) dm_X2_copyOf_40 rfl rfl rfl rfl ?_
  refine me1 (pc' := 42) dm_X2_copyOf_41 rfl rfl rfl rfl ?_
  refine me3 (pc' := 45) dm_X2_copyOf_42 (g_get (v := .ref 6) (lu (n := 2) (j := 2) hn rfl) rfl rfl (Nat.le_of_ble_eq_true rfl)) rfl rfl rfl ?_
  refine me1 (pc' := 46) dm_X2_copyOf_45 rfl rfl rfl rfl ?_
  refine me3 (pc' := 47) dm_X2_copyOf_46 (g_aald (v := .null) (lu (n := 2) (j := 4) hn rfl) rfl (by decide) rfl (Nat.le_of_ble_eq_true rfl)) rfl rfl rfl ?_
  refine me3 (pc' := 48) dm_X2_copyOf_47 (g_aastn (le_ (n := 2) (u := 100) (v := 25) (j := 2) hn rfl hv rfl) (se (n := 2) (u := 100) (v := 25) (j := 2) hn rfl hv _) rfl (by decide) (Nat.le_of_ble_eq_true rfl)) rfl rfl rfl ?_
  refine me1 (pc' := 49) dm_X2_copyOf_48 rfl rfl rfl rfl ?_
  refine me3 (pc' := 52) dm_X2_copyOf_49 (g_get (v := .ref 130) (le_ (n := 2) (u := 100) (v := 25) (j := 0) hn rfl hv rfl) rfl rfl (Nat.le_of_ble_eq_true rfl)) rfl rfl rfl ?_
  refine me1 (pc' := 53) dm_X2_copyOf_52 rfl rfl rfl rfl ?_
  refine me1 (pc' := 54) dm_X2_copyOf_53 rfl rfl rfl rfl ?_
  refine me3 (pc' := 57) dm_X2_copyOf_54 (g_get (v := .ref 7) (lu (n := 2) (j := 2) hn rfl) rfl rfl (Nat.le_of_ble_eq_true rfl)) rfl rfl rfl ?_
  refine me1 (pc' := 58) dm_X2_copyOf_57 rfl rfl rfl rfl ?_
  refine me3 (pc' := 59) dm_X2_copyOf_58 (g_lald (v := (0 : Int64)) (lu (n := 2) (j := 5) hn rfl) rfl (by decide) rfl (Nat.le_of_ble_eq_true rfl)) rfl rfl rfl ?_
  refine me3 (pc' := 60) dm_X2_copyOf_59 (g_last (le_ (n := 2) (u := 100) (v := 25) (j := 3) hn rfl hv rfl) (se (n := 2) (u := 100) (v := 25) (j := 3) hn rfl hv _) rfl (by decide) (Nat.le_of_ble_eq_true rfl)) rfl rfl rfl ?_
  refine me1 (pc' := 61) dm_X2_copyOf_60 rfl rfl rfl rfl ?_
  refine me3 (pc' := 64) dm_X2_copyOf_61 (g_get (v := .ref 131) (le_ (n := 2) (u := 100) (v := 25) (j := 0) hn rfl hv rfl) rfl rfl (Nat.le_of_ble_eq_true rfl)) rfl rfl rfl ?_
  refine me1 (pc' := 65) dm_X2_copyOf_64 rfl rfl rfl rfl ?_
  refine me1 (pc' := 66) dm_X2_copyOf_65 rfl rfl rfl rfl ?_
  refine me3 (pc' := 69) dm_X2_copyOf_66 (g_get (v := .ref 8) (lu (n := 2) (j := 2) hn rfl) rfl rfl (Nat.le_of_ble_eq_true rfl)) rfl rfl rfl ?_
  refine me1 (pc' := 70) dm_X2_copyOf_69 rfl rfl rfl rfl ?_
  refine me3 (pc' := 71) dm_X2_copyOf_70 (g_aald (v := .null) (lu (n := 2) (j := 6) hn rfl) rfl (by decide) rfl (Nat.le_of_ble_eq_true rfl)) rfl rfl rfl ?_
  refine me3 (pc' := 72) dm_X2_copyOf_71 (g_aastn (le_ (n := 2) (u := 100) (v := 25) (j := 4) hn rfl hv rfl) (se (n := 2) (u := 100) (v := 25) (j := 4) hn rfl hv _) rfl (by decide) (Nat.le_of_ble_eq_true rfl)) rfl rfl rfl ?_
  refine me1 (pc' := 75) (L' := [(2, .int (28 : Int32)), (0, .ref 127), (1, .ref 4)]) dm_X2_copyOf_72 rfl rfl rfl rfl ?_
  refine me2 (pc' := 18) dm_X2_copyOf_75 rfl rfl rfl ?_
  refine me1 (pc' := 19) dm_X2_copyOf_18 rfl rfl rfl rfl ?_
  refine me0 (pc' := 21) (S' := .int (40 : Int32) :: _) dm_X2_copyOf_19 rfl rfl rfl rfl ?_
  refine me_2f (pc' := 24) dm_X2_copyOf_21 rfl (by decide) rfl ?_
  refine me1 (pc' := 25) dm_X2_copyOf_24 rfl rfl rfl rfl ?_
  refine me3 (pc' := 28) dm_X2_copyOf_25 (g_get (v := .ref 128) (le_ (n := 2) (u := 100) (v := 25) (j := 0) hn rfl hv rfl) rfl rfl (Nat.le_of_ble_eq_true rfl)) rfl rfl rfl ?_
  refine me1 (pc' := 29) dm_X2_copyOf_28 rfl rfl rfl rfl ?_
  refine me1 (pc' := 30) dm_X2_copyOf_29 rfl rfl rfl rfl ?_
  refine me3 (pc' := 33) dm_X2_copyOf_30 (g_get (v := .ref 5) (lu (n := 2) (j := 2) hn rfl) rfl rfl (Nat.le_of_ble_eq_true rfl)) rfl rfl rfl ?_
  refine me1 (pc' := 34) dm_X2_copyOf_33 rfl rfl rfl rfl ?_
  refine me3 (pc' := 35) dm_X2_copyOf_34 (g_lald (v := (0 : Int64)) (lu (n := 2) (j := 3) hn rfl) rfl (by decide) rfl (Nat.le_of_ble_eq_true rfl)) rfl rfl rfl ?_
  refine me3 (pc' := 36) dm_X2_copyOf_35 (g_last (le_ (n := 2) (u := 100) (v := 25) (j := 1) hn rfl hv rfl) (se (n := 2) (u := 100) (v := 25) (j := 1) hn rfl hv _) rfl (by decide) (Nat.le_of_ble_eq_true rfl)) rfl rfl rfl ?_
  refine me1 (pc' := 37) dm_X2_copyOf_36 rfl rfl rfl rfl ?_
  refine me3 (pc' := 40) dm_X2_copyOf_37 (g_get (v := .ref 129) (le_ (n := 2) (u := 100) (v := 25) (j := 0) hn rfl hv rfl) rfl rfl (Nat.le_of_ble_eq_true rfl)) rfl rfl rfl ?_
  refine me1 (pc' := 41) dm_X2_copyOf_40 rfl rfl rfl rfl ?_
  refine me1 (pc' := 42) dm_X2_copyOf_41 rfl rfl rfl rfl ?_
  refine me3 (pc' := 45) dm_X2_copyOf_42 (g_get (v := .ref 6) (lu (n := 2) (j := 2) hn rfl) rfl rfl (Nat.le_of_ble_eq_true rfl)) rfl rfl rfl ?_
  refine me1 (pc' := 46) dm_X2_copyOf_45 rfl rfl rfl rfl ?_
  refine me3 (pc' := 47) dm_X2_copyOf_46 (g_aald (v := .null) (lu (n := 2) (j := 4) hn rfl) rfl (by decide) rfl (Nat.le_of_ble_eq_true rfl)) rfl rfl rfl ?_
  refine me3 (pc' := 48) dm_X2_copyOf_47 (g_aastn (le_ (n := 2) (u := 100) (v := 25) (j := 2) hn rfl hv rfl) (se (n := 2) (u := 100) (v := 25) (j := 2) hn rfl hv _) rfl (by decide) (Nat.le_of_ble_eq_true rfl)) rfl rfl rfl ?_
  refine me1 (pc' := 49) dm_X2_copyOf_48 rfl rfl rfl rfl ?_
  refine me3 (pc' := 52) dm_X2_copyOf_49 (g_get (v := .ref 130) (le_ (n := 2) (u := 100) (v := 25) (j := 0) hn rfl hv rfl) rfl rfl (Nat.le_of_ble_eq_true rfl)) rfl rfl rfl ?_
  refine me1 (pc' := 53) dm_X2_copyOf_52 rfl rfl rfl rfl ?_
  refine me1 (pc' := 54) dm_X2_copyOf_53 rfl rfl rfl rfl ?_
  refine me3 (pc' := 57) dm_X2_copyOf_54 (g_get (v := .ref 7) (lu (n := 2) (j := 2) hn rfl) rfl rfl (Nat.le_of_ble_eq_true rfl)) rfl rfl rfl ?_
  refine me1 (pc' := 58) dm_X2_copyOf_57 rfl rfl rfl rfl ?_
  refine me3 (pc' := 59) dm_X2_copyOf_58 (g_lald (v := (0 : Int64)) (lu (n := 2) (j := 5) hn rfl) rfl (by decide) rfl (Nat.le_of_ble_eq_true rfl)) rfl rfl rfl ?_
  refine me3 (pc' := 60) dm_X2_copyOf_59 (g_last (le_ (n := 2) (u := 100) (v := 25) (j := 3) hn rfl hv rfl) (se (n := 2) (u := 100) (v := 25) (j := 3) hn rfl hv _) rfl (by decide) (Nat.le_of_ble_eq_true rfl)) rfl rfl rfl ?_
  refine me1 (pc' := 61) dm_X2_copyOf_60 rfl rfl rfl rfl ?_
  refine me3 (pc' := 64) dm_X2_copyOf_61 (g_get (v := .ref 131) (le_ (n := 2) (u := 100) (v := 25) (j := 0) hn rfl hv rfl) rfl rfl (Nat.le_of_ble_eq_true rfl)) rfl rfl rfl ?_
  refine me1 (pc' := 65) dm_X2_copyOf_64 rfl rfl rfl rfl ?_
  refine me1 (pc' := 66) dm_X2_copyOf_65 rfl rfl rfl rfl ?_
  refine me3 (pc' := 69) dm_X2_copyOf_66 (g_get (v := .ref 8) (lu (n := 2) (j := 2) hn rfl) rfl rfl (Nat.le_of_ble_eq_true rfl)) rfl rfl rfl ?_
  refine me1 (pc' := 70) dm_X2_copyOf_69 rfl rfl rfl rfl ?_
  refine me3 (pc' := 71) dm_X2_copyOf_70 (g_aald (v := .null) (lu (n := 2) (j := 6) hn rfl) rfl (by decide) rfl (Nat.le_of_ble_eq_true rfl)) rfl rfl rfl ?_
  refine me3 (pc' := 72) dm_X2_copyOf_71 (g_aastn (le_ (n := 2) (u := 100) (v := 25) (j := 4) hn rfl hv rfl) (se (n := 2) (u := 100) (v := 25) (j := 4) hn rfl hv _) rfl (by decide) (Nat.le_of_ble_eq_true rfl)) rfl rfl rfl ?_
  refine me1 (pc' := 75) (L' := [(2, .int (29 : Int32)), (0, .ref 127), (1, .ref 4)]) dm_X2_copyOf_72 rfl rfl rfl rfl ?_
  refine me2 (pc' := 18) dm_X2_copyOf_75 rfl rfl rfl ?_
  refine me1 (pc' := 19) dm_X2_copyOf_18 rfl rfl rfl rfl ?_
  refine me0 (pc' := 21) (S' := .int (40 : Int32) :: _) dm_X2_copyOf_19 rfl rfl rfl rfl ?_
  refine me_2f (pc' := 24) dm_X2_copyOf_21 rfl (by decide) rfl ?_
  refine me1 (pc' := 25) dm_X2_copyOf_24 rfl rfl rfl rfl ?_
  refine me3 (pc' := 28) dm_X2_copyOf_25 (g_get (v := .ref 128) (le_ (n := 2) (u := 100) (v := 25) (j := 0) hn rfl hv rfl) rfl rfl (Nat.le_of_ble_eq_true rfl)) rfl rfl rfl ?_
  refine me1 (pc' := 29) dm_X2_copyOf_28 rfl rfl rfl rfl ?_
  refine me1 (pc' := 30) dm_X2_copyOf_29 rfl rfl rfl rfl ?_
  refine me3 (pc' := 33) dm_X2_copyOf_30 (g_get (v := .ref 5) (lu (n := 2) (j := 2) hn rfl) rfl rfl (Nat.le_of_ble_eq_true rfl)) rfl rfl rfl ?_
  refine me1 (pc' := 34) dm_X2_copyOf_33 rfl rfl rfl rfl ?_
  refine me3 (pc' := 35) dm_X2_copyOf_34 (g_lald (v := (0 : Int64)) (lu (n := 2) (j := 3) hn rfl) rfl (by decide) rfl (Nat.le_of_ble_eq_true rfl)) rfl rfl rfl ?_
  refine me3 (pc' := 36) dm_X2_copyOf_35 (g_last (le_ (n := 2) (u := 100) (v := 25) (j := 1) hn rfl hv rfl) (se (n := 2) (u := 100) (v := 25) (j := 1) hn rfl hv _) rfl (by decide) (Nat.le_of_ble_eq_true rfl)) rfl rfl rfl ?_
  refine me1 (pc' := 37) dm_X2_copyOf_36 rfl rfl rfl rfl ?_
  refine me3 (pc' := 40) dm_X2_copyOf_37 (g_get (v := .ref 129) (le_ (n := 2) (u := 100) (v := 25) (j := 0) hn rfl hv rfl) rfl rfl (Nat.le_of_ble_eq_true rfl)) rfl rfl rfl ?_
  refine me1 (pc' := 41) dm_X2_copyOf_40 rfl rfl rfl rfl ?_
  refine me1 (pc' := 42) dm_X2_copyOf_41 rfl rfl rfl rfl ?_
  refine me3 (pc' := 45) dm_X2_copyOf_42 (g_get (v := .ref 6) (lu (n := 2) (j := 2) hn rfl) rfl rfl (Nat.le_of_ble_eq_true rfl)) rfl rfl rfl ?_
  refine me1 (pc' := 46) dm_X2_copyOf_45 rfl rfl rfl rfl ?_
  refine me3 (pc' := 47) dm_X2_copyOf_46 (g_aald (v := .null) (lu (n := 2) (j := 4) hn rfl) rfl (by decide) rfl (Nat.le_of_ble_eq_true rfl)) rfl rfl rfl ?_
  refine me3 (pc' := 48) dm_X2_copyOf_47 (g_aastn (le_ (n := 2) (u := 100) (v := 25) (j := 2) hn rfl hv rfl) (se (n := 2) (u := 100) (v := 25) (j := 2) hn rfl hv _) rfl (by decide) (Nat.le_of_ble_eq_true rfl)) rfl rfl rfl ?_
  refine me1 (pc' := 49) dm_X2_copyOf_48 rfl rfl rfl rfl ?_
  refine me3 (pc' := 52) dm_X2_copyOf_49 (g_get (v := .ref 130) (le_ (n := 2) (u := 100) (v := 25) (j := 0) hn rfl hv rfl) rfl rfl (Nat.le_of_ble_eq_true rfl)) rfl rfl rfl ?_
  refine me1 (pc' := 53) dm_X2_copyOf_52 rfl rfl rfl rfl ?_
  refine me1 (pc' := 54) dm_X2_copyOf_53 rfl rfl rfl rfl ?_
  refine me3 (pc' := 57) dm_X2_copyOf_54 (g_get (v := .ref 7) (lu (n := 2) (j := 2) hn rfl) rfl rfl (Nat.le_of_ble_eq_true rfl)) rfl rfl rfl ?_
  refine me1 (pc' := 58) dm_X2_copyOf_57 rfl rfl rfl rfl ?_
  refine me3 (pc' := 59) dm_X2_copyOf_58 (g_lald (v := (0 : Int64)) (lu (n := 2) (j := 5) hn rfl) rfl (by decide) rfl (Nat.le_of_ble_eq_true rfl)) rfl rfl rfl ?_
  refine me3 (pc' := 60) dm_X2_copyOf_59 (g_last (le_ (n := 2) (u := 100) (v := 25) (j := 3) hn rfl hv rfl) (se (n := 2) (u := 100) (v := 25) (j := 3) hn rfl hv _) rfl (by decide) (Nat.le_of_ble_eq_true rfl)) rfl rfl rfl ?_
  refine me1 (pc' := 61) dm_X2_copyOf_60 rfl rfl rfl rfl ?_
  refine me3 (pc' := 64) dm_X2_copyOf_61 (g_get (v := .ref 131) (le_ (n := 2) (u := 100) (v := 25) (j := 0) hn rfl hv rfl) rfl rfl (Nat.le_of_ble_eq_true rfl)) rfl rfl rfl ?_
  refine me1 (pc' := 65) dm_X2_copyOf_64 rfl rfl rfl rfl ?_
  refine me1 (pc' := 66) dm_X2_copyOf_65 rfl rfl rfl rfl ?_
  refine me3 (pc' := 69) dm_X2_copyOf_66 (g_get (v := .ref 8) (lu (n := 2) (j := 2) hn rfl) rfl rfl (Nat.le_of_ble_eq_true rfl)) rfl rfl rfl ?_
  refine me1 (pc' := 70) dm_X2_copyOf_69 rfl rfl rfl rfl ?_
  refine me3 (pc' := 71) dm_X2_copyOf_70 (g_aald (v := .null) (lu (n := 2) (j := 6) hn rfl) rfl (by decide) rfl (Nat.le_of_ble_eq_true rfl)) rfl rfl rfl ?_
  refine me3 (pc' := 72) dm_X2_copyOf_71 (g_aastn (le_ (n := 2) (u := 100) (v := 25) (j := 4) hn rfl hv rfl) (se (n := 2) (u := 100) (v := 25) (j := 4) hn rfl hv _) rfl (by decide) (Nat.le_of_ble_eq_true rfl)) rfl rfl rfl ?_
  refine me1 (pc' := 75) (L' := [(2, .int (30 : Int32)), (0, .ref 127), (1, .ref 4)]) dm_X2_copyOf_72 rfl rfl rfl rfl ?_
  refine me2 (pc' := 18) dm_X2_copyOf_75 rfl rfl rfl ?_
  refine me1 (pc' := 19) dm_X2_copyOf_18 rfl rfl rfl rfl ?_
  refine me0 (pc' := 21) (S' := .int (40 : Int32) :: _) dm_X2_copyOf_19 rfl rfl rfl rfl ?_
  refine me_2f (pc' := 24) dm_X2_copyOf_21 rfl (by decide) rfl ?_
  refine me1 (pc' := 25) dm_X2_copyOf_24 rfl rfl rfl rfl ?_
  refine me3 (pc' := 28) dm_X2_copyOf_25 (g_get (v := .ref 128) (le_ (n := 2) (u := 100) (v := 25) (j := 0) hn rfl hv rfl) rfl rfl (Nat.le_of_ble_eq_true rfl)) rfl rfl rfl ?_
  refine me1 (pc' := 29) dm_X2_copyOf_28 rfl rfl rfl rfl ?_
  refine me1 (pc' := 30) dm_X2_copyOf_29 rfl rfl rfl rfl ?_
  refine me3 (pc' := 33) dm_X2_copyOf_30 (g_get (v := .ref 5) (lu (n := 2) (j := 2) hn rfl) rfl rfl (Nat.le_of_ble_eq_true rfl)) rfl rfl rfl ?_
  refine me1 (pc' := 34) dm_X2_copyOf_33 rfl rfl rfl rfl ?_
  refine me3 (pc' := 35) dm_X2_copyOf_34 (g_lald (v := (0 : Int64)) (lu (n := 2) (j := 3) hn rfl) rfl (by decide) rfl (Nat.le_of_ble_eq_true rfl)) rfl rfl rfl ?_
  refine me3 (pc' := 36) dm_X2_copyOf_35 (g_last (le_ (n := 2) (u := 100) (v := 25) (j := 1) hn rfl hv rfl) (se (n := 2) (u := 100) (v := 25) (j := 1) hn rfl hv _) rfl (by decide) (Nat.le_of_ble_eq_true rfl)) rfl rfl rfl ?_
  refine me1 (pc' := 37) dm_X2_copyOf_36 rfl rfl rfl rfl ?_
  refine me3 (pc' := 40) dm_X2_copyOf_37 (g_get (v := .ref 129) (le_ (n := 2) (u := 100) (v := 25) (j := 0) hn rfl hv rfl) rfl rfl (Nat.le_of_ble_eq_true rfl)) rfl rfl rfl ?_
  refine me1 (pc' := 41) dm_X2_copyOf_40 rfl rfl rfl rfl ?_
  refine me1 (pc' := 42) dm_X2_copyOf_41 rfl rfl rfl rfl ?_
  refine me3 (pc' := 45) dm_X2_copyOf_42 (g_get (v := .ref 6) (lu (n := 2) (j := 2) hn rfl) rfl rfl (Nat.le_of_ble_eq_true rfl)) rfl rfl rfl ?_
  refine me1 (pc' := 46) dm_X2_copyOf_45 rfl rfl rfl rfl ?_
  refine me3 (pc' := 47) dm_X2_copyOf_46 (g_aald (v := .null) (lu (n := 2) (j := 4) hn rfl) rfl (by decide) rfl (Nat.le_of_ble_eq_true rfl)) rfl rfl rfl ?_
  refine me3 (pc' := 48) dm_X2_copyOf_47 (g_aastn (le_ (n := 2) (u := 100) (v := 25) (j := 2) hn rfl hv rfl) (se (n := 2) (u := 100) (v := 25) (j := 2) hn rfl hv _) rfl (by decide) (Nat.le_of_ble_eq_true rfl)) rfl rfl rfl ?_
  refine me1 (pc' := 49) dm_X2_copyOf_48 rfl rfl rfl rfl ?_
  refine me3 (pc' := 52) dm_X2_copyOf_49 (g_get (v := .ref 130) (le_ (n := 2) (u := 100) (v := 25) (j := 0) hn rfl hv rfl) rfl rfl (Nat.le_of_ble_eq_true rfl)) rfl rfl rfl ?_
  refine me1 (pc' := 53) dm_X2_copyOf_52 rfl rfl rfl rfl ?_
  refine me1 (pc' := 54) dm_X2_copyOf_53 rfl rfl rfl rfl ?_
  refine me3 (pc' := 57) dm_X2_copyOf_54 (g_get (v := .ref 7) (lu (n := 2) (j := 2) hn rfl) rfl rfl (Nat.le_of_ble_eq_true rfl)) rfl rfl rfl ?_
  refine me1 (pc' := 58) dm_X2_copyOf_57 rfl rfl rfl rfl ?_
  refine me3 (pc' := 59) dm_X2_copyOf_58 (g_lald (v := (0 : Int64)) (lu (n := 2) (j := 5) hn rfl) rfl (by decide) rfl (Nat.le_of_ble_eq_true rfl)) rfl rfl rfl ?_
  refine me3 (pc' := 60) dm_X2_copyOf_59 (g_last (le_ (n := 2) (u := 100) (v := 25) (j := 3) hn rfl hv rfl) (se (n := 2) (u := 100) (v := 25) (j := 3) hn rfl hv _) rfl (by decide) (Nat.le_of_ble_eq_true rfl)) rfl rfl rfl ?_
  refine me1 (pc' := 61) dm_X2_copyOf_60 rfl rfl rfl rfl ?_
  refine me3 (pc' := 64) dm_X2_copyOf_61 (g_get (v := .ref 131) (le_ (n := 2) (u := 100) (v := 25) (j := 0) hn rfl hv rfl) rfl rfl (Nat.le_of_ble_eq_true rfl)) rfl rfl rfl ?_
  refine me1 (pc' := 65) dm_X2_copyOf_64 rfl rfl rfl rfl ?_
  refine me1 (pc' := 66) dm_X2_copyOf_65 rfl rfl rfl rfl ?_
  refine me3 (pc' := 69) dm_X2_copyOf_66 (g_get (v := .ref 8) (lu (n := 2) (j := 2) hn rfl) rfl rfl (Nat.le_of_ble_eq_true rfl)) rfl rfl rfl ?_
  refine me1 (pc' := 70) dm_X2_copyOf_69 rfl rfl rfl rfl ?_
  refine me3 (pc' := 71) dm_X2_copyOf_70 (g_aald (v := .null) (lu (n := 2) (j := 6) hn rfl) rfl (by decide) rfl (Nat.le_of_ble_eq_true rfl)) rfl rfl rfl ?_
  refine me3 (pc' := 72) dm_X2_copyOf_71 (g_aastn (le_ (n := 2) (u := 100) (v := 25) (j := 4) hn rfl hv rfl) (se (n := 2) (u := 100) (v := 25) (j := 4) hn rfl hv _) rfl (by decide) (Nat.le_of_ble_eq_true rfl)) rfl rfl rfl ?_
  refine me1 (pc' := 75) (L' := [(2, .int (31 : Int32)), (0, .ref 127), (1, .ref 4)]) dm_X2_copyOf_72 rfl rfl rfl rfl ?_
  refine me2 (pc' := 18) dm_X2_copyOf_75 rfl rfl rfl ?_
  refine me1 (pc' := 19) dm_X2_copyOf_18 rfl rfl rfl rfl ?_
  refine me0 (pc' := 21) (S' := .int (40 : Int32) :: _) dm_X2_copyOf_19 rfl rfl rfl rfl ?_
  refine me_2f (pc' := 24) dm_X2_copyOf_21 rfl (by decide) rfl ?_
  refine me1 (pc' := 25) dm_X2_copyOf_24 rfl rfl rfl rfl ?_
  refine me3 (pc' := 28) dm_X2_copyOf_25 (g_get (v := .ref 128) (le_ (n := 2) (u := 100) (v := 25) (j := 0) hn rfl hv rfl) rfl rfl (Nat.le_of_ble_eq_true rfl)) rfl rfl rfl ?_
  refine me1 (pc' := 29) dm_X2_copyOf_28 rfl rfl rfl rfl ?_
  refine me1 (pc' := 30) dm_X2_copyOf_29 rfl rfl rfl rfl ?_
  refine me3 (pc' := 33) dm_X2_copyOf_30 (g_get (v := .ref 5) (lu (n := 2) (j := 2) hn rfl) rfl rfl (Nat.le_of_ble_eq_true rfl)) rfl rfl rfl ?_
  refine me1 (pc' := 34) dm_X2_copyOf_33 rfl rfl rfl rfl ?_
  refine me3 (pc' := 35) dm_X2_copyOf_34 (g_lald (v := (0 : Int64)) (lu (n := 2) (j := 3) hn rfl) rfl (by decide) rfl (Nat.le_of_ble_eq_true rfl)) rfl rfl rfl ?_
  refine me3 (pc' := 36) dm_X2_copyOf_35 (g_last (le_ (n := 2) (u := 100) (v := 25) (j := 1) hn rfl hv rfl) (se (n := 2) (u := 100) (v := 25) (j := 1) hn rfl hv _) rfl (by decide) (Nat.le_of_ble_eq_true rfl)) rfl rfl rfl ?_
  refine me1 (pc' := 37) dm_X2_copyOf_36 rfl rfl rfl rfl ?_
  refine me3 (pc' := 40) dm_X2_copyOf_37 (g_get (v := .ref 129) (le_ (n := 2) (u := 100) (v := 25) (j := 0) hn rfl hv rfl) rfl rfl (Nat.le_of_ble_eq_true rfl)) rfl rfl rfl ?_
  refine me1 (pc' := 41) dm_X2_copyOf_40 rfl rfl rfl rfl ?_
  refine me1 (pc' := 42) dm_X2_copyOf_41 rfl rfl rfl rfl ?_
  refine me3 (pc' := 45) dm_X2_copyOf_42 (g_get (v := .ref 6) (lu (n := 2) (j := 2) hn rfl) rfl rfl (Nat.le_of_ble_eq_true rfl)) rfl rfl rfl ?_
  refine me1 (pc' := 46) dm_X2_copyOf_45 rfl rfl rfl rfl ?_
  refine me3 (pc' := 47) dm_X2_copyOf_46 (g_aald (v := .null) (lu (n := 2) (j := 4) hn rfl) rfl (by decide) rfl (Nat.le_of_ble_eq_true rfl)) rfl rfl rfl ?_
  refine me3 (pc' := 48) dm_X2_copyOf_47 (g_aastn (le_ (n := 2) (u := 100) (v := 25) (j := 2) hn rfl hv rfl) (se (n := 2) (u := 100) (v := 25) (j := 2) hn rfl hv _) rfl (by decide) (Nat.le_of_ble_eq_true rfl)) rfl rfl rfl ?_
  refine me1 (pc' := 49) dm_X2_copyOf_48 rfl rfl rfl rfl ?_
  refine me3 (pc' := 52) dm_X2_copyOf_49 (g_get (v := .ref 130) (le_ (n := 2) (u := 100) (v := 25) (j := 0) hn rfl hv rfl) rfl rfl (Nat.le_of_ble_eq_true rfl)) rfl rfl rfl ?_
  refine me1 (pc' := 53) dm_X2_copyOf_52 rfl rfl rfl rfl ?_
  refine me1 (pc' := 54) dm_X2_copyOf_53 rfl rfl rfl rfl ?_
  refine me3 (pc' := 57) dm_X2_copyOf_54 (g_get (v := .ref 7) (lu (n := 2) (j := 2) hn rfl) rfl rfl (Nat.le_of_ble_eq_true rfl)) rfl rfl rfl ?_
  refine me1 (pc' := 58) dm_X2_copyOf_57 rfl rfl rfl rfl ?_
  refine me3 (pc' := 59) dm_X2_copyOf_58 (g_lald (v := (0 : Int64)) (lu (n := 2) (j := 5) hn rfl) rfl (by decide) rfl (Nat.le_of_ble_eq_true rfl)) rfl rfl rfl ?_
  refine me3 (pc' := 60) dm_X2_copyOf_59 (g_last (le_ (n := 2) (u := 100) (v := 25) (j := 3) hn rfl hv rfl) (se (n := 2) (u := 100) (v := 25) (j := 3) hn rfl hv _) rfl (by decide) (Nat.le_of_ble_eq_true rfl)) rfl rfl rfl ?_
  refine me1 (pc' := 61) dm_X2_copyOf_60 rfl rfl rfl rfl ?_
  refine me3 (pc' := 64) dm_X2_copyOf_61 (g_get (v := .ref 131) (le_ (n := 2) (u := 100) (v := 25) (j := 0) hn rfl hv rfl) rfl rfl (Nat.le_of_ble_eq_true rfl)) rfl rfl rfl ?_
  refine me1 (pc' := 65) dm_X2_copyOf_64 rfl rfl rfl rfl ?_
  refine me1 (pc' := 66) dm_X2_copyOf_65 rfl rfl rfl rfl ?_
  refine me3 (pc' := 69) dm_X2_copyOf_66 (g_get (v := .ref 8) (lu (n := 2) (j := 2) hn rfl) rfl rfl (Nat.le_of_ble_eq_true rfl)) rfl rfl rfl ?_
  refine me1 (pc' := 70) dm_X2_copyOf_69 rfl rfl rfl rfl ?_
  refine me3 (pc' := 71) dm_X2_copyOf_70 (g_aald (v := .null) (lu (n := 2) (j := 6) hn rfl) rfl (by decide) rfl (Nat.le_of_ble_eq_true rfl)) rfl rfl rfl ?_
  refine me3 (pc' := 72) dm_X2_copyOf_71 (g_aastn (le_ (n := 2) (u := 100) (v := 25) (j := 4) hn rfl hv rfl) (se (n := 2) (u := 100) (v := 25) (j := 4) hn rfl hv _) rfl (by decide) (Nat.le_of_ble_eq_true rfl)) rfl rfl rfl ?_
  refine me1 (pc' := 75) (L' := [(2, .int (32 : Int32)), (0, .ref 127), (1, .ref 4)]) dm_X2_copyOf_72 rfl rfl rfl rfl ?_
  refine me2 (pc' := 18) dm_X2_copyOf_75 rfl rfl rfl ?_
  refine me1 (pc' := 19) dm_X2_copyOf_18 rfl rfl rfl rfl ?_
  refine me0 (pc' := 21) (S' := .int (40 : Int32) :: _) dm_X2_copyOf_19 rfl rfl rfl rfl ?_
  refine me_2f (pc' := 24) dm_X2_copyOf_21 rfl (by decide) rfl ?_
  refine me1 (pc' := 25) dm_X2_copyOf_24 rfl rfl rfl rfl ?_
  refine me3 (pc' := 28) dm_X2_copyOf_25 (g_get (v := .ref 128) (le_ (n := 2) (u := 100) (v := 25) (j := 0) hn rfl hv rfl) rfl rfl (Nat.le_of_ble_eq_true rfl)) rfl rfl rfl ?_
  refine me1 (pc' := 29) dm_X2_copyOf_28 rfl rfl rfl rfl ?_
  refine me1 (pc' := 30) dm_X2_copyOf_29 rfl rfl rfl rfl ?_
  refine me3 (pc' := 33) dm_X2_copyOf_30 (g_get (v := .ref 5) (lu (n := 2) (j := 2) hn rfl) rfl rfl (Nat.le_of_ble_eq_true rfl)) rfl rfl rfl ?_
  refine me1 (pc' := 34) dm_X2_copyOf_33 rfl rfl rfl rfl ?_
  refine me3 (pc' := 35) dm_X2_copyOf_34 (g_lald (v := (0 : Int64)) (lu (n := 2) (j := 3) hn rfl) rfl (by decide) rfl (Nat.le_of_ble_eq_true rfl)) rfl rfl rfl ?_
  refine me3 (pc' := 36) dm_X2_copyOf_35 (g_last (le_ (n := 2) (u := 100) (v := 25) (j := 1) hn rfl hv rfl) (se (n := 2) (u := 100) (v := 25) (j := 1) hn rfl hv _) rfl (by decide) (Nat.le_of_ble_eq_true rfl)) rfl rfl rfl ?_
  refine me1 (pc' := 37) dm_X2_copyOf_36 rfl rfl rfl rfl ?_
  refine me3 (pc' := 40) dm_X2_copyOf_37 (g_get (v := .ref 129) (le_ (n := 2) (u := 100) (v := 25) (j := 0) hn rfl hv rfl) rfl rfl (Nat.le_of_ble_eq_true rfl)) rfl rfl rfl ?_
  refine me1 (pc' := 41) dm_X2_copyOf_40 rfl rfl rfl rfl ?_
  refine me1 (pc' := 42) dm_X2_copyOf_41 rfl rfl rfl rfl ?_
  refine me3 (pc' := 45) dm_X2_copyOf_42 (g_get (v := .ref 6) (lu (n := 2) (j := 2) hn rfl) rfl rfl (Nat.le_of_ble_eq_true rfl)) rfl rfl rfl ?_
  refine me1 (pc' := 46) dm_X2_copyOf_45 rfl rfl rfl rfl ?_
  refine me3 (pc' := 47) dm_X2_copyOf_46 (g_aald (v := .null) (lu (n := 2) (j := 4) hn rfl) rfl (by decide) rfl (Nat.le_of_ble_eq_true rfl)) rfl rfl rfl ?_
  refine me3 (pc' := 48) dm_X2_copyOf_47 (g_aastn (le_ (n := 2) (u := 100) (v := 25) (j := 2) hn rfl hv rfl) (se (n := 2) (u := 100) (v := 25) (j := 2) hn rfl hv _) rfl (by decide) (Nat.le_of_ble_eq_true rfl)) rfl rfl rfl ?_
  refine me1 (pc' := 49) dm_X2_copyOf_48 rfl rfl rfl rfl ?_
  refine me3 (pc' := 52) dm_X2_copyOf_49 (g_get (v := .ref 130) (le_ (n := 2) (u := 100) (v := 25) (j := 0) hn rfl hv rfl) rfl rfl (Nat.le_of_ble_eq_true rfl)) rfl rfl rfl ?_
  refine me1 (pc' := 53) dm_X2_copyOf_52 rfl rfl rfl rfl ?_
  refine me1 (pc' := 54) dm_X2_copyOf_53 rfl rfl rfl rfl ?_
  refine me3 (pc' := 57) dm_X2_copyOf_54 (g_get (v := .ref 7) (lu (n := 2) (j := 2) hn rfl) rfl rfl (Nat.le_of_ble_eq_true rfl)) rfl rfl rfl ?_
  refine me1 (pc' := 58) dm_X2_copyOf_57 rfl rfl rfl rfl ?_
  refine me3 (pc' := 59) dm_X2_copyOf_58 (g_lald (v := (0 : Int64)) (lu (n := 2) (j := 5) hn rfl) rfl (by decide) rfl (Nat.le_of_ble_eq_true rfl)) rfl rfl rfl ?_
  refine me3 (pc' := 60) dm_X2_copyOf_59 (g_last (le_ (n := 2) (u := 100) (v := 25) (j := 3) hn rfl hv rfl) (se (n := 2) (u := 100) (v := 25) (j := 3) hn rfl hv _) rfl (by decide) (Nat.le_of_ble_eq_true rfl)) rfl rfl rfl ?_
  refine me1 (pc' := 61) dm_X2_copyOf_60 rfl rfl rfl rfl ?_
  refine me3 (pc' := 64) dm_X2_copyOf_61 (g_get (v := .ref 131) (le_ (n := 2) (u := 100) (v := 25) (j := 0) hn rfl hv rfl) rfl rfl (Nat.le_of_ble_eq_true rfl)) rfl rfl rfl ?_
  refine me1 (pc' := 65) dm_X2_copyOf_64 rfl rfl rfl rfl ?_
  refine me1 (pc' := 66) dm_X2_copyOf_65 rfl rfl rfl rfl ?_
  refine me3 (pc' := 69) dm_X2_copyOf_66 (g_get (v := .ref 8) (lu (n := 2) (j := 2) hn rfl) rfl rfl (Nat.le_of_ble_eq_true rfl)) rfl rfl rfl ?_
  refine me1 (pc' := 70) dm_X2_copyOf_69 rfl rfl rfl rfl ?_
  refine me3 (pc' := 71) dm_X2_copyOf_70 (g_aald (v := .null) (lu (n := 2) (j := 6) hn rfl) rfl (by decide) rfl (Nat.le_of_ble_eq_true rfl)) rfl rfl rfl ?_
  refine me3 (pc' := 72) dm_X2_copyOf_71 (g_aastn (le_ (n := 2) (u := 100) (v := 25) (j := 4) hn rfl hv rfl) (se (n := 2) (u := 100) (v := 25) (j := 4) hn rfl hv _) rfl (by decide) (Nat.le_of_ble_eq_true rfl)) rfl rfl rfl ?_
  refine me1 (pc' := 75) (L' := [(2, .int (33 : Int32)), (0, .ref 127), (1, .ref 4)]) dm_X2_copyOf_72 rfl rfl rfl rfl ?_
  refine me2 (pc' := 18) dm_X2_copyOf_75 rfl rfl rfl ?_
  refine me1 (pc' := 19) dm_X2_copyOf_18 rfl rfl rfl rfl ?_
  refine me0 (pc' := 21) (S' := .int (40 : Int32) :: _) dm_X2_copyOf_19 rfl rfl rfl rfl ?_
  refine me_2f (pc' := 24) dm_X2_copyOf_21 rfl (by decide) rfl ?_
  refine me1 (pc' := 25) dm_X2_copyOf_24 rfl rfl rfl rfl ?_
  refine me3 (pc' := 28) dm_X2_copyOf_25 (g_get (v := .ref 128) (le_ (n := 2) (u := 100) (v := 25) (j := 0) hn rfl hv rfl) rfl rfl (Nat.le_of_ble_eq_true rfl)) rfl rfl rfl ?_
  refine me1 (pc' := 29) dm_X2_copyOf_28 rfl rfl rfl rfl ?_
  refine me1 (pc' := 30) dm_X2_copyOf_29 rfl rfl rfl rfl ?_
  refine me3 (pc' := 33) dm_X2_copyOf_30 (g_get (v := .ref 5) (lu (n := 2) (j := 2) hn rfl) rfl rfl (Nat.le_of_ble_eq_true rfl)) rfl rfl rfl ?_
  refine me1 (pc' := 34) dm_X2_copyOf_33 rfl rfl rfl rfl ?_
  refine me3 (pc' := 35) dm_X2_copyOf_34 (g_lald (v := (0 : Int64)) (lu (n := 2) (j := 3) hn rfl) rfl (by decide) rfl (Nat.le_of_ble_eq_true rfl)) rfl rfl rfl ?_
  refine me3 (pc' := 36) dm_X2_copyOf_35 (g_last (le_ (n := 2) (u := 100) (v := 25) (j := 1) hn rfl hv rfl) (se (n := 2) (u := 100) (v := 25) (j := 1) hn rfl hv _) rfl (by decide) (Nat.le_of_ble_eq_true rfl)) rfl rfl rfl ?_
  refine me1 (pc' := 37) dm_X2_copyOf_36 rfl rfl rfl rfl ?_
  refine me3 (pc' := 40) dm_X2_copyOf_37 (g_get (v := .ref 129) (le_ (n := 2) (u := 100) (v := 25) (j := 0) hn rfl hv rfl) rfl rfl (Nat.le_of_ble_eq_true rfl)) rfl rfl rfl ?_
  refine me1 (pc' := 41) dm_X2_copyOf_40 rfl rfl rfl rfl ?_
  refine me1 (pc' := 42) dm_X2_copyOf_41 rfl rfl rfl rfl ?_
  refine me3 (pc' := 45) dm_X2_copyOf_42 (g_get (v := .ref 6) (lu (n := 2) (j := 2) hn rfl) rfl rfl (Nat.le_of_ble_eq_true rfl)) rfl rfl rfl ?_
  refine me1 (pc' := 46) dm_X2_copyOf_45 rfl rfl rfl rfl ?_
  refine me3 (pc' := 47) dm_X2_copyOf_46 (g_aald (v := .null) (lu (n := 2) (j := 4) hn rfl) rfl (by decide) rfl (Nat.le_of_ble_eq_true rfl)) rfl rfl rfl ?_
  refine me3 (pc' := 48) dm_X2_copyOf_47 (g_aastn (le_ (n := 2) (u := 100) (v := 25) (j := 2) hn rfl hv rfl) (se (n := 2) (u := 100) (v := 25) (j := 2) hn rfl hv _) rfl (by decide) (Nat.le_of_ble_eq_true rfl)) rfl rfl rfl ?_
  refine me1 (pc' := 49) dm_X2_copyOf_48 rfl rfl rfl rfl ?_
  refine me3 (pc' := 52) dm_X2_copyOf_49 (g_get (v := .ref 130) (le_ (n := 2) (u := 100) (v := 25) (j := 0) hn rfl hv rfl) rfl rfl (Nat.le_of_ble_eq_true rfl)) rfl rfl rfl ?_
  refine me1 (pc' := 53) dm_X2_copyOf_52 rfl rfl rfl rfl ?_
  refine me1 (pc' := 54) dm_X2_copyOf_53 rfl rfl rfl rfl ?_
  refine me3 (pc' := 57) dm_X2_copyOf_54 (g_get (v := .ref 7) (lu (n := 2) (j := 2) hn rfl) rfl rfl (Nat.le_of_ble_eq_true rfl)) rfl rfl rfl ?_
  refine me1 (pc' := 58) dm_X2_copyOf_57 rfl rfl rfl rfl ?_
  refine me3 (pc' := 59) dm_X2_copyOf_58 (g_lald (v := (0 : Int64)) (lu (n := 2) (j := 5) hn rfl) rfl (by decide) rfl (Nat.le_of_ble_eq_true rfl)) rfl rfl rfl ?_
  refine me3 (pc' := 60) dm_X2_copyOf_59 (g_last (le_ (n := 2) (u := 100) (v := 25) (j := 3) hn rfl hv rfl) (se (n := 2) (u := 100) (v := 25) (j := 3) hn rfl hv _) rfl (by decide) (Nat.le_of_ble_eq_true rfl)) rfl rfl rfl ?_
  refine me1 (pc' := 61) dm_X2_copyOf_60 rfl rfl rfl rfl ?_
  refine me3 (pc' := 64) dm_X2_copyOf_61 (g_get (v := .ref 131) (le_ (n := 2) (u := 100) (v := 25) (j := 0) hn rfl hv rfl) rfl rfl (Nat.le_of_ble_eq_true rfl)) rfl rfl rfl ?_
  refine me1 (pc' := 65) dm_X2_copyOf_64 rfl rfl rfl rfl ?_
  refine me1 (pc' := 66) dm_X2_copyOf_65 rfl rfl rfl rfl ?_
  refine me3 (pc' := 69) dm_X2_copyOf_66 (g_get (v := .ref 8) (lu (n := 2) (j := 2) hn rfl) rfl rfl (Nat.le_of_ble_eq_true rfl)) rfl rfl rfl ?_
  refine me1 (pc' := 70) dm_X2_copyOf_69 rfl rfl rfl rfl ?_
  refine me3 (pc' := 71) dm_X2_copyOf_70 (g_aald (v := .null) (lu (n := 2) (j := 6) hn rfl) rfl (by decide) rfl (Nat.le_of_ble_eq_true rfl)) rfl rfl rfl ?_
  refine me3 (pc' := 72) dm_X2_copyOf_71 (g_aastn (le_ (n := 2) (u := 100) (v := 25) (j := 4) hn rfl hv rfl) (se (n := 2) (u := 100) (v := 25) (j := 4) hn rfl hv _) rfl (by decide) (Nat.le_of_ble_eq_true rfl)) rfl rfl rfl ?_
  refine me1 (pc' := 75) (L' := [(2, .int (34 : Int32)), (0, .ref 127), (1, .ref 4)]) dm_X2_copyOf_72 rfl rfl rfl rfl ?_
  refine me2 (pc' := 18) dm_X2_copyOf_75 rfl rfl rfl ?_
  refine me1 (pc' := 19) dm_X2_copyOf_18 rfl rfl rfl rfl ?_
  refine me0 (pc' := 21) (S' := .int (40 : Int32) :: _) dm_X2_copyOf_19 rfl rfl rfl rfl ?_
  refine me_2f (pc' := 24) dm_X2_copyOf_21 rfl (by decide) rfl ?_
  refine me1 (pc' := 25) dm_X2_copyOf_24 rfl rfl rfl rfl ?_
  refine me3 (pc' := 28) dm_X2_copyOf_25 (g_get (v := .ref 128) (le_ (n := 2) (u := 100) (v := 25) (j := 0) hn rfl hv rfl) rfl rfl (Nat.le_of_ble_eq_true rfl)) rfl rfl rfl ?_
  refine me1 (pc' := 29) dm_X2_copyOf_28 rfl rfl rfl rfl ?_
  refine me1 (pc' := 30) dm_X2_copyOf_29 rfl rfl rfl rfl ?_
  refine me3 (pc' := 33) dm_X2_copyOf_30 (g_get (v := .ref 5) (lu (n := 2) (j := 2) hn rfl) rfl rfl (Nat.le_of_ble_eq_true rfl)) rfl rfl rfl ?_
  refine me1 (pc' := 34) dm_X2_copyOf_33 rfl rfl rfl rfl ?_
  refine me3 (pc' := 35) dm_X2_copyOf_34 (g_lald (v := (0 : Int64)) (lu (n := 2) (j := 3) hn rfl) rfl (by decide) rfl (Nat.le_of_ble_eq_true rfl)) rfl rfl rfl ?_
  refine me3 (pc' := 36) dm_X2_copyOf_35 (g_last (le_ (n := 2) (u := 100) (v := 25) (j := 1) hn rfl hv rfl) (se (n := 2) (u := 100) (v := 25) (j := 1) hn rfl hv _) rfl (by decide) (Nat.le_of_ble_eq_true rfl)) rfl rfl rfl ?_
  refine me1 (pc' := 37) dm_X2_copyOf_36 rfl rfl rfl rfl ?_
  refine me3 (pc' := 40) dm_X2_copyOf_37 (g_get (v := .ref 129) (le_ (n := 2) (u := 100) (v := 25) (j := 0) hn rfl hv rfl) rfl rfl (Nat.le_of_ble_eq_true rfl)) rfl rfl rfl ?_
  refine me1 (pc' := 41) dm_X2_copyOf_40 rfl rfl rfl rfl ?_
  refine me1 (pc' := 42) dm_X2_copyOf_41 rfl rfl rfl rfl ?_
  refine me3 (pc' := 45) dm_X2_copyOf_42 (g_get (v := .ref 6) (lu (n := 2) (j := 2) hn rfl) rfl rfl (Nat.le_of_ble_eq_true rfl)) rfl rfl rfl ?_
  refine me1 (pc' := 46) dm_X2_copyOf_45 rfl rfl rfl rfl ?_
  refine me3 (pc' := 47) dm_X2_copyOf_46 (g_aald (v := .null) (lu (n := 2) (j := 4) hn rfl) rfl (by decide) rfl (Nat.le_of_ble_eq_true rfl)) rfl rfl rfl ?_
  refine me3 (pc' := 48) dm_X2_copyOf_47 (g_aastn (le_ (n := 2) (u := 100) (v := 25) (j := 2) hn rfl hv rfl) (se (n := 2) (u := 100) (v := 25) (j := 2) hn rfl hv _) rfl (by decide) (Nat.le_of_ble_eq_true rfl)) rfl rfl rfl ?_
  refine me1 (pc' := 49) dm_X2_copyOf_48 rfl rfl rfl rfl ?_
  refine me3 (pc' := 52) dm_X2_copyOf_49 (g_get (v := .ref 130) (le_ (n := 2) (u := 100) (v := 25) (j := 0) hn rfl hv rfl) rfl rfl (Nat.le_of_ble_eq_true rfl)) rfl rfl rfl ?_
  refine me1 (pc' := 53) dm_X2_copyOf_52 rfl rfl rfl rfl ?_
  refine me1 (pc' := 54) dm_X2_copyOf_53 rfl rfl rfl rfl ?_
  refine me3 (pc' := 57) dm_X2_copyOf_54 (g_get (v := .ref 7) (lu (n := 2) (j := 2) hn rfl) rfl rfl (Nat.le_of_ble_eq_true rfl)) rfl rfl rfl ?_
  refine me1 (pc' := 58) dm_X2_copyOf_57 rfl rfl rfl rfl ?_
  refine me3 (pc' := 59) dm_X2_copyOf_58 (g_lald (v := (0 : Int64)) (lu (n := 2) (j := 5) hn rfl) rfl (by decide) rfl (Nat.le_of_ble_eq_true rfl)) rfl rfl rfl ?_
  refine me3 (pc' := 60) dm_X2_copyOf_59 (g_last (le_ (n := 2) (u := 100) (v := 25) (j := 3) hn rfl hv rfl) (se (n := 2) (u := 100) (v := 25) (j := 3) hn rfl hv _) rfl (by decide) (Nat.le_of_ble_eq_true rfl)) rfl rfl rfl ?_
  refine me1 (pc' := 61) dm_X2_copyOf_60 rfl rfl rfl rfl ?_
  refine me3 (pc' := 64) dm_X2_copyOf_61 (g_get (v := .ref 131) (le_ (n := 2) (u := 100) (v := 25) (j := 0) hn rfl hv rfl) rfl rfl (Nat.le_of_ble_eq_true rfl)) rfl rfl rfl ?_
  refine me1 (pc' := 65) dm_X2_copyOf_64 rfl rfl rfl rfl ?_
  refine me1 (pc' := 66) dm_X2_copyOf_65 rfl rfl rfl rfl ?_
  refine me3 (pc' := 69) dm_X2_copyOf_66 (g_get (v := .ref 8) (lu (n := 2) (j := 2) hn rfl) rfl rfl (Nat.le_of_ble_eq_true rfl)) rfl rfl rfl ?_
  refine me1 (pc' := 70) dm_X2_copyOf_69 rfl rfl rfl rfl ?_
  refine me3 (pc' := 71) dm_X2_copyOf_70 (g_aald (v := .null) (lu (n := 2) (j := 6) hn rfl) rfl (by decide) rfl (Nat.le_of_ble_eq_true rfl)) rfl rfl rfl ?_
  refine me3 (pc' := 72) dm_X2_copyOf_71 (g_aastn (le_ (n := 2) (u := 100) (v := 25) (j := 4) hn rfl hv rfl) (se (n := 2) (u := 100) (v := 25) (j := 4) hn rfl hv _) rfl (by decide) (Nat.le_of_ble_eq_true rfl)) rfl rfl rfl ?_
  refine me1 (pc' := 75) (L' := [(2, .int (35 : Int32)), (0, .ref 127), (1, .ref 4)]) dm_X2_copyOf_72 rfl rfl rfl rfl ?_
  refine me2 (pc' := 18) dm_X2_copyOf_75 rfl rfl rfl ?_
  refine me1 (pc' := 19) dm_X2_copyOf_18 rfl rfl rfl rfl ?_
  refine me0 (pc' := 21) (S' := .int (40 : Int32) :: _) dm_X2_copyOf_19 rfl rfl rfl rfl ?_
  refine me_2f (pc' := 24) dm_X2_copyOf_21 rfl (by decide) rfl ?_
  refine me1 (pc' := 25) dm_X2_copyOf_24 rfl rfl rfl rfl ?_
  refine me3 (pc' := 28) dm_X2_copyOf_25 (g_get (v := .ref 128) (le_ (n := 2) (u := 100) (v := 25) (j := 0) hn rfl hv rfl) rfl rfl (Nat.le_of_ble_eq_true rfl)) rfl rfl rfl ?_
  refine me1 (pc' := 29) dm_X2_copyOf_28 rfl rfl rfl rfl ?_
  refine me1 (pc' := 30) dm_X2_copyOf_29 rfl rfl rfl rfl ?_
  refine me3 (pc' := 33) dm_X2_copyOf_30 (g_get (v := .ref 5) (lu (n := 2) (j := 2) hn rfl) rfl rfl (Nat.le_of_ble_eq_true rfl)) rfl rfl rfl ?_
  refine me1 (pc' := 34) dm_X2_copyOf_33 rfl rfl rfl rfl ?_
  refine me3 (pc' := 35) dm_X2_copyOf_34 (g_lald (v := (0 : Int64)) (lu (n := 2) (j := 3) hn rfl) rfl (by decide) rfl (Nat.le_of_ble_eq_true rfl)) rfl rfl rfl ?_
  refine me3 (pc' := 36) dm_X2_copyOf_35 (g_last (le_ (n := 2) (u := 100) (v := 25) (j := 1) hn rfl hv rfl) (se (n := 2) (u := 100) (v := 25) (j := 1) hn rfl hv _) rfl (by decide) (Nat.le_of_ble_eq_true rfl)) rfl rfl rfl ?_
  refine me1 (pc' := 37) dm_X2_copyOf_36 rfl rfl rfl rfl ?_
  refine me3 (pc' := 40) dm_X2_copyOf_37 (g_get (v := .ref 129) (le_ (n := 2) (u := 100) (v := 25) (j := 0) hn rfl hv rfl) rfl rfl (Nat.le_of_ble_eq_true rfl)) rfl rfl rfl ?_
  refine me1 (pc' := 41) dm_X2_copyOf_40 rfl rfl rfl rfl ?_
  refine me1 (pc' := 42) dm_X2_copyOf_41 rfl rfl rfl rfl ?_
  refine me3 (pc' := 45) dm_X2_copyOf_42 (g_get (v := .ref 6) (lu (n := 2) (j := 2) hn rfl) rfl rfl (Nat.le_of_ble_eq_true rfl)) rfl rfl rfl ?_
  refine me1 (pc' := 46) dm_X2_copyOf_45 rfl rfl rfl rfl ?_
  refine me3 (pc' := 47) dm_X2_copyOf_46 (g_aald (v := .null) (lu (n := 2) (j := 4) hn rfl) rfl (by decide) rfl (Nat.le_of_ble_eq_true rfl)) rfl rfl rfl ?_
  refine me3 (pc' := 48) dm_X2_copyOf_47 (g_aastn (le_ (n := 2) (u := 100) (v := 25) (j := 2) hn rfl hv rfl) (se (n := 2) (u := 100) (v := 25) (j := 2) hn rfl hv _) rfl (by decide) (Nat.le_of_ble_eq_true rfl)) rfl rfl rfl ?_
  refine me1 (pc' := 49) dm_X2_copyOf_48 rfl rfl rfl rfl ?_
  refine me3 (pc' := 52) dm_X2_copyOf_49 (g_get (v := .ref 130) (le_ (n := 2) (u := 100) (v := 25) (j := 0) hn rfl hv rfl) rfl rfl (Nat.le_of_ble_eq_true rfl)) rfl rfl rfl ?_
  refine me1 (pc' := 53) dm_X2_copyOf_52 rfl rfl rfl rfl ?_
  refine me1 (pc' := 54) dm_X2_copyOf_53 rfl rfl rfl rfl ?_
  refine me3 (pc' := 57) dm_X2_copyOf_54 (g_get (v := .ref 7) (lu (n := 2) (j := 2) hn rfl) rfl rfl (Nat.le_of_ble_eq_true rfl)) rfl rfl rfl ?_
  refine me1 (pc' := 58) dm_X2_copyOf_57 rfl rfl rfl rfl ?_
  refine me3 (pc' := 59) dm_X2_copyOf_58 (g_lald (v := (0 : Int64)) (lu (n := 2) (j := 5) hn rfl) rfl (by decide) rfl (Nat.le_of_ble_eq_true rfl)) rfl rfl rfl ?_
  refine me3 (pc' := 60) dm_X2_copyOf_59 (g_last (le_ (n := 2) (u := 100) (v := 25) (j := 3) hn rfl hv rfl) (se (n := 2) (u := 100) (v := 25) (j := 3) hn rfl hv _) rfl (by decide) (Nat.le_of_ble_eq_true rfl)) rfl rfl rfl ?_
  refine me1 (pc' := 61) dm_X2_copyOf_60 rfl rfl rfl rfl ?_
  refine me3 (pc' := 64) dm_X2_copyOf_61 (g_get (v := .ref 131) (le_ (n := 2) (u := 100) (v := 25) (j := 0) hn rfl hv rfl) rfl rfl (Nat.le_of_ble_eq_true rfl)) rfl rfl rfl ?_
  refine me1 (pc' := 65) dm_X2_copyOf_64 rfl rfl rfl rfl ?_
  refine me1 (pc' := 66) dm_X2_copyOf_65 rfl rfl rfl rfl ?_
  refine me3 (pc' := 69) dm_X2_copyOf_66 (g_get (v := .ref 8) (lu (n := 2) (j := 2) hn rfl) rfl rfl (Nat.le_of_ble_eq_true rfl)) rfl rfl rfl ?_
  refine me1 (pc' := 70) dm_X2_copyOf_69 rfl rfl rfl rfl ?_
  refine me3 (pc' := 71) dm_X2_copyOf_70 (g_aald (v := .null) (lu (n := 2) (j := 6) hn rfl) rfl (by decide) rfl (Nat.le_of_ble_eq_true rfl)) rfl rfl rfl ?_
  refine me3 (pc' := 72) dm_X2_copyOf_71 (g_aastn (le_ (n := 2) (u := 100) (v := 25) (j := 4) hn rfl hv rfl) (se (n := 2) (u := 100) (v := 25) (j := 4) hn rfl hv _) rfl (by decide) (Nat.le_of_ble_eq_true rfl)) rfl rfl rfl ?_
  refine me1 (pc' := 75) (L' := [(2, .int (36 : Int32)), (0, .ref 127), (1, .ref 4)]) dm_X2_copyOf_72 rfl rfl rfl rfl ?_
  refine me2 (pc' := 18) dm_X2_copyOf_75 rfl rfl rfl ?_
  refine me1 (pc' := 19) dm_X2_copyOf_18 rfl rfl rfl rfl ?_
  refine me0 (pc' := 21) (S' := .int (40 : Int32) :: _) dm_X2_copyOf_19 rfl rfl rfl rfl ?_
  refine me_2f (pc' := 24) dm_X2_copyOf_21 rfl (by decide) rfl ?_
  refine me1 (pc' := 25) dm_X2_copyOf_24 rfl rfl rfl rfl ?_
  refine me3 (pc' := 28) dm_X2_copyOf_25 (g_get (v := .ref 128) (le_ (n := 2) (u := 100) (v := 25) (j := 0) hn rfl hv rfl) rfl rfl (Nat.le_of_ble_eq_true rfl)) rfl rfl rfl ?_
  refine me1 (pc' := 29) dm_X2_copyOf_28 rfl rfl rfl rfl ?_
  refine me1 (pc' := 30) dm_X2_copyOf_29 rfl rfl rfl rfl ?_
  refine me3 (pc' := 33) dm_X2_copyOf_30 (g_get (v := .ref 5) (lu (n := 2) (j := 2) hn rfl) rfl rfl (Nat.le_of_ble_eq_true rfl)) rfl rfl rfl ?_
  refine me1 (pc' := 34) dm_X2_copyOf_33 rfl rfl rfl rfl ?_
  refine me3 (pc' := 35) dm_X2_copyOf_34 (g_lald (v := (0 : Int64)) (lu (n := 2) (j := 3) hn rfl) rfl (by decide) rfl (Nat.le_of_ble_eq_true rfl)) rfl rfl rfl ?_
  refine me3 (pc' := 36) dm_X2_copyOf_35 (g_last (le_ (n := 2) (u := 100) (v := 25) (j := 1) hn rfl hv rfl) (se (n := 2) (u := 100) (v := 25) (j := 1) hn rfl hv _) rfl (by decide) (Nat.le_of_ble_eq_true rfl)) rfl rfl rfl ?_
  refine me1 (pc' := 37) dm_X2_copyOf_36 rfl rfl rfl rfl ?_
  refine me3 (pc' := 40) dm_X2_copyOf_37 (g_get (v := .ref 129) (le_ (n := 2) (u := 100) (v := 25) (j := 0) hn rfl hv rfl) rfl rfl (Nat.le_of_ble_eq_true rfl)) rfl rfl rfl ?_
  refine me1 (pc' := 41) dm_X2_copyOf_40 rfl rfl rfl rfl ?_
  refine me1 (pc' := 42) dm_X2_copyOf_41 rfl rfl rfl rfl ?_
  refine me3 (pc' := 45) dm_X2_copyOf_42 (g_get (v := .ref 6) (lu (n := 2) (j := 2) hn rfl) rfl rfl (Nat.le_of_ble_eq_true rfl)) rfl rfl rfl ?_
  refine me1 (pc' := 46) dm_X2_copyOf_45 rfl rfl rfl rfl ?_
  refine me3 (pc' := 47) dm_X2_copyOf_46 (g_aald (v := .null) (lu (n := 2) (j := 4) hn rfl) rfl (by decide) rfl (Nat.le_of_ble_eq_true rfl)) rfl rfl rfl ?_
  refine me3 (pc' := 48) dm_X2_copyOf_47 (g_aastn (le_ (n := 2) (u := 100) (v := 25) (j := 2) hn rfl hv rfl) (se (n := 2) (u := 100) (v := 25) (j := 2) hn rfl hv _) rfl (by decide) (Nat.le_of_ble_eq_true rfl)) rfl rfl rfl ?_
  refine me1 (pc' := 49) dm_X2_copyOf_48 rfl rfl rfl rfl ?_
  refine me3 (pc' := 52) dm_X2_copyOf_49 (g_get (v := .ref 130) (le_ (n := 2) (u := 100) (v := 25) (j := 0) hn rfl hv rfl) rfl rfl (Nat.le_of_ble_eq_true rfl)) rfl rfl rfl ?_
  refine me1 (pc' := 53) dm_X2_copyOf_52 rfl rfl rfl rfl ?_
  refine me1 (pc' := 54) dm_X2_copyOf_53 rfl rfl rfl rfl ?_
  refine me3 (pc' := 57) dm_X2_copyOf_54 (g_get (v := .ref 7) (lu (n := 2) (j := 2) hn rfl) rfl rfl (Nat.le_of_ble_eq_true rfl)) rfl rfl rfl ?_
  refine me1 (pc' := 58) dm_X2_copyOf_57 rfl rfl rfl rfl ?_
  refine me3 (pc' := 59) dm_X2_copyOf_58 (g_lald (v := (0 : Int64)) (lu (n := 2) (j := 5) hn rfl) rfl (by decide) rfl (Nat.le_of_ble_eq_true rfl)) rfl rfl rfl ?_
  refine me3 (pc' := 60) dm_X2_copyOf_59 (g_last (le_ (n := 2) (u := 100) (v := 25) (j := 3) hn rfl hv rfl) (se (n := 2) (u := 100) (v := 25) (j := 3) hn rfl hv _) rfl (by decide) (Nat.le_of_ble_eq_true rfl)) rfl rfl rfl ?_
  refine me1 (pc' := 61) dm_X2_copyOf_60 rfl rfl rfl rfl ?_
  refine me3 (pc' := 64) dm_X2_copyOf_61 (g_get (v := .ref 131) (le_ (n := 2) (u := 100) (v := 25) (j := 0) hn rfl hv rfl) rfl rfl (Nat.le_of_ble_eq_true rfl)) rfl rfl rfl ?_
  refine me1 (pc' := 65) dm_X2_copyOf_64 rfl rfl rfl rfl ?_
  refine me1 (pc' := 66) dm_X2_copyOf_65 rfl rfl rfl rfl ?_
  refine me3 (pc' := 69) dm_X2_copyOf_66 (g_get (v := .ref 8) (lu (n := 2) (j := 2) hn rfl) rfl rfl (Nat.le_of_ble_eq_true rfl)) rfl rfl rfl ?_
  refine me1 (pc' := 70) dm_X2_copyOf_69 rfl rfl rfl rfl ?_
  refine me3 (pc' := 71) dm_X2_copyOf_70 (g_aald (v := .null) (lu (n := 2) (j := 6) hn rfl) rfl (by decide) rfl (Nat.le_of_ble_eq_true rfl)) rfl rfl rfl ?_
  refine me3 (pc' := 72) dm_X2_copyOf_71 (g_aastn (le_ (n := 2) (u := 100) (v := 25) (j := 4) hn rfl hv rfl) (se (n := 2) (u := 100) (v := 25) (j := 4) hn rfl hv _) rfl (by decide) (Nat.le_of_ble_eq_true rfl)) rfl rfl rfl ?_
  refine me1 (pc' := 75) (L' := [(2, .int (37 : Int32)), (0, .ref 127), (1, .ref 4)]) dm_X2_copyOf_72 rfl rfl rfl rfl ?_
  refine me2 (pc' := 18) dm_X2_copyOf_75 rfl rfl rfl ?_
  refine me1 (pc' := 19) dm_X2_copyOf_18 rfl rfl rfl rfl ?_
  refine me0 (pc' := 21) (S' := .int (40 : Int32) :: _) dm_X2_copyOf_19 rfl rfl rfl rfl ?_
  refine me_2f (pc' := 24) dm_X2_copyOf_21 rfl (by decide) rfl ?_
  refine me1 (pc' := 25) dm_X2_copyOf_24 rfl rfl rfl rfl ?_
  refine me3 (pc' := 28) dm_X2_copyOf_25 (g_get (v := .ref 128) (le_ (n := 2) (u := 100) (v := 25) (j := 0) hn rfl hv rfl) rfl rfl (Nat.le_of_ble_eq_true rfl)) rfl rfl rfl ?_
  refine me1 (pc' := 29) dm_X2_copyOf_28 rfl rfl rfl rfl ?_
  refine me1 (pc' := 30) dm_X2_copyOf_29 rfl rfl rfl rfl ?_
  refine me3 (pc' := 33) dm_X2_copyOf_30 (g_get (v := .ref 5) (lu (n := 2) (j := 2) hn rfl) rfl rfl (Nat.le_of_ble_eq_true rfl)) rfl rfl rfl ?_
  refine me1 (pc' := 34) dm_X2_copyOf_33 rfl rfl rfl rfl ?_
  refine me3 (pc' := 35) dm_X2_copyOf_34 (g_lald (v := (0 : Int64)) (lu (n := 2) (j := 3) hn rfl) rfl (by decide) rfl (Nat.le_of_ble_eq_true rfl)) rfl rfl rfl ?_
  refine me3 (pc' := 36) dm_X2_copyOf_35 (g_last (le_ (n := 2) (u := 100) (v := 25) (j := 1) hn rfl hv rfl) (se (n := 2) (u := 100) (v := 25) (j := 1) hn rfl hv _) rfl (by decide) (Nat.le_of_ble_eq_true rfl)) rfl rfl rfl ?_
  refine me1 (pc' := 37) dm_X2_copyOf_36 rfl rfl rfl rfl ?_
  refine me3 (pc' := 40) dm_X2_copyOf_37 (g_get (v := .ref 129) (le_ (n := 2) (u := 100) (v := 25) (j := 0) hn rfl hv rfl) rfl rfl (Nat.le_of_ble_eq_true rfl)) rfl rfl rfl ?_
  refine me1 (pc' := 41) dm_X2_copyOf_40 rfl rfl rfl rfl ?_
  refine me1 (pc' := 42) dm_X2_copyOf_41 rfl rfl rfl rfl ?_
  refine me3 (pc' := 45) dm_X2_copyOf_42 (g_get (v := .ref 6) (lu (n := 2) (j := 2) hn rfl) rfl rfl (Nat.le_of_ble_eq_true rfl)) rfl rfl rfl ?_
  refine me1 (pc' := 46) dm_X2_copyOf_45 rfl rfl rfl rfl ?_
  refine me3 (pc' := 47) dm_X2_copyOf_46 (g_aald (v := .null) (lu (n := 2) (j := 4) hn rfl) rfl (by decide) rfl (Nat.le_of_ble_eq_true rfl)) rfl rfl rfl ?_
  refine me3 (pc' := 48) dm_X2_copyOf_47 (g_aastn (le_ (n := 2) (u := 100) (v := 25) (j := 2) hn rfl hv rfl) (se (n := 2) (u := 100) (v := 25) (j := 2) hn rfl hv _) rfl (by decide) (Nat.le_of_ble_eq_true rfl)) rfl rfl rfl ?_
  refine me1 (pc' := 49) dm_X2_copyOf_48 rfl rfl rfl rfl ?_
  refine me3 (pc' := 52) dm_X2_copyOf_49 (g_get (v := .ref 130) (le_ (n := 2) (u := 100) (v := 25) (j := 0) hn rfl hv rfl) rfl rfl (Nat.le_of_ble_eq_true rfl)) rfl rfl rfl ?_
  refine me1 (pc' := 53) dm_X2_copyOf_52 rfl rfl rfl rfl ?_
  refine me1 (pc' := 54) dm_X2_copyOf_53 rfl rfl rfl rfl ?_
  refine me3 (pc' := 57) dm_X2_copyOf_54 (g_get (v := .ref 7) (lu (n := 2) (j := 2) hn rfl) rfl rfl (Nat.le_of_ble_eq_true rfl)) rfl rfl rfl ?_
  refine me1 (pc' := 58) dm_X2_copyOf_57 rfl rfl rfl rfl ?_
  refine me3 (pc' := 59) dm_X2_copyOf_58 (g_lald (v := (0 : Int64)) (lu (n := 2) (j := 5) hn rfl) rfl (by decide) rfl (Nat.le_of_ble_eq_true rfl)) rfl rfl rfl ?_
  refine me3 (pc' := 60) dm_X2_copyOf_59 (g_last (le_ (n := 2) (u := 100) (v := 25) (j := 3) hn rfl hv rfl) (se (n := 2) (u := 100) (v := 25) (j := 3) hn rfl hv _) rfl (by decide) (Nat.le_of_ble_eq_true rfl)) rfl rfl rfl ?_
  refine me1 (pc' := 61) dm_X2_copyOf_60 rfl rfl rfl rfl ?_
  refine me3 (pc' := 64) dm_X2_copyOf_61 (g_get (v := .ref 131) (le_ (n := 2) (u := 100) (v := 25) (j := 0) hn rfl hv rfl) rfl rfl (Nat.le_of_ble_eq_true rfl)) rfl rfl rfl ?_
  refine me1 (pc' := 65) dm_X2_copyOf_64 rfl rfl rfl rfl ?_
  refine me1 (pc' := 66) dm_X2_copyOf_65 rfl rfl rfl rfl ?_
  refine me3 (pc' := 69) dm_X2_copyOf_66 (g_get (v := .ref 8) (lu (n := 2) (j := 2) hn rfl) rfl rfl (Nat.le_of_ble_eq_true rfl)) rfl rfl rfl ?_
  refine me1 (pc' := 70) dm_X2_copyOf_69 rfl rfl rfl rfl ?_
  refine me3 (pc' := 71) dm_X2_copyOf_70 (g_aald (v := .null) (lu (n := 2) (j := 6) hn rfl) rfl (by decide) rfl (Nat.le_of_ble_eq_true rfl)) rfl rfl rfl ?_
  refine me3 (pc' := 72) dm_X2_copyOf_71 (g_aastn (le_ (n := 2) (u := 100) (v := 25) (j := 4) hn rfl hv rfl) (se (n := 2) (u := 100) (v := 25) (j := 4) hn rfl hv _) rfl (by decide) (Nat.le_of_ble_eq_true rfl)) rfl rfl rfl ?_
  refine me1 (pc' := 75) (L' := [(2, .int (38 : Int32)), (0, .ref 127), (1, .ref 4)]) dm_X2_copyOf_72 rfl rfl rfl rfl ?_
  refine me2 (pc' := 18) dm_X2_copyOf_75 rfl rfl rfl ?_
  refine me1 (pc' := 19) dm_X2_copyOf_18 rfl rfl rfl rfl ?_
  refine me0 (pc' := 21) (S' := .int (40 : Int32) :: _) dm_X2_copyOf_19 rfl rfl rfl rfl ?_
  refine me_2f (pc' := 24) dm_X2_copyOf_21 rfl (by decide) rfl ?_
  refine me1 (pc' := 25) dm_X2_copyOf_24 rfl rfl rfl rfl ?_
  refine me3 (pc' := 28) dm_X2_copyOf_25 (g_get (v := .ref 128) (le_ (n := 2) (u := 100) (v := 25) (j := 0) hn rfl hv rfl) rfl rfl (Nat.le_of_ble_eq_true rfl)) rfl rfl rfl ?_
  refine me1 (pc' := 29) dm_X2_copyOf_28 rfl rfl rfl rfl ?_
  refine me1 (pc' := 30) dm_X2_copyOf_29 rfl rfl rfl rfl ?_
  refine me3 (pc' := 33) dm_X2_copyOf_30 (g_get (v := .ref 5) (lu (n := 2) (j := 2) hn rfl) rfl rfl (Nat.le_of_ble_eq_true rfl)) rfl rfl rfl ?_
  refine me1 (pc' := 34) dm_X2_copyOf_33 rfl rfl rfl rfl ?_
  refine me3 (pc' := 35) dm_X2_copyOf_34 (g_lald (v := (0 : Int64)) (lu (n := 2) (j := 3) hn rfl) rfl (by decide) rfl (Nat.le_of_ble_eq_true rfl)) rfl rfl rfl ?_
  refine me3 (pc' := 36) dm_X2_copyOf_35 (g_last (le_ (n := 2) (u := 100) (v := 25) (j := 1) hn rfl hv rfl) (se (n := 2) (u := 100) (v := 25) (j := 1) hn rfl hv _) rfl (by decide) (Nat.le_of_ble_eq_true rfl)) rfl rfl rfl ?_
  refine me1 (pc' := 37) dm_X2_copyOf_36 rfl rfl rfl rfl ?_
  refine me3 (pc' := 40) dm_X2_copyOf_37 (g_get (v := .ref 129) (le_ (n := 2) (u := 100) (v := 25) (j := 0) hn rfl hv rfl) rfl rfl (Nat.le_of_ble_eq_true rfl)) rfl rfl rfl ?_
  refine me1 (pc' := 41) dm_X2_copyOf_40 rfl rfl rfl rfl ?_
  refine me1 (pc' := 42) dm_X2_copyOf_41 rfl rfl rfl rfl ?_
  refine me3 (pc' := 45) dm_X2_copyOf_42 (g_get (v := .ref 6) (lu (n := 2) (j := 2) hn rfl) rfl rfl (Nat.le_of_ble_eq_true rfl)) rfl rfl rfl ?_
  refine me1 (pc' := 46) dm_X2_copyOf_45 rfl rfl rfl rfl ?_
  refine me3 (pc' := 47) dm_X2_copyOf_46 (g_aald (v := .null) (lu (n := 2) (j := 4) hn rfl) rfl (by decide) rfl (Nat.le_of_ble_eq_true rfl)) rfl rfl rfl ?_
  refine me3 (pc' := 48) dm_X2_copyOf_47 (g_aastn (le_ (n := 2) (u := 100) (v := 25) (j := 2) hn rfl hv rfl) (se (n := 2) (u := 100) (v := 25) (j := 2) hn rfl hv _) rfl (by decide) (Nat.le_of_ble_eq_true rfl)) rfl rfl rfl ?_
  refine me1 (pc' := 49) dm_X2_copyOf_48 rfl rfl rfl rfl ?_
  refine me3 (pc' := 52) dm_X2_copyOf_49 (g_get (v := .ref 130) (le_ (n := 2) (u := 100) (v := 25) (j := 0) hn rfl hv rfl) rfl rfl (Nat.le_of_ble_eq_true rfl)) rfl rfl rfl ?_
  refine me1 (pc' := 53) dm_X2_copyOf_52 rfl rfl rfl rfl ?_
  refine me1 (pc' := 54) dm_X2_copyOf_53 rfl rfl rfl rfl ?_
  refine me3 (pc' := 57) dm_X2_copyOf_54 (g_get (v := .ref 7) (lu (n := 2) (j := 2) hn rfl) rfl rfl (Nat.le_of_ble_eq_true rfl)) rfl rfl rfl ?_
  refine me1 (pc' := 58) dm_X2_copyOf_57 rfl rfl rfl rfl ?_
  refine me3 (pc' := 59) dm_X2_copyOf_58 (g_lald (v := (0 : Int64)) (lu (n := 2) (j := 5) hn rfl) rfl (by decide) rfl (Nat.le_of_ble_eq_true rfl)) rfl rfl rfl ?_
  refine me3 (pc' := 60) dm_X2_copyOf_59 (g_last (le_ (n := 2) (u := 100) (v := 25) (j := 3) hn rfl hv rfl) (se (n := 2) (u := 100) (v := 25) (j := 3) hn rfl hv _) rfl (by decide) (Nat.le_of_ble_eq_true rfl)) rfl rfl rfl ?_
  refine me1 (pc' := 61) dm_X2_copyOf_60 rfl rfl rfl rfl ?_
  refine me3 (pc' := 64) dm_X2_copyOf_61 (g_get (v := .ref 131) (le_ (n := 2) (u := 100) (v := 25) (j := 0) hn rfl hv rfl) rfl rfl (Nat.le_of_ble_eq_true rfl)) rfl rfl rfl ?_
  refine me1 (pc' := 65) dm_X2_copyOf_64 rfl rfl rfl rfl ?_
  refine me1 (pc' := 66) dm_X2_copyOf_65 rfl rfl rfl rfl ?_
  refine me3 (pc' := 69) dm_X2_copyOf_66 (g_get (v := .ref 8) (lu (n := 2) (j := 2) hn rfl) rfl rfl (Nat.le_of_ble_eq_true rfl)) rfl rfl rfl ?_
  refine me1 (pc' := 70) dm_X2_copyOf_69 rfl rfl rfl rfl ?_
  refine me3 (pc' := 71) dm_X2_copyOf_70 (g_aald (v := .null) (lu (n := 2) (j := 6) hn rfl) rfl (by decide) rfl (Nat.le_of_ble_eq_true rfl)) rfl rfl rfl ?_
  refine me3 (pc' := 72) dm_X2_copyOf_71 (g_aastn (le_ (n := 2) (u := 100) (v := 25) (j := 4) hn rfl hv rfl) (se (n := 2) (u := 100) (v := 25) (j := 4) hn rfl hv _) rfl (by decide) (Nat.le_of_ble_eq_true rfl)) rfl rfl rfl ?_
  refine me1 (pc' := 75) (L' := [(2, .int (39 : Int32)), (0, .ref 127), (1, .ref 4)]) dm_X2_copyOf_72 rfl rfl rfl rfl ?_
  refine me2 (pc' := 18) dm_X2_copyOf_75 rfl rfl rfl ?_
  refine me1 (pc' := 19) dm_X2_copyOf_18 rfl rfl rfl rfl ?_
  refine me0 (pc' := 21) (S' := .int (40 : Int32) :: _) dm_X2_copyOf_19 rfl rfl rfl rfl ?_
  refine me_2f (pc' := 24) dm_X2_copyOf_21 rfl (by decide) rfl ?_
  refine me1 (pc' := 25) dm_X2_copyOf_24 rfl rfl rfl rfl ?_
  refine me3 (pc' := 28) dm_X2_copyOf_25 (g_get (v := .ref 128) (le_ (n := 2) (u := 100) (v := 25) (j := 0) hn rfl hv rfl) rfl rfl (Nat.le_of_ble_eq_true rfl)) rfl rfl rfl ?_
  refine me1 (pc' := 29) dm_X2_copyOf_28 rfl rfl rfl rfl ?_
  refine me1 (pc' := 30) dm_X2_copyOf_29 rfl rfl rfl rfl ?_
  refine me3 (pc' := 33) dm_X2_copyOf_30 (g_get (v := .ref 5) (lu (n := 2) (j := 2) hn rfl) rfl rfl (Nat.le_of_ble_eq_true rfl)) rfl rfl rfl ?_
  refine me1 (pc' := 34) dm_X2_copyOf_33 rfl rfl rfl rfl ?_
  refine me3 (pc' := 35) dm_X2_copyOf_34 (g_lald (v := (0 : Int64)) (lu (n := 2) (j := 3) hn rfl) rfl (by decide) rfl (Nat.le_of_ble_eq_true rfl)) rfl rfl rfl ?_
  refine me3 (pc' := 36) dm_X2_copyOf_35 (g_last (le_ (n := 2) (u := 100) (v := 25) (j := 1) hn rfl hv rfl) (se (n := 2) (u := 100) (v := 25) (j := 1) hn rfl hv _) rfl (by decide) (Nat.le_of_ble_eq_true rfl)) rfl rfl rfl ?_
  refine me1 (pc' := 37) dm_X2_copyOf_36 rfl rfl rfl rfl ?_
  refine me3 (pc' := 40) dm_X2_copyOf_37 (g_get (v := .ref 129) (le_ (n := 2) (u := 100) (v := 25) (j := 0) hn rfl hv rfl) rfl rfl (Nat.le_of_ble_eq_true rfl)) rfl rfl rfl ?_
  refine me1 (pc' := 41) dm_X2_copyOf_40 rfl rfl rfl rfl ?_
  refine me1 (pc' := 42) dm_X2_copyOf_41 rfl rfl rfl rfl ?_
  refine me3 (pc' := 45) dm_X2_copyOf_42 (g_get (v := .ref 6) (lu (n := 2) (j := 2) hn rfl) rfl rfl (Nat.le_of_ble_eq_true rfl)) rfl rfl rfl ?_
  refine me1 (pc' := 46) dm_X2_copyOf_45 rfl rfl rfl rfl ?_
  refine me3 (pc' := 47) dm_X2_copyOf_46 (g_aald (v := .null) (lu (n := 2) (j := 4) hn rfl) rfl (by decide) rfl (Nat.le_of_ble_eq_true rfl)) rfl rfl rfl ?_
  refine me3 (pc' := 48) dm_X2_copyOf_47 (g_aastn (le_ (n := 2) (u := 100) (v := 25) (j := 2) hn rfl hv rfl) (se (n := 2) (u := 100) (v := 25) (j := 2) hn rfl hv _) rfl (by decide) (Nat.le_of_ble_eq_true rfl)) rfl rfl rfl ?_
  refine me1 (pc' := 49) dm_X2_copyOf_48 rfl rfl rfl rfl ?_
  refine me3 (pc' := 52) dm_X2_copyOf_49 (g_get (v := .ref 130) (le_ (n := 2) (u := 100) (v := 25) (j := 0) hn rfl hv rfl) rfl rfl (Nat.le_of_ble_eq_true rfl)) rfl rfl rfl ?_
  refine me1 (pc' := 53) dm_X2_copyOf_52 rfl rfl rfl rfl ?_
  refine me1 (pc' := 54) dm_X2_copyOf_53 rfl rfl rfl rfl ?_
  refine me3 (pc' := 57) dm_X2_copyOf_54 (g_get (v := .ref 7) (lu (n := 2) (j := 2) hn rfl) rfl rfl (Nat.le_of_ble_eq_true rfl)) rfl rfl rfl ?_
  refine me1 (pc' := 58) dm_X2_copyOf_57 rfl rfl rfl rfl ?_
  refine me3 (pc' := 59) dm_X2_copyOf_58 (g_lald (v := (0 : Int64)) (lu (n := 2) (j := 5) hn rfl) rfl (by decide) rfl (Nat.le_of_ble_eq_true rfl)) rfl rfl rfl ?_
  refine me3 (pc' := 60) dm_X2_copyOf_59 (g_last (le_ (n := 2) (u := 100) (v := 25) (j := 3) hn rfl hv rfl) (se (n := 2) (u := 100) (v := 25) (j := 3) hn rfl hv _) rfl (by decide) (Nat.le_of_ble_eq_true rfl)) rfl rfl rfl ?_
  refine me1 (pc' := 61) dm_X2_copyOf_60 rfl rfl rfl rfl ?_
  refine me3 (pc' := 64) dm_X2_copyOf_61 (g_get (v := .ref 131) (le_ (n := 2) (u := 100) (v := 25) (j := 0) hn rfl hv rfl) rfl rfl (Nat.le_of_ble_eq_true rfl)) rfl rfl rfl ?_
  refine me1 (pc' := 65) dm_X2_copyOf_64 rfl rfl rfl rfl ?_
  refine me1 (pc' := 66) dm_X2_copyOf_65 rfl rfl rfl rfl ?_
  refine me3 (pc' := 69) dm_X2_copyOf_66 (g_get (v := .ref 8) (lu (n := 2) (j := 2) hn rfl) rfl rfl (Nat.le_of_ble_eq_true rfl)) rfl rfl rfl ?_
  refine me1 (pc' := 70) dm_X2_copyOf_69 rfl rfl rfl rfl ?_
  refine me3 (pc' := 71) dm_X2_copyOf_70 (g_aald (v := .null) (lu (n := 2) (j := 6) hn rfl) rfl (by decide) rfl (Nat.le_of_ble_eq_true rfl)) rfl rfl rfl ?_
  refine me3 (pc' := 72) dm_X2_copyOf_71 (g_aastn (le_ (n := 2) (u := 100) (v := 25) (j := 4) hn rfl hv rfl) (se (n := 2) (u := 100) (v := 25) (j := 4) hn rfl hv _) rfl (by decide) (Nat.le_of_ble_eq_true rfl)) rfl rfl rfl ?_
  refine me1 (pc' := 75) (L' := [(2, .int (40 : Int32)), (0, .ref 127), (1, .ref 4)]) dm_X2_copyOf_72 rfl rfl rfl rfl ?_
  refine me2 (pc' := 18) dm_X2_copyOf_75 rfl rfl rfl ?_
  refine me1 (pc' := 19) dm_X2_copyOf_18 rfl rfl rfl rfl ?_
  refine me0 (pc' := 21) (S' := .int (40 : Int32) :: _) dm_X2_copyOf_19 rfl rfl rfl rfl ?_
  refine me_2t (pc' := 78) dm_X2_copyOf_21 rfl rfl ?_
  refine me5 dm_X2_copyOf_78 rfl rfl rfl ?_
  refine me0 (pc' := 51) (S' := .int (1 : Int32) :: _) dm_X11_keep_50 rfl rfl rfl rfl ?_
  refine me5 dm_X11_keep_51 rfl rfl rfl ?_
  exact k _ _ rfl (Nat.le_of_ble_eq_true rfl) (Nat.le_of_ble_eq_true rfl) (Nat.le_of_ble_eq_true rfl)
set_option maxRecDepth 100000 in
set_option maxHeartbeats 40000000 in
theorem c_keep_ge {xt : mj_X} {d : Nat} {h V : mj_H} (hn : h.length = 2) (hv : V.length = 25) {P : Option Value → mj_H → Prop} {p0 : Int32} (hl0 : 4 ≤ p0.toInt) (k : ∀ U D, U.length = 100 → mj_sl U ≤ 20000 → D.length ≤ 10 → mj_sl D ≤ 2000 → P (some (.int (0 : Int32))) (h ++ (U ++ (V ++ D)))) : pgE xt (d + 20) 11 2 false (Option.some FieldType.boolean) (mj_dec prog_1_method_15_code) 0 [(0, .ref 2), (1, .int p0)] [] (h ++ (cT ++ (V ++ []))) P := by
  refine me1 (pc' := 1) dm_X11_keep_0 rfl rfl rfl rfl ?_
  refine me_1f (pc' := 4) dm_X11_keep_1 rfl (cn_f_lt (c := 0) rfl (by omega)) rfl ?_
  refine me1 (pc' := 5) dm_X11_keep_4 rfl rfl rfl rfl ?_
  refine me1 (pc' := 6) dm_X11_keep_5 rfl rfl rfl rfl ?_
  refine me3 (pc' := 9) dm_X11_keep_6 (g_get (v := .ref 15) (lu (n := 2) (j := 0) hn rfl) rfl rfl (Nat.le_of_ble_eq_true rfl)) rfl rfl rfl ?_
  refine me3 (pc' := 10) dm_X11_keep_9 (g_len (v := (4 : Int32)) (lu (n := 2) (j := 13) hn rfl) rfl rfl (Nat.le_of_ble_eq_true rfl)) rfl rfl rfl ?_
  refine me_2f (pc' := 13) dm_X11_keep_10 rfl (cn_f_lt (c := 4) rfl (by omega)) rfl ?_
  refine me0 (pc' := 14) (S' := .int (0 : Int32) :: _) dm_X11_keep_13 rfl rfl rfl rfl ?_
  refine me5 dm_X11_keep_14 rfl rfl rfl ?_
  exact k _ _ rfl (Nat.le_of_ble_eq_true rfl) (Nat.le_of_ble_eq_true rfl) (Nat.le_of_ble_eq_true rfl)
