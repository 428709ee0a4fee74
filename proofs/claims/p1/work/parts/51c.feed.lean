set_option maxRecDepth 100000 in
set_option maxHeartbeats 40000000 in
theorem c_feed_any_any_any_any_any {xt : mj_X} {d : Nat} {h V : mj_H} (hn : h.length = 2) (hv : V.length = 25) {P : Option Value → mj_H → Prop} {p0 : Int32} {p1 : Int32} {p2 : Int32} {p3 : Int32} {p4 : Int32} (k : ∀ U D, U.length = 100 → mj_sl U ≤ 20000 → D.length ≤ 10 → mj_sl D ≤ 2000 → P (some (.int (20 : Int32))) (h ++ (U ++ (V ++ D)))) : pgE xt (d + 20) 11 6 false (Option.some FieldType.int) (mj_dec prog_1_method_2_code) 0 [(0, .ref 2), (1, .int p0), (2, .int p1), (3, .int p2), (4, .int p3), (5, .int p4)] [] (h ++ (cT ++ (V ++ []))) P := by
  refine me1 (pc' := 1) dm_X11_feed_0 rfl rfl rfl rfl ?_
  refine me3 (pc' := 4) dm_X11_feed_1 (g_get (v := .int (0 : Int32)) (lu (n := 2) (j := 0) hn rfl) rfl rfl (Nat.le_of_ble_eq_true rfl)) rfl rfl rfl ?_
  refine me0 (pc' := 6) (S' := .int (20 : Int32) :: _) dm_X11_feed_4 rfl rfl rfl rfl ?_
  refine me0 (pc' := 7) (S' := .int (20 : Int32) :: _) dm_X11_feed_6 rfl rfl rfl rfl ?_
  refine me0 (pc' := 10) (S' := .int (200 : Int32) :: _) dm_X11_feed_7 rfl rfl rfl rfl ?_
  refine me_2t (pc' := 15) dm_X11_feed_10 rfl rfl ?_
  refine me1 (pc' := 16) dm_X11_feed_15 rfl rfl rfl rfl ?_
  refine me1 (pc' := 17) dm_X11_feed_16 rfl rfl rfl rfl ?_
  refine me4 (pc' := 20) (L0 := [(0, .ref 2), (1, .int p0)]) dm_X11_feed_17 rfl (g_inv (As := [.int p0]) (lu (n := 2) (j := 0) hn rfl) rfl rfl rfl (Nat.le_of_ble_eq_true rfl)) pm_X11_putBytes rfl (Nat.le_of_ble_eq_true rfl) rfl rfl rfl ?_
  refine me0 (pc' := 2) (S' := .int (24 : Int32) :: _) dm_X11_putBytes_0 rfl rfl rfl rfl ?_
  refine me1 (pc' := 3) (L' := [(2, .int (24 : Int32)), (0, .ref 2), (1, .int p0)]) dm_X11_putBytes_2 rfl rfl rfl rfl ?_
  refine me1 (pc' := 4) dm_X11_putBytes_3 rfl rfl rfl rfl ?_
  refine me_1f (pc' := 7) dm_X11_putBytes_4 rfl (by decide) rfl ?_
  refine me1 (pc' := 8) dm_X11_putBytes_7 rfl rfl rfl rfl ?_
  refine me3 (pc' := 11) dm_X11_putBytes_8 (g_get (v := .int (0 : Int32)) (lu (n := 2) (j := 0) hn rfl) rfl rfl (Nat.le_of_ble_eq_true rfl)) rfl rfl rfl ?_
  refine me1 (pc' := 12) dm_X11_putBytes_11 rfl rfl rfl rfl ?_
  refine me3 (pc' := 15) dm_X11_putBytes_12 (g_get (v := .ref 3) (lu (n := 2) (j := 0) hn rfl) rfl rfl (Nat.le_of_ble_eq_true rfl)) rfl rfl rfl ?_
  refine me3 (pc' := 16) dm_X11_putBytes_15 (g_len (v := (200 : Int32)) (lu (n := 2) (j := 1) hn rfl) rfl rfl (Nat.le_of_ble_eq_true rfl)) rfl rfl rfl ?_
  refine me_2f (pc' := 19) dm_X11_putBytes_16 rfl (by decide) rfl ?_
  refine me1 (pc' := 20) dm_X11_putBytes_19 rfl rfl rfl rfl ?_
  refine me3 (pc' := 23) dm_X11_putBytes_20 (g_get (v := .ref 3) (lu (n := 2) (j := 0) hn rfl) rfl rfl (Nat.le_of_ble_eq_true rfl)) rfl rfl rfl ?_
  refine me1 (pc' := 24) dm_X11_putBytes_23 rfl rfl rfl rfl ?_
  refine me3 (pc' := 27) dm_X11_putBytes_24 (g_get (v := .int (0 : Int32)) (lu (n := 2) (j := 0) hn rfl) rfl rfl (Nat.le_of_ble_eq_true rfl)) rfl rfl rfl ?_
  refine me1 (pc' := 28) dm_X11_putBytes_27 rfl rfl rfl rfl ?_
  refine me1 (pc' := 29) dm_X11_putBytes_28 rfl rfl rfl rfl ?_
  refine me0 (pc' := 30) dm_X11_putBytes_29 rfl rfl rfl rfl ?_
  refine me0 (pc' := 33) (S' := .int (255 : Int32) :: _) dm_X11_putBytes_30 rfl rfl rfl rfl ?_
  refine me0 (pc' := 34) dm_X11_putBytes_33 rfl rfl rfl rfl ?_
  refine me3 (pc' := 35) dm_X11_putBytes_34 (u_iast (n := 2) (j := 1) hn rfl rfl (by decide) rfl (Nat.le_of_ble_eq_true rfl)) rfl rfl rfl ?_
  refine me1 (pc' := 36) dm_X11_putBytes_35 rfl rfl rfl rfl ?_
  refine me0 (pc' := 37) dm_X11_putBytes_36 rfl rfl rfl rfl ?_
  refine me3 (pc' := 40) dm_X11_putBytes_37 (g_get (v := .int (0 : Int32)) (lu (n := 2) (j := 0) hn rfl) rfl rfl (Nat.le_of_ble_eq_true rfl)) rfl rfl rfl ?_
  refine me0 (pc' := 41) (S' := .int (1 : Int32) :: _) dm_X11_putBytes_40 rfl rfl rfl rfl ?_
  refine me0 (pc' := 42) (S' := .int (1 : Int32) :: _) dm_X11_putBytes_41 rfl rfl rfl rfl ?_
  refine me3 (pc' := 45) dm_X11_putBytes_42 (u_put (fs' := [.ref 3, .int (1 : Int32), .ref 4, .ref 9, .ref 13, .ref 15, .ref 16, .ref 98, .ref 101, .ref 101, .int (0 : Int32), .int (-1 : Int32), .int (0 : Int32)]) (n := 2) (j := 0) hn rfl rfl rfl (Nat.le_of_ble_eq_true rfl) rfl (by decide) (fun z => by cases z) rfl (Nat.le_of_ble_eq_true rfl)) rfl rfl rfl ?_
  refine me1 (pc' := 48) (L' := [(2, .int (16 : Int32)), (0, .ref 2), (1, .int p0)]) dm_X11_putBytes_45 rfl rfl rfl rfl ?_
  refine me2 (pc' := 3) dm_X11_putBytes_48 rfl rfl rfl ?_
  refine me1 (pc' := 4) dm_X11_putBytes_3 rfl rfl rfl rfl ?_
  refine me_1f (pc' := 7) dm_X11_putBytes_4 rfl (by decide) rfl ?_
  refine me1 (pc' := 8) dm_X11_putBytes_7 rfl rfl rfl rfl ?_
  refine me3 (pc' := 11) dm_X11_putBytes_8 (g_get (v := .int (1 : Int32)) (lu (n := 2) (j := 0) hn rfl) rfl rfl (Nat.le_of_ble_eq_true rfl)) rfl rfl rfl ?_
  refine me1 (pc' := 12) dm_X11_putBytes_11 rfl rfl rfl rfl ?_
  refine me3 (pc' := 15) dm_X11_putBytes_12 (g_get (v := .ref 3) (lu (n := 2) (j := 0) hn rfl) rfl rfl (Nat.le_of_ble_eq_true rfl)) rfl rfl rfl ?_
  refine me3 (pc' := 16) dm_X11_putBytes_15 (g_len (v := (200 : Int32)) (lu (n := 2) (j := 1) hn rfl) rfl rfl (Nat.le_of_ble_eq_true rfl)) rfl rfl rfl ?_
  refine me_2f (pc' := 19) dm_X11_putBytes_16 rfl (by decide) rfl ?_
  refine me1 (pc' := 20) dm_X11_putBytes_19 rfl rfl rfl rfl ?_
  refine me3 (pc' := 23) dm_X11_putBytes_20 (g_get (v := .ref 3) (lu (n := 2) (j := 0) hn rfl) rfl rfl (Nat.le_of_ble_eq_true rfl)) rfl rfl rfl ?_
  refine me1 (pc' := 24) dm_X11_putBytes_23 rfl rfl rfl rfl ?_
  refine me3 (pc' := 27) dm_X11_putBytes_24 (g_get (v := .int (1 : Int32)) (lu (n := 2) (j := 0) hn rfl) rfl rfl (Nat.le_of_ble_eq_true rfl)) rfl rfl rfl ?_
  refine me1 (pc' := 28) dm_X11_putBytes_27 rfl rfl rfl rfl ?_
  refine me1 (pc' := 29) dm_X11_putBytes_28 rfl rfl rfl rfl ?_
  refine me0 (pc' := 30) dm_X11_putBytes_29 rfl rfl rfl rfl ?_
  refine me0 (pc' := 33) (S' := .int (255 : Int32) :: _) dm_X11_putBytes_30 rfl rfl rfl rfl ?_
  refine me0 (pc' := 34) dm_X11_putBytes_33 rfl rfl rfl rfl ?_
  refine me3 (pc' := 35) dm_X11_putBytes_34 (u_iast (n := 2) (j := 1) hn rfl rfl (by decide) (by rw [List.set_comm _ _ (by decide), List.set_set]) (Nat.le_of_ble_eq_true rfl)) rfl rfl rfl ?_
  refine me1 (pc' := 36) dm_X11_putBytes_35 rfl rfl rfl rfl ?_
  refine me0 (pc' := 37) dm_X11_putBytes_36 rfl rfl rfl rfl ?_
  refine me3 (pc' := 40) dm_X11_putBytes_37 (g_get (v := .int (1 : Int32)) (lu (n := 2) (j := 0) hn rfl) rfl rfl (Nat.le_of_ble_eq_true rfl)) rfl rfl rfl ?_
  refine me0 (pc' := 41) (S' := .int (1 : Int32) :: _) dm_X11_putBytes_40 rfl rfl rfl rfl ?_
  refine me0 (pc' := 42) (S' := .int (2 : Int32) :: _) dm_X11_putBytes_41 rfl rfl rfl rfl ?_
  refine me3 (pc' := 45) dm_X11_putBytes_42 (u_put (fs' := [.ref 3, .int (2 : Int32), .ref 4, .ref 9, .ref 13, .ref 15, .ref 16, .ref 98, .ref 101, .ref 101, .int (0 : Int32), .int (-1 : Int32), .int (0 : Int32)]) (n := 2) (j := 0) hn rfl rfl rfl (Nat.le_of_ble_eq_true rfl) rfl (by decide) (fun z => by cases z) (by rw [List.set_set]) (Nat.le_of_ble_eq_true rfl)) rfl rfl rfl ?_
  refine me1 (pc' := 48) (L' := [(2, .int (8 : Int32)), (0, .ref 2), (1, .int p0)]) dm_X11_putBytes_45 rfl rfl rfl rfl ?_
  refine me2 (pc' := 3) dm_X11_putBytes_48 rfl rfl rfl ?_
  refine me1 (pc' := 4) dm_X11_putBytes_3 rfl rfl rfl rfl ?_
  refine me_1f (pc' := 7) dm_X11_putBytes_4 rfl (by decide) rfl ?_
  refine me1 (pc' := 8) dm_X11_putBytes_7 rfl rfl rfl rfl ?_
  refine me3 (pc' := 11) dm_X11_putBytes_8 (g_get (v := .int (2 : Int32)) (lu (n := 2) (j := 0) hn rfl) rfl rfl (Nat.le_of_ble_eq_true rfl)) rfl rfl rfl ?_
  refine me1 (pc' := 12) dm_X11_putBytes_11 rfl rfl rfl rfl ?_
  refine me3 (pc' := 15) dm_X11_putBytes_12 (g_get (v := .ref 3) (lu (n := 2) (j := 0) hn rfl) rfl rfl (Nat.le_of_ble_eq_true rfl)) rfl rfl rfl ?_
  refine me3 (pc' := 16) dm_X11_putBytes_15 (g_len (v := (200 : Int32)) (lu (n := 2) (j := 1) hn rfl) rfl rfl (Nat.le_of_ble_eq_true rfl)) rfl rfl rfl ?_
  refine me_2f (pc' := 19) dm_X11_putBytes_16 rfl (by decide) rfl ?_
  refine me1 (pc' := 20) dm_X11_putBytes_19 rfl rfl rfl rfl ?_
  refine me3 (pc' := 23) dm_X11_putBytes_20 (g_get (v := .ref 3) (lu (n := 2) (j := 0) hn rfl) rfl rfl (Nat.le_of_ble_eq_true rfl)) rfl rfl rfl ?_
  refine me1 (pc' := 24) dm_X11_putBytes_23 rfl rfl rfl rfl ?_
  refine me3 (pc' := 27) dm_X11_putBytes_24 (g_get (v := .int (2 : Int32)) (lu (n := 2) (j := 0) hn rfl) rfl rfl (Nat.le_of_ble_eq_true rfl)) rfl rfl rfl ?_
  refine me1 (pc' := 28) dm_X11_putBytes_27 rfl rfl rfl rfl ?_
  refine me1 (pc' := 29) dm_X11_putBytes_28 rfl rfl rfl rfl ?_
  refine me0 (pc' := 30) dm_X11_putBytes_29 rfl rfl rfl rfl ?_
  refine me0 (pc' := 33) (S' := .int (255 : Int32) :: _) dm_X11_putBytes_30 rfl rfl rfl rfl ?_
  refine me0 (pc' := 34) dm_X11_putBytes_33 rfl rfl rfl rfl ?_
  refine me3 (pc' := 35) dm_X11_putBytes_34 (u_iast (n := 2) (j := 1) hn rfl rfl (by decide) (by rw [List.set_comm _ _ (by decide), List.set_set]) (Nat.le_of_ble_eq_true rfl)) rfl rfl rfl ?_
  refine me1 (pc' := 36) dm_X11_putBytes_35 rfl rfl rfl rfl ?_
  refine me0 (pc' := 37) dm_X11_putBytes_36 rfl rfl rfl rfl ?_
  refine me3 (pc' := 40) dm_X11_putBytes_37 (g_get (v := .int (2 : Int32)) (lu (n := 2) (j := 0) hn rfl) rfl rfl (Nat.le_of_ble_eq_true rfl)) rfl rfl rfl ?_
  refine me0 (pc' := 41) (S' := .int (1 : Int32) :: _) dm_X11_putBytes_40 rfl rfl rfl rfl ?_
  refine me0 (pc' := 42) (S' := .int (3 : Int32) :: _) dm_X11_putBytes_41 rfl rfl rfl rfl ?_
  refine me3 (pc' := 45) dm_X11_putBytes_42 (u_put (fs' := [.ref 3, .int (3 : Int32), .ref 4, .ref 9, .ref 13, .ref 15, .ref 16, .ref 98, .ref 101, .ref 101, .int (0 : Int32), .int (-1 : Int32), .int (0 : Int32)]) (n := 2) (j := 0) hn rfl rfl rfl (Nat.le_of_ble_eq_true rfl) rfl (by decide) (fun z => by cases z) (by rw [List.set_set]) (Nat.le_of_ble_eq_true rfl)) rfl rfl rfl ?_
  refine me1 (pc' := 48) (L' := [(2, .int (0 : Int32)), (0, .ref 2), (1, .int p0)]) dm_X11_putBytes_45 rfl rfl rfl rfl ?_
  refine me2 (pc' := 3) dm_X11_putBytes_48 rfl rfl rfl ?_
  refine me1 (pc' := 4) dm_X11_putBytes_3 rfl rfl rfl rfl ?_
  refine me_1f (pc' := 7) dm_X11_putBytes_4 rfl (by decide) rfl ?_
  refine me1 (pc' := 8) dm_X11_putBytes_7 rfl rfl rfl rfl ?_
  refine me3 (pc' := 11) dm_X11_putBytes_8 (g_get (v := .int (3 : Int32)) (lu (n := 2) (j := 0) hn rfl) rfl rfl (Nat.le_of_ble_eq_true rfl)) rfl rfl rfl ?_
  refine me1 (pc' := 12) dm_X11_putBytes_11 rfl rfl rfl rfl ?_
  refine me3 (pc' := 15) dm_X11_putBytes_12 (g_get (v := .ref 3) (lu (n := 2) (j := 0) hn rfl) rfl rfl (Nat.le_of_ble_eq_true rfl)) rfl rfl rfl ?_
  refine me3 (pc' := 16) dm_X11_putBytes_15 (g_len (v := (200 : Int32)) (lu (n := 2) (j := 1) hn rfl) rfl rfl (Nat.le_of_ble_eq_true rfl)) rfl rfl rfl ?_
  refine me_2f (pc' := 19) dm_X11_putBytes_16 rfl (by decide) rfl ?_
  refine me1 (pc' := 20) dm_X11_putBytes_19 rfl rfl rfl rfl ?_
  refine me3 (pc' := 23) dm_X11_putBytes_20 (g_get (v := .ref 3) (lu (n := 2) (j := 0) hn rfl) rfl rfl (Nat.le_of_ble_eq_true rfl)) rfl rfl rfl ?_
  refine me1 (pc' := 24) dm_X11_putBytes_23 rfl rfl rfl rfl ?_
  refine me3 (pc' := 27) dm_X11_putBytes_24 (g_get (v := .int (3 : Int32)) (lu (n := 2) (j := 0) hn rfl) rfl rfl (Nat.le_of_ble_eq_true rfl)) rfl rfl rfl ?_
  refine me1 (pc' := 28) dm_X11_putBytes_27 rfl rfl rfl rfl ?_
  refine me1 (pc' := 29) dm_X11_putBytes_28 rfl rfl rfl rfl ?_
  refine me0 (pc' := 30) dm_X11_putBytes_29 rfl rfl rfl rfl ?_
  refine me0 (pc' := 33) (S' := .int (255 : Int32) :: _) dm_X11_putBytes_30 rfl rfl rfl rfl ?_
  refine me0 (pc' := 34) dm_X11_putBytes_33 rfl rfl rfl rfl ?_
  refine me3 (pc' := 35) dm_X11_putBytes_34 (u_iast (n := 2) (j := 1) hn rfl rfl (by decide) (by rw [List.set_comm _ _ (by decide), List.set_set]) (Nat.le_of_ble_eq_true rfl)) rfl rfl rfl ?_
  refine me1 (pc' := 36) dm_X11_putBytes_35 rfl rfl rfl rfl ?_
  refine me0 (pc' := 37) dm_X11_putBytes_36 rfl rfl rfl rfl ?_
  refine me3 (pc' := 40) dm_X11_putBytes_37 (g_get (v := .int (3 : Int32)) (lu (n := 2) (j := 0) hn rfl) rfl rfl (Nat.le_of_ble_eq_true rfl)) rfl rfl rfl ?_
  refine me0 (pc' := 41) (S' := .int (1 : Int32) :: _) dm_X11_putBytes_40 rfl rfl rfl rfl ?_
  refine me0 (pc' := 42) (S' := .int (4 : Int32) :: _) dm_X11_putBytes_41 rfl rfl rfl rfl ?_
  refine me3 (pc' := 45) dm_X11_putBytes_42 (u_put (fs' := [.ref 3, .int (4 : Int32), .ref 4, .ref 9, .ref 13, .ref 15, .ref 16, .ref 98, .ref 101, .ref 101, .int (0 : Int32), .int (-1 : Int32), .int (0 : Int32)]) (n := 2) (j := 0) hn rfl rfl rfl (Nat.le_of_ble_eq_true rfl) rfl (by decide) (fun z => by cases z) (by rw [List.set_set]) (Nat.le_of_ble_eq_true rfl)) rfl rfl rfl ?_
  refine me1 (pc' := 48) (L' := [(2, .int (-8 : Int32)), (0, .ref 2), (1, .int p0)]) dm_X11_putBytes_45 rfl rfl rfl rfl ?_
  refine me2 (pc' := 3) dm_X11_putBytes_48 rfl rfl rfl ?_
  refine me1 (pc' := 4) dm_X11_putBytes_3 rfl rfl rfl rfl ?_
  refine me_1t (pc' := 51) dm_X11_putBytes_4 rfl rfl ?_
  refine me5 dm_X11_putBytes_51 rfl rfl rfl ?_
  refine me1 (pc' := 21) dm_X11_feed_20 rfl rfl rfl rfl ?_
  refine me1 (pc' := 22) dm_X11_feed_21 rfl rfl rfl rfl ?_
  refine me4 (pc' := 25) (L0 := [(0, .ref 2), (1, .int p1)]) dm_X11_feed_22 rfl (g_inv (As := [.int p1]) (lu (n := 2) (j := 0) hn rfl) rfl rfl rfl (Nat.le_of_ble_eq_true rfl)) pm_X11_putBytes rfl (Nat.le_of_ble_eq_true rfl) rfl rfl rfl ?_
  refine me0 (pc' := 2) (S' := .int (24 : Int32) :: _) dm_X11_putBytes_0 rfl rfl rfl rfl ?_
  refine me1 (pc' := 3) (L' := [(2, .int (24 : Int32)), (0, .ref 2), (1, .int p1)]) dm_X11_putBytes_2 rfl rfl rfl rfl ?_
  refine me1 (pc' := 4) dm_X11_putBytes_3 rfl rfl rfl rfl ?_
  refine me_1f (pc' := 7) dm_X11_putBytes_4 rfl (by decide) rfl ?_
  refine me1 (pc' := 8) dm_X11_putBytes_7 rfl rfl rfl rfl ?_
  refine me3 (pc' := 11) dm_X11_putBytes_8 (g_get (v := .int (4 : Int32)) (lu (n := 2) (j := 0) hn rfl) rfl rfl (Nat.le_of_ble_eq_true rfl)) rfl rfl rfl ?_
  refine me1 (pc' := 12) dm_X11_putBytes_11 rfl rfl rfl rfl ?_
  refine me3 (pc' := 15) dm_X11_putBytes_12 (g_get (v := .ref 3) (lu (n := 2) (j := 0) hn rfl) rfl rfl (Nat.le_of_ble_eq_true rfl)) rfl rfl rfl ?_
  refine me3 (pc' := 16) dm_X11_putBytes_15 (g_len (v := (200 : Int32)) (lu (n := 2) (j := 1) hn rfl) rfl rfl (Nat.le_of_ble_eq_true rfl)) rfl rfl rfl ?_
  refine me_2f (pc' := 19) dm_X11_putBytes_16 rfl (by decide) rfl ?_
  refine me1 (pc' := 20) dm_X11_putBytes_19 rfl rfl rfl rfl ?_
  refine me3 (pc' := 23) dm_X11_putBytes_20 (g_get (v := .ref 3) (lu (n := 2) (j := 0) hn rfl) rfl rfl (Nat.le_of_ble_eq_true rfl)) rfl rfl rfl ?_
  refine me1 (pc' := 24) dm_X11_putBytes_23 rfl rfl rfl rfl ?_
  refine me3 (pc' := 27) dm_X11_putBytes_24 (g_get (v := .int (4 : Int32)) (lu (n := 2) (j := 0) hn rfl) rfl rfl (Nat.le_of_ble_eq_true rfl)) rfl rfl rfl ?_
  refine me1 (pc' := 28) dm_X11_putBytes_27 rfl rfl rfl rfl ?_
  refine me1 (pc' := 29) dm_X11_putBytes_28 rfl rfl rfl rfl ?_
  refine me0 (pc' := 30) dm_X11_putBytes_29 rfl rfl rfl rfl ?_
  refine me0 (pc' := 33) (S' := .int (255 : Int32) :: _) dm_X11_putBytes_30 rfl rfl rfl rfl ?_
  refine me0 (pc' := 34) dm_X11_putBytes_33 rfl rfl rfl rfl ?_
  refine me3 (pc' := 35) dm_X11_putBytes_34 (u_iast (n := 2) (j := 1) hn rfl rfl (by decide) (by rw [List.set_comm _ _ (by decide), List.set_set]) (Nat.le_of_ble_eq_true rfl)) rfl rfl rfl ?_
  refine me1 (pc' := 36) dm_X11_putBytes_35 rfl rfl rfl rfl ?_
  refine me0 (pc' := 37) dm_X11_putBytes_36 rfl rfl rfl rfl ?_
  refine me3 (pc' := 40) dm_X11_putBytes_37 (g_get (v := .int (4 : Int32)) (lu (n := 2) (j := 0) hn rfl) rfl rfl (Nat.le_of_ble_eq_true rfl)) rfl rfl rfl ?_
  refine me0 (pc' := 41) (S' := .int (1 : Int32) :: _) dm_X11_putBytes_40 rfl rfl rfl rfl ?_
  refine me0 (pc' := 42) (S' := .int (5 : Int32) :: _) dm_X11_putBytes_41 rfl rfl rfl rfl ?_
  refine me3 (pc' := 45) dm_X11_putBytes_42 (u_put (fs' := [.ref 3, .int (5 : Int32), .ref 4, .ref 9, .ref 13, .ref 15, .ref 16, .ref 98, .ref 101, .ref 101, .int (0 : Int32), .int (-1 : Int32), .int (0 : Int32)]) (n := 2) (j := 0) hn rfl rfl rfl (Nat.le_of_ble_eq_true rfl) rfl (by decide) (fun z => by cases z) (by rw [List.set_set]) (Nat.le_of_ble_eq_true rfl)) rfl rfl rfl ?_
  refine me1 (pc' := 48) (L' := [(2, .int (16 : Int32)), (0, .ref 2), (1, .int p1)]) dm_X11_putBytes_45 rfl rfl rfl rfl ?_
  refine me2 (pc' := 3) dm_X11_putBytes_48 rfl rfl rfl ?_
  refine me1 (pc' := 4) dm_X11_putBytes_3 rfl rfl rfl rfl ?_
  refine me_1f (pc' := 7) dm_X11_putBytes_4 rfl (by decide) rfl ?_
  refine me1 (pc' := 8) dm_X11_putBytes_7 rfl rfl rfl rfl ?_
  refine me3 (pc' := 11) dm_X11_putBytes_8 (g_get (v := .int (5 : Int32)) (lu (n := 2) (j := 0) hn rfl) rfl rfl (Nat.le_of_ble_eq_true rfl)) rfl rfl rfl ?_
  refine me1 (pc' := 12) dm_X11_putBytes_11 rfl rfl rfl rfl ?_
  refine me3 (pc' := 15) dm_X11_putBytes_12 (g_get (v := .ref 3) (lu (n := 2) (j := 0) hn rfl) rfl rfl (Nat.le_of_ble_eq_true rfl)) rfl rfl rfl ?_
  refine me3 (pc' := 16) dm_X11_putBytes_15 (g_len (v := (200 : Int32)) (lu (n := 2) (j := 1) hn rfl) rfl rfl (Nat.le_of_ble_eq_true rfl)) rfl rfl rfl ?_
  refine me_2f (pc' := 19) dm_X11_putBytes_16 rfl (by decide) rfl ?_
  refine me1 (pc' := 20) dm_X11_putBytes_19 rfl rfl rfl rfl ?_
  refine me3 (pc' := 23) dm_X11_putBytes_20 (g_get (v := .ref 3) (lu (n := 2) (j := 0) hn rfl) rfl rfl (Nat.le_of_ble_eq_true rfl)) rfl rfl rfl ?_
  refine me1 (pc' := 24) dm_X11_putBytes_23 rfl rfl rfl rfl ?_
  refine me3 (pc' := 27) dm_X11_putBytes_24 (g_get (v := .int (5 : Int32)) (lu (n := 2) (j := 0) hn rfl) rfl rfl (Nat.le_of_ble_eq_true rfl)) rfl rfl rfl ?_
  refine me1 (pc' := 28) dm_X11_putBytes_27 rfl rfl rfl rfl ?_
  refine me1 (pc' := 29) dm_X11_putBytes_28 rfl rfl rfl rfl ?_
  refine me0 (pc' := 30) dm_X11_putBytes_29 rfl rfl rfl rfl ?_
  refine me0 (pc' := 33) (S' := .int (255 : Int32) :: _) dm_X11_putBytes_30 rfl rfl rfl rfl ?_
  refine me0 (pc' := 34) dm_X11_putBytes_33 rfl rfl rfl rfl ?_
  refine me3 (pc' := 35) dm_X11_putBytes_34 (u_iast (n := 2) (j := 1) hn rfl rfl (by decide) (by rw [List.set_comm _ _ (by decide), List.set_set]) (Nat.le_of_ble_eq_true rfl)) rfl rfl rfl ?_
  refine me1 (pc' := 36) dm_X11_putBytes_35 rfl rfl rfl rfl ?_
  refine me0 (pc' := 37) dm_X11_putBytes_36 rfl rfl rfl rfl ?_
  refine me3 (pc' := 40) dm_X11_putBytes_37 (g_get (v := .int (5 : Int32)) (lu (n := 2) (j := 0) hn rfl) rfl rfl (Nat.le_of_ble_eq_true rfl)) rfl rfl rfl ?_
  refine me0 (pc' := 41) (S' := .int (1 : Int32) :: _) dm_X11_putBytes_40 rfl rfl rfl rfl ?_
  refine me0 (pc' := 42) (S' := .int (6 : Int32) :: _) dm_X11_putBytes_41 rfl rfl rfl rfl ?_
  refine me3 (pc' := 45) dm_X11_putBytes_42 (u_put (fs' := [.ref 3, .int (6 : Int32), .ref 4, .ref 9, .ref 13, .ref 15, .ref 16, .ref 98, .ref 101, .ref 101, .int (0 : Int32), .int (-1 : Int32), .int (0 : Int32)]) (n := 2) (j := 0) hn rfl rfl rfl (Nat.le_of_ble_eq_true rfl) rfl (by decide) (fun z => by cases z) (by rw [List.set_set]) (Nat.le_of_ble_eq_true rfl)) rfl rfl rfl ?_
  refine me1 (pc' := 48) (L' := [(2, .int (8 : Int32)), (0, .ref 2), (1, .int p1)]) dm_X11_putBytes_45 rfl rfl rfl rfl ?_
  refine me2 (pc' := 3) dm_X11_putBytes_48 rfl rfl rfl ?_
  refine me1 (pc' := 4) dm_X11_putBytes_3 rfl rfl rfl rfl ?_
  refine me_1f (pc' := 7) dm_X11_putBytes_4 rfl (by decide) rfl ?_
  refine me1 (pc' := 8) dm_X11_putBytes_7 rfl rfl rfl rfl ?_
  refine me3 (pc' := 11) dm_X11_putBytes_8 (g_get (v := .int (6 : Int32)) (lu (n := 2) (j := 0) hn rfl) rfl rfl (Nat.le_of_ble_eq_true rfl)) rfl rfl rfl ?_
  refine me1 (pc' := 12) dm_X11_putBytes_11 rfl rfl rfl rfl ?_
  refine me3 (pc' := 15) dm_X11_putBytes_12 (g_get (v := .ref 3) (lu (n := 2) (j := 0) hn rfl) rfl rfl (Nat.le_of_ble_eq_true rfl)) rfl rfl rfl ?_
  refine me3 (pc' := 16) dm_X11_putBytes_15 (g_len (v := (200 : Int32)) (lu (n := 2) (j := 1) hn rfl) rfl rfl (Nat.le_of_ble_eq_true rfl)) rfl rfl rfl ?_
  refine me_2f (pc' := 19) dm_X11_putBytes_16 rfl (by decide) rfl ?_
  refine me1 (pc' := 20) dm_X11_putBytes_19 rfl rfl rfl rfl ?_
  refine me3 (pc' := 23) dm_X11_putBytes_20 (g_get (v := .ref 3) (lu (n := 2) (j := 0) hn rfl) rfl rfl (Nat.le_of_ble_eq_true rfl)) rfl rfl rfl ?_
  refine me1 (pc' := 24) dm_X11_putBytes_23 rfl rfl rfl rfl ?_
  refine me3 (pc' := 27) dm_X11_putBytes_24 (g_get (v := .int (6 : Int32)) (lu (n := 2) (j := 0) hn rfl) rfl rfl (Nat.le_of_ble_eq_true rfl)) rfl rfl rfl ?_
  refine me1 (pc' := 28) dm_X11_putBytes_27 rfl rfl rfl rfl ?_
  refine me1 (pc' := 29) dm_X11_putBytes_28 rfl rfl rfl rfl ?_
  refine me0 (pc' := 30) dm_X11_putBytes_29 rfl rfl rfl rfl ?_
  refine me0 (pc' := 33) (S' := .int (255 : Int32) :: _) dm_X11_putBytes_30 rfl rfl rfl rfl ?_
  refine me0 (pc' := 34) dm_X11_putBytes_33 rfl rfl rfl rfl ?_
  refine me3 (pc' := 35) dm_X11_putBytes_34 (u_iast (n := 2) (j := 1) hn rfl rfl (by decide) (by rw [List.set_comm _ _ (by decide), List.set_set]) (Nat.le_of_ble_eq_true rfl)) rfl rfl rfl ?_
  refine me1 (pc' := 36) dm_X11_putBytes_35 rfl rfl rfl rfl ?_
  refine me0 (pc' := 37) dm_X11_putBytes_36 rfl rfl rfl rfl ?_
  refine me3 (pc' := 40) dm_X11_putBytes_37 (g_get (v := .int (6 : Int32)) (lu (n := 2) (j := 0) hn rfl) rfl rfl (Nat.le_of_ble_eq_true rfl)) rfl rfl rfl ?_
  refine me0 (pc' := 41) (S' := .int (1 : Int32) :: _) dm_X11_putBytes_40 rfl rfl rfl rfl ?_
  refine me0 (pc' := 42) (S' := .int (7 : Int32) :: _) dm_X11_putBytes_41 rfl rfl rfl rfl ?_
  refine me3 (pc' := 45) dm_X11_putBytes_42 (u_put (fs' := [.ref 3, .int (7 : Int32), .ref 4, .ref 9, .ref 13, .ref 15, .ref 16, .ref 98, .ref 101, .ref 101, .int (0 : Int32), .int (-1 : Int32), .int (0 : Int32)]) (n := 2) (j := 0) hn rfl rfl rfl (Nat.le_of_ble_eq_true rfl) rfl (by decide) (fun z => by cases z) (by rw [List.set_set]) (Nat.le_of_ble_eq_true rfl)) rfl rfl rfl ?_
  refine me1 (pc' := 48) (L' := [(2, .int (0 : Int32)), (0, .ref 2), (1, .int p1)]) dm_X11_putBytes_45 rfl rfl rfl rfl ?_
  refine me2 (pc' := 3) dm_X11_putBytes_48 rfl rfl rfl ?_
  refine me1 (pc' := 4) dm_X11_putBytes_3 rfl rfl rfl rfl ?_
  refine me_1f (pc' := 7) dm_X11_putBytes_4 rfl (by decide) rfl ?_
  refine me1 (pc' := 8) dm_X11_putBytes_7 rfl rfl rfl rfl ?_
  refine me3 (pc' := 11) dm_X11_putBytes_8 (g_get (v := .int (7 : Int32)) (lu (n := 2) (j := 0) hn rfl) rfl rfl (Nat.le_of_ble_eq_true rfl)) rfl rfl rfl ?_
  refine me1 (pc' := 12) dm_X11_putBytes_11 rfl rfl rfl rfl ?_
  refine me3 (pc' := 15) dm_X11_putBytes_12 (g_get (v := .ref 3) (lu (n := 2) (j := 0) hn rfl) rfl rfl (Nat.le_of_ble_eq_true rfl)) rfl rfl rfl ?_
  refine me3 (pc' := 16) dm_X11_putBytes_15 (g_len (v := (200 : Int32)) (lu (n := 2) (j := 1) hn rfl) rfl rfl (Nat.le_of_ble_eq_true rfl)) rfl rfl rfl ?_
  refine me_2f (pc' := 19) dm_X11_putBytes_16 rfl (by decide) rfl ?_
  refine me1 (pc' := 20) dm_X11_putBytes_19 rfl rfl rfl rfl ?_
  refine me3 (pc' := 23) dm_X11_putBytes_20 (g_get (v := .ref 3) (lu (n := 2) (j := 0) hn rfl) rfl rfl (Nat.le_of_ble_eq_true rfl)) rfl rfl rfl ?_
  refine me1 (pc' := 24) dm_X11_putBytes_23 rfl rfl rfl rfl ?_
  refine me3 (pc' := 27) dm_X11_putBytes_24 (g_get (v := .int (7 : Int32)) (lu (n := 2) (j := 0) hn rfl) rfl rfl (Nat.le_of_ble_eq_true rfl)) rfl rfl rfl ?_
  refine me1 (pc' := 28) dm_X11_putBytes_27 rfl rfl rfl rfl ?_
  refine me1 (pc' := 29) dm_X11_putBytes_28 rfl rfl rfl rfl ?_
  refine me0 (pc' := 30) dm_X11_putBytes_29 rfl rfl rfl rfl ?_
  refine me0 (pc' := 33) (S' := .int (255 : Int32) :: _) dm_X11_putBytes_30 rfl rfl rfl rfl ?_
  refine me0 (pc' := 34) dm_X11_putBytes_33 rfl rfl rfl rfl ?_
  refine me3 (pc' := 35) dm_X11_putBytes_34 (u_iast (n := 2) (j := 1) hn rfl rfl (by decide) (by rw [List.set_comm _ _ (by decide), List.set_set]) (Nat.le_of_ble_eq_true rfl)) rfl rfl rfl ?_
  refine me1 (pc' := 36) dm_X11_putBytes_35 rfl rfl rfl rfl ?_
  refine me0 (pc' := 37) dm_X11_putBytes_36 rfl rfl rfl rfl ?_
  refine me3 (pc' := 40) dm_X11_putBytes_37 (g_get (v := .int (7 : Int32)) (lu (n := 2) (j := 0) hn rfl) rfl rfl (Nat.le_of_ble_eq_true rfl)) rfl rfl rfl ?_
  refine me0 (pc' := 41) (S' := .int (1 : Int32) :: _) dm_X11_putBytes_40 rfl rfl rfl rfl ?_
  refine me0 (pc' := 42) (S' := .int (8 : Int32) :: _) dm_X11_putBytes_41 rfl rfl rfl rfl ?_
  refine me3 (pc' := 45) dm_X11_putBytes_42 (u_put (fs' := [.ref 3, .int (8 : Int32), .ref 4, .ref 9, .ref 13, .ref 15, .ref 16, .ref 98, .ref 101, .ref 101, .int (0 : Int32), .int (-1 : Int32), .int (0 : Int32)]) (n := 2) (j := 0) hn rfl rfl rfl (Nat.le_of_ble_eq_true rfl) rfl (by decide) (fun z => by cases z) (by rw [List.set_set]) (Nat.le_of_ble_eq_true rfl)) rfl rfl rfl ?_
  refine me1 (pc' := 48) (L' := [(2, .int (-8 : Int32)), (0, .ref 2), (1, .int p1)]) dm_X11_putBytes_45 rfl rfl rfl rfl ?_
  refine me2 (pc' := 3) dm_X11_putBytes_48 rfl rfl rfl ?_
  refine me1 (pc' := 4) dm_X11_putBytes_3 rfl rfl rfl rfl ?_
  refine me_1t (pc' := 51) dm_X11_putBytes_4 rfl rfl ?_
  refine me5 dm_X11_putBytes_51 rfl rfl rfl ?_
  refine me1 (pc' := 26) dm_X11_feed_25 rfl rfl rfl rfl ?_
  refine me1 (pc' := 27) dm_X11_feed_26 rfl rfl rfl rfl ?_
  refine me4 (pc' := 30) (L0 := [(0, .ref 2), (1, .int p2)]) dm_X11_feed_27 rfl (g_inv (As := [.int p2]) (lu (n := 2) (j := 0) hn rfl) rfl rfl rfl (Nat.le_of_ble_eq_true rfl)) pm_X11_putBytes rfl (Nat.le_of_ble_eq_true rfl) rfl rfl rfl ?_
  refine me0 (pc' := 2) (S' := .int (24 : Int32) :: _) dm_X11_putBytes_0 rfl rfl rfl rfl ?_
  refine me1 (pc' := 3) (L' := [(2, .int (24 : Int32)), (0, .ref 2), (1, .int p2)]) dm_X11_putBytes_2 rfl rfl rfl rfl ?_
  refine me1 (pc' := 4) dm_X11_putBytes_3 rfl rfl rfl rfl ?_
  refine me_1f (pc' := 7) dm_X11_putBytes_4 rfl (by decide) rfl ?_
  refine me1 (pc' := 8) dm_X11_putBytes_7 rfl rfl rfl rfl ?_
  refine me3 (pc' := 11) dm_X11_putBytes_8 (g_get (v := .int (8 : Int32)) (lu (n := 2) (j := 0) hn rfl) rfl rfl (Nat.le_of_ble_eq_true rfl)) rfl rfl rfl ?_
  refine me1 (pc' := 12) dm_X11_putBytes_11 rfl rfl rfl rfl ?_
  refine me3 (pc' := 15) dm_X11_putBytes_12 (g_get (v := .ref 3) (lu (n := 2) (j := 0) hn rfl) rfl rfl (Nat.le_of_ble_eq_true rfl)) rfl rfl rfl ?_
  refine me3 (pc' := 16) dm_X11_putBytes_15 (g_len (v := (200 : Int32)) (lu (n := 2) (j := 1) hn rfl) rfl rfl (Nat.le_of_ble_eq_true rfl)) rfl rfl rfl ?_
  refine me_2f (pc' := 19) dm_X11_putBytes_16 rfl (by decide) rfl ?_
  refine me1 (pc' := 20) dm_X11_putBytes_19 rfl rfl rfl rfl ?_
  refine me3 (pc' := 23) dm_X11_putBytes_20 (g_get (v := .ref 3) (lu (n := 2) (j := 0) hn rfl) rfl rfl (Nat.le_of_ble_eq_true rfl)) rfl rfl rfl ?_
  refine me1 (pc' := 24) dm_X11_putBytes_23 rfl rfl rfl rfl ?_
  refine me3 (pc' := 27) dm_X11_putBytes_24 (g_get (v := .int (8 : Int32)) (lu (n := 2) (j := 0) hn rfl) rfl rfl (Nat.le_of_ble_eq_true rfl)) rfl rfl rfl ?_
  refine me1 (pc' := 28) dm_X11_putBytes_27 rfl rfl rfl rfl ?_
  refine me1 (pc' := 29) dm_X11_putBytes_28 rfl rfl rfl rfl ?_
  refine me0 (pc' := 30) dm_X11_putBytes_29 rfl rfl rfl rfl ?_
  refine me0 (pc' := 33) (S' := .int (255 : Int32) :: _) dm_X11_putBytes_30 rfl rfl rfl rfl ?_
  refine me0 (pc' := 34) dm_X11_putBytes_33 rfl rfl rfl rfl ?_
  refine me3 (pc' := 35) dm_X11_putBytes_34 (u_iast (n := 2) (j := 1) hn rfl rfl (by decide) (by rw [List.set_comm _ _ (by decide), List.set_set]) (Nat.le_of_ble_eq_true rfl)) rfl rfl rfl ?_
  refine me1 (pc' := 36) dm_X11_putBytes_35 rfl rfl rfl rfl ?_
  refine me0 (pc' := 37) dm_X11_putBytes_36 rfl rfl rfl rfl ?_
  refine me3 (pc' := 40) dm_X11_putBytes_37 (g_get (v := .int (8 : Int32)) (lu (n := 2) (j := 0) hn rfl) rfl rfl (Nat.le_of_ble_eq_true rfl)) rfl rfl rfl ?_
  refine me0 (pc' := 41) (S' := .int (1 : Int32) :: _) dm_X11_putBytes_40 rfl rfl rfl rfl ?_
  refine me0 (pc' := 42) (S' := .int (9 : Int32) :: _) dm_X11_putBytes_41 rfl rfl rfl rfl ?_
  refine me3 (pc' := 45) dm_X11_putBytes_42 (u_put (fs' := [.ref 3, .int (9 : Int32), .ref 4, .ref 9, .ref 13, .ref 15, .ref 16, .ref 98, .ref 101, .ref 101, .int (0 : Int32), .int (-1 : Int32), .int (0 : Int32)]) (n := 2) (j := 0) hn rfl rfl rfl (Nat.le_of_ble_eq_true rfl) rfl (by decide) (fun z => by cases z) (by rw [List.set_set]) (Nat.le_of_ble_eq_true rfl)) rfl rfl rfl ?_
  refine me1 (pc' := 48) (L' := [(2, .int (16 : Int32)), (0, .ref 2), (1, .int p2)]) dm_X11_putBytes_45 rfl rfl rfl rfl ?_
  refine me2 (pc' := 3) dm_X11_putBytes_48 rfl rfl rfl ?_
  refine me1 (pc' := 4) dm_X11_putBytes_3 rfl rfl rfl rfl ?_
  refine me_1f (pc' := 7) dm_X11_putBytes_4 rfl (by decide) rfl ?_
  refine me1 (pc' := 8) dm_X11_putBytes_7 rfl rfl rfl rfl ?_
  refine me3 (pc' := 11) dm_X11_putBytes_8 (g_get (v := .int (9 : Int32)) (lu (n := 2) (j := 0) hn rfl) rfl rfl (Nat.le_of_ble_eq_true rfl)) rfl rfl rfl ?_
  refine me1 (pc' := 12) dm_X11_putBytes_11 rfl rfl rfl rfl ?_
  refine me3 (pc' := 15) dm_X11_putBytes_12 (g_get (v := .ref 3) (lu (n := 2) (j := 0) hn rfl) rfl rfl (Nat.le_of_ble_eq_true rfl)) rfl rfl rfl ?_
  refine me3 (pc' := 16) dm_X11_putBytes_15 (g_len (v := (200 : Int32)) (lu (n := 2) (j := 1) hn rfl) rfl rfl (Nat.le_of_ble_eq_true rfl)) rfl rfl rfl ?_
  refine me_2f (pc' := 19) dm_X11_putBytes_16 rfl (by decide) rfl ?_
  refine me1 (pc' := 20) dm_X11_putBytes_19 rfl rfl rfl rfl ?_
  refine me3 (pc' := 23) dm_X11_putBytes_20 (g_get (v := .ref 3) (lu (n := 2) (j := 0) hn rfl) rfl rfl (Nat.le_of_ble_eq_true rfl)) rfl rfl rfl ?_
  refine me1 (pc' := 24) dm_X11_putBytes_23 rfl rfl rfl rfl ?_
  refine me3 (pc' := 27) dm_X11_putBytes_24 (g_get (v := .int (9 : Int32)) (lu (n := 2) (j := 0) hn rfl) rfl rfl (Nat.le_of_ble_eq_true rfl)) rfl rfl rfl ?_
  refine me1 (pc' := 28) dm_X11_putBytes_27 rfl rfl rfl rfl ?_
  refine me1 (pc' := 29) dm_X11_putBytes_28 rfl rfl rfl rfl ?_
  refine me0 (pc' := 30) dm_X11_putBytes_29 rfl rfl rfl rfl ?_
  refine me0 (pc' := 33) (S' := .int (255 : Int32) :: _) dm_X11_putBytes_30 rfl rfl rfl rfl ?_
  refine me0 (pc' := 34) dm_X11_putBytes_33 rfl rfl rfl rfl ?_
  refine me3 (pc' := 35) dm_X11_putBytes_34 (u_iast (n := 2) (j := 1) hn rfl rfl (by decide) (by rw [List.set_comm _ _ (by decide), List.set_set]) (Nat.le_of_ble_eq_true rfl)) rfl rfl rfl ?_
  refine me1 (pc' := 36) dm_X11_putBytes_35 rfl rfl rfl rfl ?_
  refine me0 (pc' := 37) dm_X11_putBytes_36 rfl rfl rfl rfl ?_
  refine me3 (pc' := 40) dm_X11_putBytes_37 (g_get (v := .int (9 : Int32)) (lu (n := 2) (j := 0) hn rfl) rfl rfl (Nat.le_of_ble_eq_true rfl)) rfl rfl rfl ?_
  refine me0 (pc' := 41) (S' := .int (1 : Int32) :: _) dm_X11_putBytes_40 rfl rfl rfl rfl ?_
  refine me0 (pc' := 42) (S' := .int (10 : Int32) :: _) dm_X11_putBytes_41 rfl rfl rfl rfl ?_
  refine me3 (pc' := 45) dm_X11_putBytes_42 (u_put (fs' := [.ref 3, .int (10 : Int32), .ref 4, .ref 9, .ref 13, .ref 15, .ref 16, .ref 98, .ref 101, .ref 101, .int (0 : Int32), .int (-1 : Int32), .int (0 : Int32)]) (n := 2) (j := 0) hn rfl rfl rfl (Nat.le_of_ble_eq_true rfl) rfl (by decide) (fun z => by cases z) (by rw [List.set_set]) (Nat.le_of_ble_eq_true rfl)) rfl rfl rfl ?_
  refine me1 (pc' := 48) (L' := [(2, .int (8 : Int32)), (0, .ref 2), (1, .int p2)]) dm_X11_putBytes_45 rfl rfl rfl rfl ?_
  refine me2 (pc' := 3) dm_X11_putBytes_48 rfl rfl rfl ?_
  refine me1 (pc' := 4) dm_X11_putBytes_3 rfl rfl rfl rfl ?_
  refine me_1f (pc' := 7) dm_X11_putBytes_4 rfl (by decide) rfl ?_
  refine me1 (pc' := 8) dm_X11_putBytes_7 rfl rfl rfl rfl ?_
  refine me3 (pc' := 11) dm_X11_putBytes_8 (g_get (v := .int (10 : Int32)) (lu (n := 2) (j := 0) hn rfl) rfl rfl (Nat.le_of_ble_eq_true rfl)) rfl rfl rfl ?_
  refine me1 (pc' := 12) dm_X11_putBytes_11 rfl rfl rfl rfl ?_
  refine me3 (pc' := 15) dm_X11_putBytes_12 (g_get (v := .ref 3) (lu (n := 2) (j := 0) hn rfl) rfl rfl (Nat.le_of_ble_eq_true rfl)) rfl rfl rfl ?_
  refine me3 (pc' := 16) dm_X11_putBytes_15 (g_len (v := (200 : Int32)) (lu (n := 2) (j := 1) hn rfl) rfl rfl (Nat.le_of_ble_eq_true rfl)) rfl rfl rfl ?_
  refine me_2f (pc' := 19) dm_X11_putBytes_16 rfl (by decide) rfl ?_
  refine me1 (pc' := 20) dm_X11_putBytes_19 rfl rfl rfl rfl ?_
  refine me3 (pc' := 23) dm_X11_putBytes_20 (g_get (v := .ref 3) (lu (n := 2) (j := 0) hn rfl) rfl rfl (Nat.le_of_ble_eq_true rfl)) rfl rfl rfl ?_
  refine me1 (pc' := 24) dm_X11_putBytes_23 rfl rfl rfl rfl ?_
  refine me3 (pc' := 27) dm_X11_putBytes_24 (g_get (v := .int (10 : Int32)) (lu (n := 2) (j := 0) hn rfl) rfl rfl (Nat.le_of_ble_eq_true rfl)) rfl rfl rfl ?_
  refine me1 (pc' := 28) dm_X11_putBytes_27 rfl rfl rfl rfl ?_
  refine me1 (pc' := 29) dm_X11_putBytes_28 rfl rfl rfl rfl ?_
  refine me0 (pc' := 30) dm_X11_putBytes_29 rfl rfl rfl rfl ?_
  refine me0 (pc' := 33) (S' := .int (255 : Int32) :: _) dm_X11_putBytes_30 rfl rfl rfl rfl ?_
  refine me0 (pc' := 34) dm_X11_putBytes_33 rfl rfl rfl rfl ?_
  refine me3 (pc' := 35) dm_X11_putBytes_34 (u_iast (n := 2) (j := 1) hn rfl rfl (by decide) (by rw [List.set_comm _ _ (by decide), List.set_set]) (Nat.le_of_ble_eq_true rfl)) rfl rfl rfl ?_
  refine me1 (pc' := 36) dm_X11_putBytes_35 rfl rfl rfl rfl ?_
  refine me0 (pc' := 37) dm_X11_putBytes_36 rfl rfl rfl rfl ?_
  refine me3 (pc' := 40) dm_X11_putBytes_37 (g_get (v := .int (10 : Int32)) (lu (n := 2) (j := 0) hn rfl) rfl rfl (Nat.le_of_ble_eq_true rfl)) rfl rfl rfl ?_
  refine me0 (pc' := 41) (S' := .int (1 : Int32) :: _) dm_X11_putBytes_40 rfl rfl rfl rfl ?_
  refine me0 (pc' := 42) (S' := .int (11 : Int32) :: _) dm_X11_putBytes_41 rfl rfl rfl rfl ?_
  refine me3 (pc' := 45) dm_X11_putBytes_42 (u_put (fs' := [.ref 3, .int (11 : Int32), .ref 4, .ref 9, .ref 13, .ref 15, .ref 16, .ref 98, .ref 101, .ref 101, .int (0 : Int32), .int (-1 : Int32), .int (0 : Int32)]) (n := 2) (j := 0) hn rfl rfl rfl (Nat.le_of_ble_eq_true rfl) rfl (by decide) (fun z => by cases z) (by rw [List.set_set]) (Nat.le_of_ble_eq_true rfl)) rfl rfl rfl ?_
  refine me1 (pc' := 48) (L' := [(2, .int (0 : Int32)), (0, .ref 2), (1, .int p2)]) dm_X11_putBytes_45 rfl rfl rfl rfl ?_
  refine me2 (pc' := 3) dm_X11_putBytes_48 rfl rfl rfl ?_
  refine me1 (pc' := 4) dm_X11_putBytes_3 rfl rfl rfl rfl ?_
  refine me_1f (pc' := 7) dm_X11_putBytes_4 rfl (by decide) rfl ?_
  refine me1 (pc' := 8) dm_X11_putBytes_7 rfl rfl rfl rfl ?_
  refine me3 (pc' := 11) dm_X11_putBytes_8 (g_get (v := .int (11 : Int32)) (lu (n := 2) (j := 0) hn rfl) rfl rfl (Nat.le_of_ble_eq_true rfl)) rfl rfl rfl ?_
  refine me1 (pc' := 12) dm_X11_putBytes_11 rfl rfl rfl rfl ?_
  refine me3 (pc' := 15) dm_X11_putBytes_12 (g_get (v := .ref 3) (lu (n := 2) (j := 0) hn rfl) rfl rfl (Nat.le_of_ble_eq_true rfl)) rfl rfl rfl ?_
  refine me3 (pc' := 16) dm_X11_putBytes_15 (g_len (v := (200 : Int32)) (lu (n := 2) (j := 1) hn rfl) rfl rfl (Nat.le_of_ble_eq_true rfl)) rfl rfl rfl ?_
  refine me_2f (pc' := 19) dm_X11_putBytes_16 rfl (by decide) rfl ?_
  refine me1 (pc' := 20) dm_X11_putBytes_19 rfl rfl rfl rfl ?_
  refine me3 (pc' := 23) dm_X11_putBytes_20 (g_get (v := .ref 3) (lu (n := 2) (j := 0) hn rfl) rfl rfl (Nat.le_of_ble_eq_true rfl)) rfl rfl rfl ?_
  refine me1 (pc' := 24) dm_X11_putBytes_23 rfl rfl rfl rfl ?_
  refine me3 (pc' := 27) dm_X11_putBytes_24 (g_get (v := .int (11 : Int32)) (lu (n := 2) (j := 0) hn rfl) rfl rfl (Nat.le_of_ble_eq_true rfl)) rfl rfl rfl ?_
  refine me1 (pc' := 28) dm_X11_putBytes_27 rfl rfl rfl rfl ?_
  refine me1 (pc' := 29) dm_X11_putBytes_28 rfl rfl rfl rfl ?_
  refine me0 (pc' := 30) dm_X11_putBytes_29 rfl rfl rfl rfl ?_
  refine me0 (pc' := 33) (S' := .int (255 : Int32) :: _) dm_X11_putBytes_30 rfl rfl rfl rfl ?_
  refine me0 (pc' := 34) dm_X11_putBytes_33 rfl rfl rfl rfl ?_
  refine me3 (pc' := 35) dm_X11_putBytes_34 (u_iast (n := 2) (j := 1) hn rfl rfl (by decide) (by rw [List.set_comm _ _ (by decide), List.set_set]) (Nat.le_of_ble_eq_true rfl)) rfl rfl rfl ?_
  refine me1 (pc' := 36) dm_X11_putBytes_35 rfl rfl rfl rfl ?_
  refine me0 (pc' := 37) dm_X11_putBytes_36 rfl rfl rfl rfl ?_
  refine me3 (pc' := 40) dm_X11_putBytes_37 (g_get (v := .int (11 : Int32)) (lu (n := 2) (j := 0) hn rfl) rfl rfl (Nat.le_of_ble_eq_true rfl)) rfl rfl rfl ?_
  refine me0 (pc' := 41) (S' := .int (1 : Int32) :: _) dm_X11_putBytes_40 rfl rfl rfl rfl ?_
  refine me0 (pc' := 42) (S' := .int (12 : Int32) :: _) dm_X11_putBytes_41 rfl rfl rfl rfl ?_
  refine me3 (pc' := 45) dm_X11_putBytes_42 (u_put (fs' := [.ref 3, .int (12 : Int32), .ref 4, .ref 9, .ref 13, .ref 15, .ref 16, .ref 98, .ref 101, .ref 101, .int (0 : Int32), .int (-1 : Int32), .int (0 : Int32)]) (n := 2) (j := 0) hn rfl rfl rfl (Nat.le_of_ble_eq_true rfl) rfl (by decide) (fun z => by cases z) (by rw [List.set_set]) (Nat.le_of_ble_eq_true rfl)) rfl rfl rfl ?_
  refine me1 (pc' := 48) (L' := [(2, .int (-8 : Int32)), (0, .ref 2), (1, .int p2)]) dm_X11_putBytes_45 rfl rfl rfl rfl ?_
  refine me2 (pc' := 3) dm_X11_putBytes_48 rfl rfl rfl ?_
  refine me1 (pc' := 4) dm_X11_putBytes_3 rfl rfl rfl rfl ?_
  refine me_1t (pc' := 51) dm_X11_putBytes_4 rfl rfl ?_
  refine me5 dm_X11_putBytes_51 rfl rfl rfl ?_
  refine me1 (pc' := 31) dm_X11_feed_30 rfl rfl rfl rfl ?_
  refine me1 (pc' := 33) dm_X11_feed_31 rfl rfl rfl rfl ?_
  refine me4 (pc' := 36) (L0 := [(0, .ref 2), (1, .int p3)]) dm_X11_feed_33 rfl (g_inv (As := [.int p3]) (lu (n := 2) (j := 0) hn rfl) rfl rfl rfl (Nat.le_of_ble_eq_true rfl)) pm_X11_putBytes rfl (Nat.le_of_ble_eq_true rfl) rfl rfl rfl ?_
  refine me0 (pc' := 2) (S' := .int (24 : Int32) :: _) dm_X11_putBytes_0 rfl rfl rfl rfl ?_
  refine me1 (pc' := 3) (L' := [(2, .int (24 : Int32)), (0, .ref 2), (1, .int p3)]) dm_X11_putBytes_2 rfl rfl rfl rfl ?_
  refine me1 (pc' := 4) dm_X11_putBytes_3 rfl rfl rfl rfl ?_
  refine me_1f (pc' := 7) dm_X11_putBytes_4 rfl (by decide) rfl ?_
  refine me1 (pc' := 8) dm_X11_putBytes_7 rfl rfl rfl rfl ?_
  refine me3 (pc' := 11) dm_X11_putBytes_8 (g_get (v := .int (12 : Int32)) (lu (n := 2) (j := 0) hn rfl) rfl rfl (Nat.le_of_ble_eq_true rfl)) rfl rfl rfl ?_
  refine me1 (pc' := 12) dm_X11_putBytes_11 rfl rfl rfl rfl ?_
  refine me3 (pc' := 15) dm_X11_putBytes_12 (g_get (v := .ref 3) (lu (n := 2) (j := 0) hn rfl) rfl rfl (Nat.le_of_ble_eq_true rfl)) rfl rfl rfl ?_
  refine me3 (pc' := 16) dm_X11_putBytes_15 (g_len (v := (200 : Int32)) (lu (n := 2) (j := 1) hn rfl) rfl rfl (Nat.le_of_ble_eq_true rfl)) rfl rfl rfl ?_
  refine me_2f (pc' := 19) dm_X11_putBytes_16 rfl (by decide) rfl ?_
  refine me1 (pc' := 20) dm_X11_putBytes_19 rfl rfl rfl rfl ?_
  refine me3 (pc' := 23) dm_X11_putBytes_20 (g_get (v := .ref 3) (lu (n := 2) (j := 0) hn rfl) rfl rfl (Nat.le_of_ble_eq_true rfl)) rfl rfl rfl ?_
  refine me1 (pc' := 24) dm_X11_putBytes_23 rfl rfl rfl rfl ?_
  refine me3 (pc' := 27) dm_X11_putBytes_24 (g_get (v := .int (12 : Int32)) (lu (n := 2) (j := 0) hn rfl) rfl rfl (Nat.le_of_ble_eq_true rfl)) rfl rfl rfl ?_
  refine me1 (pc' := 28) dm_X11_putBytes_27 rfl rfl rfl rfl ?_
  refine me1 (pc' := 29) dm_X11_putBytes_28 rfl rfl rfl rfl ?_
  refine me0 (pc' := 30) dm_X11_putBytes_29 rfl rfl rfl rfl ?_
  refine me0 (pc' := 33) (S' := .int (255 : Int32) :: _) dm_X11_putBytes_30 rfl rfl rfl rfl ?_
  refine me0 (pc' := 34) dm_X11_putBytes_33 rfl rfl rfl rfl ?_
  refine me3 (pc' := 35) dm_X11_putBytes_34 (u_iast (n := 2) (j := 1) hn rfl rfl (by decide) (by rw [List.set_comm _ _ (by decide), List.set_set]) (Nat.le_of_ble_eq_true rfl)) rfl rfl rfl ?_
  refine me1 (pc' := 36) dm_X11_putBytes_35 rfl rfl rfl rfl ?_
  refine me0 (pc' := 37) dm_X11_putBytes_36 rfl rfl rfl rfl ?_
  refine me3 (pc' := 40) dm_X11_putBytes_37 (g_get (v := .int (12 : Int32)) (lu (n := 2) (j := 0) hn rfl) rfl rfl (Nat.le_of_ble_eq_true rfl)) rfl rfl rfl ?_
  refine me0 (pc' := 41) (S' := .int (1 : Int32) :: _) dm_X11_putBytes_40 rfl rfl rfl rfl ?_
  refine me0 (pc' := 42) (S' := .int (13 : Int32) :: _) dm_X11_putBytes_41 rfl rfl rfl rfl ?_
  refine me3 (pc' := 45) dm_X11_putBytes_42 (u_put (fs' := [.ref 3, .int (13 : Int32), .ref 4, .ref 9, .ref 13, .ref 15, .ref 16, .ref 98, .ref 101, .ref 101, .int (0 : Int32), .int (-1 : Int32), .int (0 : Int32)]) (n := 2) (j := 0) hn rfl rfl rfl (Nat.le_of_ble_eq_true rfl) rfl (by decide) (fun z => by cases z) (by rw [List.set_set]) (Nat.le_of_ble_eq_true rfl)) rfl rfl rfl ?_
  refine me1 (pc' := 48) (L' := [(2, .int (16 : Int32)), (0, .ref 2), (1, .int p3)]) dm_X11_putBytes_45 rfl rfl rfl rfl ?_
  refine me2 (pc' := 3) dm_X11_putBytes_48 rfl rfl rfl ?_
  refine me1 (pc' := 4) dm_X11_putBytes_3 rfl rfl rfl rfl ?_
  refine me_1f (pc' := 7) dm_X11_putBytes_4 rfl (by decide) rfl ?_
  refine me1 (pc' := 8) dm_X11_putBytes_7 rfl rfl rfl rfl ?_
  refine me3 (pc' := 11) dm_X11_putBytes_8 (g_get (v := .int (13 : Int32)) (lu (n := 2) (j := 0) hn rfl) rfl rfl (Nat.le_of_ble_eq_true rfl)) rfl rfl rfl ?_
  refine me1 (pc' := 12) dm_X11_putBytes_11 rfl rfl rfl rfl ?_
  refine me3 (pc' := 15) dm_X11_putBytes_12 (g_get (v := .ref 3) (lu (n := 2) (j := 0) hn rfl) rfl rfl (Nat.le_of_ble_eq_true rfl)) rfl rfl rfl ?_
  refine me3 (pc' := 16) dm_X11_putBytes_15 (g_len (v := (200 : Int32)) (lu (n := 2) (j := 1) hn rfl) rfl rfl (Nat.le_of_ble_eq_true rfl)) rfl rfl rfl ?_
  refine me_2f (pc' := 19) dm_X11_putBytes_16 rfl (by decide) rfl ?_
  refine me1 (pc' := 20) dm_X11_putBytes_19 rfl rfl rfl rfl ?_
  refine me3 (pc' := 23) dm_X11_putBytes_20 (g_get (v := .ref 3) (lu (n := 2) (j := 0) hn rfl) rfl rfl (Nat.le_of_ble_eq_true rfl)) rfl rfl rfl ?_
  refine me1 (pc' := 24) dm_X11_putBytes_23 rfl rfl rfl rfl ?_
  refine me3 (pc' := 27) dm_X11_putBytes_24 (g_get (v := .int (13 : Int32)) (lu (n := 2) (j := 0) hn rfl) rfl rfl (Nat.le_of_ble_eq_true rfl)) rfl rfl rfl ?_
  refine me1 (pc' := 28) dm_X11_putBytes_27 rfl rfl rfl rfl ?_
  refine me1 (pc' := 29) dm_X11_putBytes_28 rfl rfl rfl rfl ?_
  refine me0 (pc' := 30) dm_X11_putBytes_29 rfl rfl rfl rfl ?_
  refine me0 (pc' := 33) (S' := .int (255 : Int32) :: _) dm_X11_putBytes_30 rfl rfl rfl rfl ?_
  refine me0 (pc' := 34) dm_X11_putBytes_33 rfl rfl rfl rfl ?_
  refine me3 (pc' := 35) dm_X11_putBytes_34 (u_iast (n := 2) (j := 1) hn rfl rfl (by decide) (by rw [List.set_comm _ _ (by decide), List.set_set]) (Nat.le_of_ble_eq_true rfl)) rfl rfl rfl ?_
  refine me1 (pc' := 36) dm_X11_putBytes_35 rfl rfl rfl rfl ?_
  refine me0 (pc' := 37) dm_X11_putBytes_36 rfl rfl rfl rfl ?_
  refine me3 (pc' := 40) dm_X11_putBytes_37 (g_get (v := .int (13 : Int32)) (lu (n := 2) (j := 0) hn rfl) rfl rfl (Nat.le_of_ble_eq_true rfl)) rfl rfl rfl ?_
  refine me0 (pc' := 41) (S' := .int (1 : Int32) :: _) dm_X11_putBytes_40 rfl rfl rfl rfl ?_
  refine me0 (pc' := 42) (S' := .int (14 : Int32) :: _) dm_X11_putBytes_41 rfl rfl rfl rfl ?_
  refine me3 (pc' := 45) dm_X11_putBytes_42 (u_put (fs' := [.ref 3, .int (14 : Int32), .ref 4, .ref 9, .ref 13, .ref 15, .ref 16, .ref 98, .ref 101, .ref 101, .int (0 : Int32), .int (-1 : Int32), .int (0 : Int32)]) (n := 2) (j := 0) hn rfl rfl rfl (Nat.le_of_ble_eq_true rfl) rfl (by decide) (fun z => by cases z) (by rw [List.set_set]) (Nat.le_of_ble_eq_true rfl)) rfl rfl rfl ?_
  refine me1 (pc' := 48) (L' := [(2, .int (8 : Int32)), (0, .ref 2), (1, .int p3)]) dm_X11_putBytes_45 rfl rfl rfl rfl ?_
  refine me2 (pc' := 3) dm_X11_putBytes_48 rfl rfl rfl ?_
  refine me1 (pc' := 4) dm_X11_putBytes_3 rfl rfl rfl rfl ?_
  refine me_1f (pc' := 7) dm_X11_putBytes_4 rfl (by decide) rfl ?_
  refine me1 (pc' := 8) dm_X11_putBytes_7 rfl rfl rfl rfl ?_
  refine me3 (pc' := 11) dm_X11_putBytes_8 (g_get (v := .int (14 : Int32)) (lu (n := 2) (j := 0) hn rfl) rfl rfl (Nat.le_of_ble_eq_true rfl)) rfl rfl rfl ?_
  refine me1 (pc' := 12) dm_X11_putBytes_11 rfl rfl rfl rfl ?_
  refine me3 (pc' := 15) dm_X11_putBytes_12 (g_get (v := .ref 3) (lu (n := 2) (j := 0) hn rfl) rfl rfl (Nat.le_of_ble_eq_true rfl)) rfl rfl rfl ?_
  refine me3 (pc' := 16) dm_X11_putBytes_15 (g_len (v := (200 : Int32)) (lu (n := 2) (j := 1) hn rfl) rfl rfl (Nat.le_of_ble_eq_true rfl)) rfl rfl rfl ?_
  refine me_2f (pc' := 19) dm_X11_putBytes_16 rfl (by decide) rfl ?_
  refine me1 (pc' := 20) dm_X11_putBytes_19 rfl rfl rfl rfl ?_
  refine me3 (pc' := 23) dm_X11_putBytes_20 (g_get (v := .ref 3) (lu (n := 2) (j := 0) hn rfl) rfl rfl (Nat.le_of_ble_eq_true rfl)) rfl rfl rfl ?_
  refine me1 (pc' := 24) dm_X11_putBytes_23 rfl rfl rfl rfl ?_
  refine me3 (pc' := 27) dm_X11_putBytes_24 (g_get (v := .int (14 : Int32)) (lu (n := 2) (j := 0) hn rfl) rfl rfl (Nat.le_of_ble_eq_true rfl)) rfl rfl rfl ?_
  refine me1 (pc' := 28) dm_X11_putBytes_27 rfl rfl rfl rfl ?_
  refine me1 (pc' := 29) dm_X11_putBytes_28 rfl rfl rfl rfl ?_
  refine me0 (pc' := 30) dm_X11_putBytes_29 rfl rfl rfl rfl ?_
  refine me0 (pc' := 33) (S' := .int (255 : Int32) :: _) dm_X11_putBytes_30 rfl rfl rfl rfl ?_
  refine me0 (pc' := 34) dm_X11_putBytes_33 rfl rfl rfl rfl ?_
  refine me3 (pc' := 35) dm_X11_putBytes_34 (u_iast (n := 2) (j := 1) hn rfl rfl (by decide) (by rw [List.set_comm _ _ (by decide), List.set_set]) (Nat.le_of_ble_eq_true rfl)) rfl rfl rfl ?_
  refine me1 (pc' := 36) dm_X11_putBytes_35 rfl rfl rfl rfl ?_
  refine me0 (pc' := 37) dm_X11_putBytes_36 rfl rfl rfl rfl ?_
  refine me3 (pc' := 40) dm_X11_putBytes_37 (g_get (v := .int (14 : Int32)) (lu (n := 2) (j := 0) hn rfl) rfl rfl (Nat.le_of_ble_eq_true rfl)) rfl rfl rfl ?_
  refine me0 (pc' := 41) (S' := .int (1 : Int32) :: _) dm_X11_putBytes_40 rfl rfl rfl rfl ?_
  refine me0 (pc' := 42) (S' := .int (15 : Int32) :: _) dm_X11_putBytes_41 rfl rfl rfl rfl ?_
  refine me3 (pc' := 45) dm_X11_putBytes_42 (u_put (fs' := [.ref 3, .int (15 : Int32), .ref 4, .ref 9, .ref 13, .ref 15, .ref 16, .ref 98, .ref 101, .ref 101, .int (0 : Int32), .int (-1 : Int32), .int (0 : Int32)]) (n := 2) (j := 0) hn rfl rfl rfl (Nat.le_of_ble_eq_true rfl) rfl (by decide) (fun z => by cases z) (by rw [List.set_set]) (Nat.le_of_ble_eq_true rfl)) rfl rfl rfl ?_
  refine me1 (pc' := 48) (L' := [(2, .int (0 : Int32)), (0, .ref 2), (1, .int p3)]) dm_X11_putBytes_45 rfl rfl rfl rfl ?_
  refine me2 (pc' := 3) dm_X11_putBytes_48 rfl rfl rfl ?_
  refine me1 (pc' := 4) dm_X11_putBytes_3 rfl rfl rfl rfl ?_
  refine me_1f (pc' := 7) dm_X11_putBytes_4 rfl (by decide) rfl ?_
  refine me1 (pc' := 8) dm_X11_putBytes_7 rfl rfl rfl rfl ?_
  refine me3 (pc' := 11) dm_X11_putBytes_8 (g_get (v := .int (15 : Int32)) (lu (n := 2) (j := 0) hn rfl) rfl rfl (Nat.le_of_ble_eq_true rfl)) rfl rfl rfl ?_
  refine me1 (pc' := 12) dm_X11_putBytes_11 rfl rfl rfl rfl ?_
  refine me3 (pc' := 15) dm_X11_putBytes_12 (g_get (v := .ref 3) (lu (n := 2) (j := 0) hn rfl) rfl rfl (Nat.le_of_ble_eq_true rfl)) rfl rfl rfl ?_
  refine me3 (pc' := 16) dm_X11_putBytes_15 (g_len (v := (200 : Int32)) (lu (n := 2) (j := 1) hn rfl) rfl rfl (Nat.le_of_ble_eq_true rfl)) rfl rfl rfl ?_
  refine me_2f (pc' := 19) dm_X11_putBytes_16 rfl (by decide) rfl ?_
  refine me1 (pc' := 20) dm_X11_putBytes_19 rfl rfl rfl rfl ?_
  refine me3 (pc' := 23) dm_X11_putBytes_20 (g_get (v := .ref 3) (lu (n := 2) (j := 0) hn rfl) rfl rfl (Nat.le_of_ble_eq_true rfl)) rfl rfl rfl ?_
  refine me1 (pc' := 24) dm_X11_putBytes_23 rfl rfl rfl rfl ?_
  refine me3 (pc' := 27) dm_X11_putBytes_24 (g_get (v := .int (15 : Int32)) (lu (n := 2) (j := 0) hn rfl) rfl rfl (Nat.le_of_ble_eq_true rfl)) rfl rfl rfl ?_
  refine me1 (pc' := 28) dm_X11_putBytes_27 rfl rfl rfl rfl ?_
  refine me1 (pc' := 29) dm_X11_putBytes_28 rfl rfl rfl rfl ?_
  refine me0 (pc' := 30) dm_X11_putBytes_29 rfl rfl rfl rfl ?_
  refine me0 (pc' := 33) (S' := .int (255 : Int32) :: _) dm_X11_putBytes_30 rfl rfl rfl rfl ?_
  refine me0 (pc' := 34) dm_X11_putBytes_33 rfl rfl rfl rfl ?_
  refine me3 (pc' := 35) dm_X11_putBytes_34 (u_iast (n := 2) (j := 1) hn rfl rfl (by decide) (by rw [List.set_comm _ _ (by decide), List.set_set]) (Nat.le_of_ble_eq_true rfl)) rfl rfl rfl ?_
  refine me1 (pc' := 36) dm_X11_putBytes_35 rfl rfl rfl rfl ?_
  refine me0 (pc' := 37) dm_X11_putBytes_36 rfl rfl rfl rfl ?_
  refine me3 (pc' := 40) dm_X11_putBytes_37 (g_get (v := .int (15 : Int32)) (lu (n := 2) (j := 0) hn rfl) rfl rfl (Nat.le_of_ble_eq_true rfl)) rfl rfl rfl ?_
  refine me0 (pc' := 41) (S' := .int (1 : Int32) :: _) dm_X11_putBytes_40 rfl rfl rfl rfl ?_
  refine me0 (pc' := 42) (S' := .int (16 : Int32) :: _) dm_X11_putBytes_41 rfl rfl rfl rfl ?_
  refine me3 (pc' := 45) dm_X11_putBytes_42 (u_put (fs' := [.ref 3, .int (16 : Int32), .ref 4, .ref 9, .ref 13, .ref 15, .ref 16, .ref 98, .ref 101, .ref 101, .int (0 : Int32), .int (-1 : Int32), .int (0 : Int32)]) (n := 2) (j := 0) hn rfl rfl rfl (Nat.le_of_ble_eq_true rfl) rfl (by decide) (fun z => by cases z) (by rw [List.set_set]) (Nat.le_of_ble_eq_true rfl)) rfl rfl rfl ?_
  refine me1 (pc' := 48) (L' := [(2, .int (-8 : Int32)), (0, .ref 2), (1, .int p3)]) dm_X11_putBytes_45 rfl rfl rfl rfl ?_
  refine me2 (pc' := 3) dm_X11_putBytes_48 rfl rfl rfl ?_
  refine me1 (pc' := 4) dm_X11_putBytes_3 rfl rfl rfl rfl ?_
  refine me_1t (pc' := 51) dm_X11_putBytes_4 rfl rfl ?_
  refine me5 dm_X11_putBytes_51 rfl rfl rfl ?_
  refine me1 (pc' := 37) dm_X11_feed_36 rfl rfl rfl rfl ?_
  refine me1 (pc' := 39) dm_X11_feed_37 rfl rfl rfl rfl ?_
  refine me4 (pc' := 42) (L0 := [(0, .ref 2), (1, .int p4)]) dm_X11_feed_39 rfl (g_inv (As := [.int p4]) (lu (n := 2) (j := 0) hn rfl) rfl rfl rfl (Nat.le_of_ble_eq_true rfl)) pm_X11_putBytes rfl (Nat.le_of_ble_eq_true rfl) rfl rfl rfl ?_
  refine me0 (pc' := 2) (S' := .int (24 : Int32) :: _) dm_X11_putBytes_0 rfl rfl rfl rfl ?_
  refine me1 (pc' := 3) (L' := [(2, .int (24 : Int32)), (0, .ref 2), (1, .int p4)]) dm_X11_putBytes_2 rfl rfl rfl rfl ?_
  refine me1 (pc' := 4) dm_X11_putBytes_3 rfl rfl rfl rfl ?_
  refine me_1f (pc' := 7) dm_X11_putBytes_4 rfl (by decide) rfl ?_
  refine me1 (pc' := 8) dm_X11_putBytes_7 rfl rfl rfl rfl ?_
  refine me3 (pc' := 11) dm_X11_putBytes_8 (g_get (v := .int (16 : Int32)) (lu (n := 2) (j := 0) hn rfl) rfl rfl (Nat.le_of_ble_eq_true rfl)) rfl rfl rfl ?_
  refine me1 (pc' := 12) dm_X11_putBytes_11 rfl rfl rfl rfl ?_
  refine me3 (pc' := 15) dm_X11_putBytes_12 (g_get (v := .ref 3) (lu (n := 2) (j := 0) hn rfl) rfl rfl (Nat.le_of_ble_eq_true rfl)) rfl rfl rfl ?_
  refine me3 (pc' := 16) dm_X11_putBytes_15 (g_len (v := (200 : Int32)) (lu (n := 2) (j := 1) hn rfl) rfl rfl (Nat.le_of_ble_eq_true rfl)) rfl rfl rfl ?_
  refine me_2f (pc' := 19) dm_X11_putBytes_16 rfl (by decide) rfl ?_
  refine me1 (pc' := 20) dm_X11_putBytes_19 rfl rfl rfl rfl ?_
  refine me3 (pc' := 23) dm_X11_putBytes_20 (g_get (v := .ref 3) (lu (n := 2) (j := 0) hn rfl) rfl rfl (Nat.le_of_ble_eq_true rfl)) rfl rfl rfl ?_
  refine me1 (pc' := 24) dm_X11_putBytes_23 rfl rfl rfl rfl ?_
  refine me3 (pc' := 27) dm_X11_putBytes_24 (g_get (v := .int (16 : Int32)) (lu (n := 2) (j := 0) hn rfl) rfl rfl (Nat.le_of_ble_eq_true rfl)) rfl rfl rfl ?_
  refine me1 (pc' := 28) dm_X11_putBytes_27 rfl rfl rfl rfl ?_
  refine me1 (pc' := 29) dm_X11_putBytes_28 rfl rfl rfl rfl ?_
  refine me0 (pc' := 30) dm_X11_putBytes_29 rfl rfl rfl rfl ?_
  refine me0 (pc' := 33) (S' := .int (255 : Int32) :: _) dm_X11_putBytes_30 rfl rfl rfl rfl ?_
  refine me0 (pc' := 34) dm_X11_putBytes_33 rfl rfl rfl rfl ?_
  refine me3 (pc' := 35) dm_X11_putBytes_34 (u_iast (n := 2) (j := 1) hn rfl rfl (by decide) (by rw [List.set_comm _ _ (by decide), List.set_set]) (Nat.le_of_ble_eq_true rfl)) rfl rfl rfl ?_
  refine me1 (pc' := 36) dm_X11_putBytes_35 rfl rfl rfl rfl ?_
  refine me0 (pc' := 37) dm_X11_putBytes_36 rfl rfl rfl rfl ?_
  refine me3 (pc' := 40) dm_X11_putBytes_37 (g_get (v := .int (16 : Int32)) (lu (n := 2) (j := 0) hn rfl) rfl rfl (Nat.le_of_ble_eq_true rfl)) rfl rfl rfl ?_
  refine me0 (pc' := 41) (S' := .int (1 : Int32) :: _) dm_X11_putBytes_40 rfl rfl rfl rfl ?_
  refine me0 (pc' := 42) (S' := .int (17 : Int32) :: _) dm_X11_putBytes_41 rfl rfl rfl rfl ?_
  refine me3 (pc' := 45) dm_X11_putBytes_42 (u_put (fs' := [.ref 3, .int (17 : Int32), .ref 4, .ref 9, .ref 13, .ref 15, .ref 16, .ref 98, .ref 101, .ref 101, .int (0 : Int32), .int (-1 : Int32), .int (0 : Int32)]) (n := 2) (j := 0) hn rfl rfl rfl (Nat.le_of_ble_eq_true rfl) rfl (by decide) (fun z => by cases z) (by rw [List.set_set]) (Nat.le_of_ble_eq_true rfl)) rfl rfl rfl ?_
  refine me1 (pc' := 48) (L' := [(2, .int (16 : Int32)), (0, .ref 2), (1, .int p4)]) dm_X11_putBytes_45 rfl rfl rfl rfl ?_
  refine me2 (pc' := 3) dm_X11_putBytes_48 rfl rfl rfl ?_
  refine me1 (pc' := 4) dm_X11_putBytes_3 rfl rfl rfl rfl ?_
  refine me_1f (pc' := 7) dm_X11_putBytes_4 rfl (by decide) rfl ?_
  refine me1 (pc' := 8) dm_X11_putBytes_7 rfl rfl rfl rfl ?_
  refine me3 (pc' := 11) dm_X11_putBytes_8 (g_get (v := .int (17 : Int32)) (lu (n := 2) (j := 0) hn rfl) rfl rfl (Nat.le_of_ble_eq_true rfl)) rfl rfl rfl ?_
  refine me1 (pc' := 12) dm_X11_putBytes_11 rfl rfl rfl rfl ?_
  refine me3 (pc' := 15) dm_X11_putBytes_12 (g_get (v := .ref 3) (lu (n := 2) (j := 0) hn rfl) rfl rfl (Nat.le_of_ble_eq_true rfl)) rfl rfl rfl ?_
  refine me3 (pc' := 16) dm_X11_putBytes_15 (g_len (v := (200 : Int32)) (lu (n := 2) (j := 1) hn rfl) rfl rfl (Nat.le_of_ble_eq_true rfl)) rfl rfl rfl ?_
  refine me_2f (pc' := 19) dm_X11_putBytes_16 rfl (by decide) rfl ?_
  refine me1 (pc' := 20) dm_X11_putBytes_19 rfl rfl rfl rfl ?_
  refine me3 (pc' := 23) dm_X11_putBytes_20 (g_get (v := .ref 3) (lu (n := 2) (j := 0) hn rfl) rfl rfl (Nat.le_of_ble_eq_true rfl)) rfl rfl rfl ?_
  refine me1 (pc' := 24) dm_X11_putBytes_23 rfl rfl rfl rfl ?_
  refine me3 (pc' := 27) dm_X11_putBytes_24 (g_get (v := .int (17 : Int32)) (lu (n := 2) (j := 0) hn rfl) rfl rfl (Nat.le_of_ble_eq_true rfl)) rfl rfl rfl ?_
  refine me1 (pc' := 28) dm_X11_putBytes_27 rfl rfl rfl rfl ?_
  refine me1 (pc' := 29) dm_X11_putBytes_28 rfl rfl rfl rfl ?_
  refine me0 (pc' := 30) dm_X11_putBytes_29 rfl rfl rfl rfl ?_
  refine me0 (pc' := 33) (S' := .int (255 : Int32) :: _) dm_X11_putBytes_30 rfl rfl rfl rfl ?_
  refine me0 (pc' := 34) dm_X11_putBytes_33 rfl rfl rfl rfl ?_
  refine me3 (pc' := 35) dm_X11_putBytes_34 (u_iast (n := 2) (j := 1) hn rfl rfl (by decide) (by rw [List.set_comm _ _ (by decide), List.set_set]) (Nat.le_of_ble_eq_true rfl)) rfl rfl rfl ?_
  refine me1 (pc' := 36) dm_X11_putBytes_35 rfl rfl rfl rfl ?_
  refine me0 (pc' := 37) dm_X11_putBytes_36 rfl rfl rfl rfl ?_
  refine me3 (pc' := 40) dm_X11_putBytes_37 (g_get (v := .int (17 : Int32)) (lu (n := 2) (j := 0) hn rfl) rfl rfl (Nat.le_of_ble_eq_true rfl)) rfl rfl rfl ?_
  refine me0 (pc' := 41) (S' := .int (1 : Int32) :: _) dm_X11_putBytes_40 rfl rfl rfl rfl ?_
  refine me0 (pc' := 42) (S' := .int (18 : Int32) :: _) dm_X11_putBytes_41 rfl rfl rfl rfl ?_
  refine me3 (pc' := 45) dm_X11_putBytes_42 (u_put (fs' := [.ref 3, .int (18 : Int32), .ref 4, .ref 9, .ref 13, .ref 15, .ref 16, .ref 98, .ref 101, .ref 101, .int (0 : Int32), .int (-1 : Int32), .int (0 : Int32)]) (n := 2) (j := 0) hn rfl rfl rfl (Nat.le_of_ble_eq_true rfl) rfl (by decide) (fun z => by cases z) (by rw [List.set_set]) (Nat.le_of_ble_eq_true rfl)) rfl rfl rfl ?_
  refine me1 (pc' := 48) (L' := [(2, .int (8 : Int32)), (0, .ref 2), (1, .int p4)]) dm_X11_putBytes_45 rfl rfl rfl rfl ?_
  refine me2 (pc' := 3) dm_X11_putBytes_48 rfl rfl rfl ?_
  refine me1 (pc' := 4) dm_X11_putBytes_3 rfl rfl rfl rfl ?_
  refine me_1f (pc' := 7) dm_X11_putBytes_4 rfl (by decide) rfl ?_
  refine me1 (pc' := 8) dm_X11_putBytes_7 rfl rfl rfl rfl ?_
  refine me3 (pc' := 11) dm_X11_putBytes_8 (g_get (v := .int (18 : Int32)) (lu (n := 2) (j := 0) hn rfl) rfl rfl (Nat.le_of_ble_eq_true rfl)) rfl rfl rfl ?_
  refine me1 (pc' := 12) dm_X11_putBytes_11 rfl rfl rfl rfl ?_
  refine me3 (pc' := 15) dm_X11_putBytes_12 (g_get (v := .ref 3) (lu (n := 2) (j := 0) hn rfl) rfl rfl (Nat.le_of_ble_eq_true rfl)) rfl rfl rfl ?_
  refine me3 (pc' := 16) dm_X11_putBytes_15 (g_len (v := (200 : Int32)) (lu (n := 2) (j := 1) hn rfl) rfl rfl (Nat.le_of_ble_eq_true rfl)) rfl rfl rfl ?_
  refine me_2f (pc' := 19) dm_X11_putBytes_16 rfl (by decide) rfl ?_
  refine me1 (pc' := 20) dm_X11_putBytes_19 rfl rfl rfl rfl ?_
  refine me3 (pc' := 23) dm_X11_putBytes_20 (g_get (v := .ref 3) (lu (n := 2) (j := 0) hn rfl) rfl rfl (Nat.le_of_ble_eq_true rfl)) rfl rfl rfl ?_
  refine me1 (pc' := 24) dm_X11_putBytes_23 rfl rfl rfl rfl ?_
  refine me3 (pc' := 27) dm_X11_putBytes_24 (g_get (v := .int (18 : Int32)) (lu (n := 2) (j := 0) hn rfl) rfl rfl (Nat.le_of_ble_eq_true rfl)) rfl rfl rfl ?_
  refine me1 (pc' := 28) dm_X11_putBytes_27 rfl rfl rfl rfl ?_
  refine me1 (pc' := 29) dm_X11_putBytes_28 rfl rfl rfl rfl ?_
  refine me0 (pc' := 30) dm_X11_putBytes_29 rfl rfl rfl rfl ?_
  refine me0 (pc' := 33) (S' := .int (255 : Int32) :: _) dm_X11_putBytes_30 rfl rfl rfl rfl ?_
  refine me0 (pc' := 34) dm_X11_putBytes_33 rfl rfl rfl rfl ?_
  refine me3 (pc' := 35) dm_X11_putBytes_34 (u_iast (n := 2) (j := 1) hn rfl rfl (by decide) (by rw [List.set_comm _ _ (by decide), List.set_set]) (Nat.le_of_ble_eq_true rfl)) rfl rfl rfl ?_
  refine me1 (pc' := 36) dm_X11_putBytes_35 rfl rfl rfl rfl ?_
  refine me0 (pc' := 37) dm_X11_putBytes_36 rfl rfl rfl rfl ?_
  refine me3 (pc' := 40) dm_X11_putBytes_37 (g_get (v := .int (18 : Int32)) (lu (n := 2) (j := 0) hn rfl) rfl rfl (Nat.le_of_ble_eq_true rfl)) rfl rfl rfl ?_
  refine me0 (pc' := 41) (S' := .int (1 : Int32) :: _) dm_X11_putBytes_40 rfl rfl rfl rfl ?_
  refine me0 (pc' := 42) (S' := .int (19 : Int32) :: _) dm_X11_putBytes_41 rfl rfl rfl rfl ?_
  refine me3 (pc' := 45) dm_X11_putBytes_42 (u_put (fs' := [.ref 3, .int (19 : Int32), .ref 4, .ref 9, .ref 13, .ref 15, .ref 16, .ref 98, .ref 101, .ref 101, .int (0 : Int32), .int (-1 : Int32), .int (0 : Int32)]) (n := 2) (j := 0) hn rfl rfl rfl (Nat.le_of_ble_eq_true rfl) rfl (by decide) (fun z => by cases z) (by rw [List.set_set]) (Nat.le_of_ble_eq_true rfl)) rfl rfl rfl ?_
  refine me1 (pc' := 48) (L' := [(2, .int (0 : Int32)), (0, .ref 2), (1, .int p4)]) dm_X11_putBytes_45 rfl rfl rfl rfl ?_
  refine me2 (pc' := 3) dm_X11_putBytes_48 rfl rfl rfl ?_
  refine me1 (pc' := 4) dm_X11_putBytes_3 rfl rfl rfl rfl ?_
  refine me_1f (pc' := 7) dm_X11_putBytes_4 rfl (by decide) rfl ?_
  refine me1 (pc' := 8) dm_X11_putBytes_7 rfl rfl rfl rfl ?_
  refine me3 (pc' := 11) dm_X11_putBytes_8 (g_get (v := .int (19 : Int32)) (lu (n := 2) (j := 0) hn rfl) rfl rfl (Nat.le_of_ble_eq_true rfl)) rfl rfl rfl ?_
  refine me1 (pc' := 12) dm_X11_putBytes_11 rfl rfl rfl rfl ?_
  refine me3 (pc' := 15) dm_X11_putBytes_12 (g_get (v := .ref 3) (lu (n := 2) (j := 0) hn rfl) rfl rfl (Nat.le_of_ble_eq_true rfl)) rfl rfl rfl ?_
  refine me3 (pc' := 16) dm_X11_putBytes_15 (g_len (v := (200 : Int32)) (lu (n := 2) (j := 1) hn rfl) rfl rfl (Nat.le_of_ble_eq_true rfl)) rfl rfl rfl ?_
  refine me_2f (pc' := 19) dm_X11_putBytes_16 rfl (by decide) rfl ?_
  refine me1 (pc' := 20) dm_X11_putBytes_19 rfl rfl rfl rfl ?_
  refine me3 (pc' := 23) dm_X11_putBytes_20 (g_get (v := .ref 3) (lu (n := 2) (j := 0) hn rfl) rfl rfl (Nat.le_of_ble_eq_true rfl)) rfl rfl rfl ?_
  refine me1 (pc' := 24) dm_X11_putBytes_23 rfl rfl rfl rfl ?_
  refine me3 (pc' := 27) dm_X11_putBytes_24 (g_get (v := .int (19 : Int32)) (lu (n := 2) (j := 0) hn rfl) rfl rfl (Nat.le_of_ble_eq_true rfl)) rfl rfl rfl ?_
  refine me1 (pc' := 28) dm_X11_putBytes_27 rfl rfl rfl rfl ?_
  refine me1 (pc' := 29) dm_X11_putBytes_28 rfl rfl rfl rfl ?_
  refine me0 (pc' := 30) dm_X11_putBytes_29 rfl rfl rfl rfl ?_
  refine me0 (pc' := 33) (S' := .int (255 : Int32) :: _) dm_X11_putBytes_30 rfl rfl rfl rfl ?_
  refine me0 (pc' := 34) dm_X11_putBytes_33 rfl rfl rfl rfl ?_
  refine me3 (pc' := 35) dm_X11_putBytes_34 (u_iast (n := 2) (j := 1) hn rfl rfl (by decide) (by rw [List.set_comm _ _ (by decide), List.set_set]) (Nat.le_of_ble_eq_true rfl)) rfl rfl rfl ?_
  refine me1 (pc' := 36) dm_X11_putBytes_35 rfl rfl rfl rfl ?_
  refine me0 (pc' := 37) dm_X11_putBytes_36 rfl rfl rfl rfl ?_
  refine me3 (pc' := 40) dm_X11_putBytes_37 (g_get (v := .int (19 : Int32)) (lu (n := 2) (j := 0) hn rfl) rfl rfl (Nat.le_of_ble_eq_true rfl)) rfl rfl rfl ?_
  refine me0 (pc' := 41) (S' := .int (1 : Int32) :: _) dm_X11_putBytes_40 rfl rfl rfl rfl ?_
  refine me0 (pc' := 42) (S' := .int (20 : Int32) :: _) dm_X11_putBytes_41 rfl rfl rfl rfl ?_
  refine me3 (pc' := 45) dm_X11_putBytes_42 (u_put (fs' := [.ref 3, .int (20 : Int32), .ref 4, .ref 9, .ref 13, .ref 15, .ref 16, .ref 98, .ref 101, .ref 101, .int (0 : Int32), .int (-1 : Int32), .int (0 : Int32)]) (n := 2) (j := 0) hn rfl rfl rfl (Nat.le_of_ble_eq_true rfl) rfl (by decide) (fun z => by cases z) (by rw [List.set_set]) (Nat.le_of_ble_eq_true rfl)) rfl rfl rfl ?_
  refine me1 (pc' := 48) (L' := [(2, .int (-8 : Int32)), (0, .ref 2), (1, .int p4)]) dm_X11_putBytes_45 rfl rfl rfl rfl ?_
  refine me2 (pc' := 3) dm_X11_putBytes_48 rfl rfl rfl ?_
  refine me1 (pc' := 4) dm_X11_putBytes_3 rfl rfl rfl rfl ?_
  refine me_1t (pc' := 51) dm_X11_putBytes_4 rfl rfl ?_
  refine me5 dm_X11_putBytes_51 rfl rfl rfl ?_
  refine me1 (pc' := 43) dm_X11_feed_42 rfl rfl rfl rfl ?_
  refine me3 (pc' := 46) dm_X11_feed_43 (g_get (v := .int (20 : Int32)) (lu (n := 2) (j := 0) hn rfl) rfl rfl (Nat.le_of_ble_eq_true rfl)) rfl rfl rfl ?_
  refine me5 dm_X11_feed_46 rfl rfl rfl ?_
  exact k _ _ rfl (Nat.le_trans (Nat.le_of_eq (Eq.trans (sl_set rfl rfl) (sl_set rfl rfl))) (Nat.le_of_ble_eq_true rfl)) (Nat.le_of_ble_eq_true rfl) (Nat.le_of_ble_eq_true rfl)
