set_option maxRecDepth 100000 in
set_option maxHeartbeats 40000000 in
theorem r_feed_any_any_any_any_any {xt : mj_X} {d : Nat} {h W : mj_H} (hn : h.length = 102) {P : Option Value → mj_H → Prop} {p0 : Int32} {p1 : Int32} {p2 : Int32} {p3 : Int32} {p4 : Int32} (k : ∀ U, U.length = 25 → mj_sl U ≤ 3000000 → P (some (.int (20 : Int32))) (h ++ (U ++ W))) : pgE xt (d + 20) 12 6 false (Option.some FieldType.int) (mj_dec prog_14_method_93_code) 0 [(0, .ref 102), (1, .int p0), (2, .int p1), (3, .int p2), (4, .int p3), (5, .int p4)] [] (h ++ (rT ++ W)) P := by
  refine me1 (pc' := 1) dm_X12_feed_0 rfl rfl rfl rfl ?_
  refine me3 (pc' := 4) dm_X12_feed_1 (g_get (v := .int (0 : Int32)) (lu (n := 102) (j := 0) hn rfl) rfl rfl (Nat.le_of_ble_eq_true rfl)) rfl rfl rfl ?_
  refine me0 (pc' := 6) (S' := .int (20 : Int32) :: _) dm_X12_feed_4 rfl rfl rfl rfl ?_
  refine me0 (pc' := 7) (S' := .int (20 : Int32) :: _) dm_X12_feed_6 rfl rfl rfl rfl ?_
  refine me0 (pc' := 10) (S' := .int (200 : Int32) :: _) dm_X12_feed_7 rfl rfl rfl rfl ?_
  refine me_2t (pc' := 15) dm_X12_feed_10 rfl rfl ?_
  refine me1 (pc' := 16) dm_X12_feed_15 rfl rfl rfl rfl ?_
  refine me1 (pc' := 17) dm_X12_feed_16 rfl rfl rfl rfl ?_
  refine me4 (pc' := 20) (L0 := [(0, .ref 102), (1, .int p0)]) dm_X12_feed_17 rfl (g_inv (As := [.int p0]) (lu (n := 102) (j := 0) hn rfl) rfl rfl rfl (Nat.le_of_ble_eq_true rfl)) pm_X12_feedOne rfl (Nat.le_of_ble_eq_true rfl) rfl rfl rfl ?_
  refine me0 (pc' := 2) (S' := .int (24 : Int32) :: _) dm_X12_feedOne_0 rfl rfl rfl rfl ?_
  refine me1 (pc' := 3) (L' := [(2, .int (24 : Int32)), (0, .ref 102), (1, .int p0)]) dm_X12_feedOne_2 rfl rfl rfl rfl ?_
  refine me1 (pc' := 4) dm_X12_feedOne_3 rfl rfl rfl rfl ?_
  refine me_1f (pc' := 7) dm_X12_feedOne_4 rfl (by decide) rfl ?_
  refine me1 (pc' := 8) dm_X12_feedOne_7 rfl rfl rfl rfl ?_
  refine me3 (pc' := 11) dm_X12_feedOne_8 (g_get (v := .ref 119) (lu (n := 102) (j := 0) hn rfl) rfl rfl (Nat.le_of_ble_eq_true rfl)) rfl rfl rfl ?_
  refine me1 (pc' := 12) dm_X12_feedOne_11 rfl rfl rfl rfl ?_
  refine me3 (pc' := 15) dm_X12_feedOne_12 (g_get (v := .int (0 : Int32)) (lu (n := 102) (j := 0) hn rfl) rfl rfl (Nat.le_of_ble_eq_true rfl)) rfl rfl rfl ?_
  refine me1 (pc' := 16) dm_X12_feedOne_15 rfl rfl rfl rfl ?_
  refine me1 (pc' := 17) dm_X12_feedOne_16 rfl rfl rfl rfl ?_
  refine me0 (pc' := 18) dm_X12_feedOne_17 rfl rfl rfl rfl ?_
  refine me0 (pc' := 19) dm_X12_feedOne_18 rfl rfl rfl rfl ?_
  refine me3 (pc' := 20) dm_X12_feedOne_19 (u_bast (n := 102) (j := 17) hn rfl rfl (by decide) rfl (Nat.le_of_ble_eq_true rfl)) rfl rfl rfl ?_
  refine me1 (pc' := 21) dm_X12_feedOne_20 rfl rfl rfl rfl ?_
  refine me0 (pc' := 22) dm_X12_feedOne_21 rfl rfl rfl rfl ?_
  refine me3 (pc' := 25) dm_X12_feedOne_22 (g_get (v := .int (0 : Int32)) (lu (n := 102) (j := 0) hn rfl) rfl rfl (Nat.le_of_ble_eq_true rfl)) rfl rfl rfl ?_
  refine me0 (pc' := 26) (S' := .int (1 : Int32) :: _) dm_X12_feedOne_25 rfl rfl rfl rfl ?_
  refine me0 (pc' := 27) (S' := .int (1 : Int32) :: _) dm_X12_feedOne_26 rfl rfl rfl rfl ?_
  refine me3 (pc' := 30) dm_X12_feedOne_27 (u_put (fs' := [.ref 103, .ref 104, .ref 105, .int (1 : Int32), .int (4 : Int32), .int (0 : Int32), .int (-1 : Int32), .int (0 : Int32), .int (500000 : Int32), .int (0 : Int32), .int (0 : Int32), .int (0 : Int32), .ref 106, .int (0 : Int32), .ref 107, .ref 108, .ref 109, .int (0 : Int32), .int (0 : Int32), .ref 110, .ref 111, .ref 112, .ref 113, .int (0 : Int32), .int (0 : Int32), .ref 114, .ref 115, .ref 116, .ref 117, .ref 118, .int (3 : Int32), .int (3 : Int32), .ref 119, .int (1 : Int32), .int (0 : Int32), .int (0 : Int32), .int (0 : Int32), .int (0 : Int32), .int (0 : Int32), .int (0 : Int32), .int (0 : Int32), .long (0 : Int64), .long (0 : Int64), .ref 120, .ref 121, .ref 122, .ref 123, .ref 124, .ref 125, .ref 126, .int (0 : Int32), .int (0 : Int32), .int (0 : Int32), .int (0 : Int32), .int (0 : Int32), .int (0 : Int32), .long (0 : Int64), .int (0 : Int32), .int (-1 : Int32), .int (-1 : Int32)]) (n := 102) (j := 0) hn rfl rfl rfl (Nat.le_of_ble_eq_true rfl) rfl (by decide) (fun z => by cases z) rfl (Nat.le_of_ble_eq_true rfl)) rfl rfl rfl ?_
  refine me1 (pc' := 33) (L' := [(2, .int (16 : Int32)), (0, .ref 102), (1, .int p0)]) dm_X12_feedOne_30 rfl rfl rfl rfl ?_
  refine me2 (pc' := 3) dm_X12_feedOne_33 rfl rfl rfl ?_
  refine me1 (pc' := 4) dm_X12_feedOne_3 rfl rfl rfl rfl ?_
  refine me_1f (pc' := 7) dm_X12_feedOne_4 rfl (by decide) rfl ?_
  refine me1 (pc' := 8) dm_X12_feedOne_7 rfl rfl rfl rfl ?_
  refine me3 (pc' := 11) dm_X12_feedOne_8 (g_get (v := .ref 119) (lu (n := 102) (j := 0) hn rfl) rfl rfl (Nat.le_of_ble_eq_true rfl)) rfl rfl rfl ?_
  refine me1 (pc' := 12) dm_X12_feedOne_11 rfl rfl rfl rfl ?_
  refine me3 (pc' := 15) dm_X12_feedOne_12 (g_get (v := .int (1 : Int32)) (lu (n := 102) (j := 0) hn rfl) rfl rfl (Nat.le_of_ble_eq_true rfl)) rfl rfl rfl ?_
  refine me1 (pc' := 16) dm_X12_feedOne_15 rfl rfl rfl rfl ?_
  refine me1 (pc' := 17) dm_X12_feedOne_16 rfl rfl rfl rfl ?_
  refine me0 (pc' := 18) dm_X12_feedOne_17 rfl rfl rfl rfl ?_
  refine me0 (pc' := 19) dm_X12_feedOne_18 rfl rfl rfl rfl ?_
  refine me3 (pc' := 20) dm_X12_feedOne_19 (u_bast (n := 102) (j := 17) hn rfl rfl (by decide) (by rw [List.set_comm _ _ (by decide), List.set_set]) (Nat.le_of_ble_eq_true rfl)) rfl rfl rfl ?_
  refine me1 (pc' := 21) dm_X12_feedOne_20 rfl rfl rfl rfl ?_
  refine me0 (pc' := 22) dm_X12_feedOne_21 rfl rfl rfl rfl ?_
  refine me3 (pc' := 25) dm_X12_feedOne_22 (g_get (v := .int (1 : Int32)) (lu (n := 102) (j := 0) hn rfl) rfl rfl (Nat.le_of_ble_eq_true rfl)) rfl rfl rfl ?_
  refine me0 (pc' := 26) (S' := .int (1 : Int32) :: _) dm_X12_feedOne_25 rfl rfl rfl rfl ?_
  refine me0 (pc' := 27) (S' := .int (2 : Int32) :: _) dm_X12_feedOne_26 rfl rfl rfl rfl ?_
  refine me3 (pc' := 30) dm_X12_feedOne_27 (u_put (fs' := [.ref 103, .ref 104, .ref 105, .int (1 : Int32), .int (4 : Int32), .int (0 : Int32), .int (-1 : Int32), .int (0 : Int32), .int (500000 : Int32), .int (0 : Int32), .int (0 : Int32), .int (0 : Int32), .ref 106, .int (0 : Int32), .ref 107, .ref 108, .ref 109, .int (0 : Int32), .int (0 : Int32), .ref 110, .ref 111, .ref 112, .ref 113, .int (0 : Int32), .int (0 : Int32), .ref 114, .ref 115, .ref 116, .ref 117, .ref 118, .int (3 : Int32), .int (3 : Int32), .ref 119, .int (2 : Int32), .int (0 : Int32), .int (0 : Int32), .int (0 : Int32), .int (0 : Int32), .int (0 : Int32), .int (0 : Int32), .int (0 : Int32), .long (0 : Int64), .long (0 : Int64), .ref 120, .ref 121, .ref 122, .ref 123, .ref 124, .ref 125, .ref 126, .int (0 : Int32), .int (0 : Int32), .int (0 : Int32), .int (0 : Int32), .int (0 : Int32), .int (0 : Int32), .long (0 : Int64), .int (0 : Int32), .int (-1 : Int32), .int (-1 : Int32)]) (n := 102) (j := 0) hn rfl rfl rfl (Nat.le_of_ble_eq_true rfl) rfl (by decide) (fun z => by cases z) (by rw [List.set_set]) (Nat.le_of_ble_eq_true rfl)) rfl rfl rfl ?_
  refine me1 (pc' := 33) (L' := [(2, .int (8 : Int32)), (0, .ref 102), (1, .int p0)]) dm_X12_feedOne_30 rfl rfl rfl rfl ?_
  refine me2 (pc' := 3) dm_X12_feedOne_33 rfl rfl rfl ?_
  refine me1 (pc' := 4) dm_X12_feedOne_3 rfl rfl rfl rfl ?_
  refine me_1f (pc' := 7) dm_X12_feedOne_4 rfl (by decide) rfl ?_
  refine me1 (pc' := 8) dm_X12_feedOne_7 rfl rfl rfl rfl ?_
  refine me3 (pc' := 11) dm_X12_feedOne_8 (g_get (v := .ref 119) (lu (n := 102) (j := 0) hn rfl) rfl rfl (Nat.le_of_ble_eq_true rfl)) rfl rfl rfl ?_
  refine me1 (pc' := 12) dm_X12_feedOne_11 rfl rfl rfl rfl ?_
  refine me3 (pc' := 15) dm_X12_feedOne_12 (g_get (v := .int (2 : Int32)) (lu (n := 102) (j := 0) hn rfl) rfl rfl (Nat.le_of_ble_eq_true rfl)) rfl rfl rfl ?_
  refine me1 (pc' := 16) dm_X12_feedOne_15 rfl rfl rfl rfl ?_
  refine me1 (pc' := 17) dm_X12_feedOne_16 rfl rfl rfl rfl ?_
  refine me0 (pc' := 18) dm_X12_feedOne_17 rfl rfl rfl rfl ?_
  refine me0 (pc' := 19) dm_X12_feedOne_18 rfl rfl rfl rfl ?_
  refine me3 (pc' := 20) dm_X12_feedOne_19 (u_bast (n := 102) (j := 17) hn rfl rfl (by decide) (by rw [List.set_comm _ _ (by decide), List.set_set]) (Nat.le_of_ble_eq_true rfl)) rfl rfl rfl ?_
  refine me1 (pc' := 21) dm_X12_feedOne_20 rfl rfl rfl rfl ?_
  refine me0 (pc' := 22) dm_X12_feedOne_21 rfl rfl rfl rfl ?_
  refine me3 (pc' := 25) dm_X12_feedOne_22 (g_get (v := .int (2 : Int32)) (lu (n := 102) (j := 0) hn rfl) rfl rfl (Nat.le_of_ble_eq_true rfl)) rfl rfl rfl ?_
  refine me0 (pc' := 26) (S' := .int (1 : Int32) :: _) dm_X12_feedOne_25 rfl rfl rfl rfl ?_
  refine me0 (pc' := 27) (S' := .int (3 : Int32) :: _) dm_X12_feedOne_26 rfl rfl rfl rfl ?_
  refine me3 (pc' := 30) dm_X12_feedOne_27 (u_put (fs' := [.ref 103, .ref 104, .ref 105, .int (1 : Int32), .int (4 : Int32), .int (0 : Int32), .int (-1 : Int32), .int (0 : Int32), .int (500000 : Int32), .int (0 : Int32), .int (0 : Int32), .int (0 : Int32), .ref 106, .int (0 : Int32), .ref 107, .ref 108, .ref 109, .int (0 : Int32), .int (0 : Int32), .ref 110, .ref 111, .ref 112, .ref 113, .int (0 : Int32), .int (0 : Int32), .ref 114, .ref 115, .ref 116, .ref 117, .ref 118, .int (3 : Int32), .int (3 : Int32), .ref 119, .int (3 : Int32), .int (0 : Int32), .int (0 : Int32), .int (0 : Int32), .int (0 : Int32), .int (0 : Int32), .int (0 : Int32), .int (0 : Int32), .long (0 : Int64), .long (0 : Int64), .ref 120, .ref 121, .ref 122, .ref 123, .ref 124, .ref 125, .ref 126, .int (0 : Int32), .int (0 : Int32), .int (0 : Int32), .int (0 : Int32), .int (0 : Int32), .int (0 : Int32), .long (0 : Int64), .int (0 : Int32), .int (-1 : Int32), .int (-1 : Int32)]) (n := 102) (j := 0) hn rfl rfl rfl (Nat.le_of_ble_eq_true rfl) rfl (by decide) (fun z => by cases z) (by rw [List.set_set]) (Nat.le_of_ble_eq_true rfl)) rfl rfl rfl ?_
  refine me1 (pc' := 33) (L' := [(2, .int (0 : Int32)), (0, .ref 102), (1, .int p0)]) dm_X12_feedOne_30 rfl rfl rfl rfl ?_
  refine me2 (pc' := 3) dm_X12_feedOne_33 rfl rfl rfl ?_
  refine me1 (pc' := 4) dm_X12_feedOne_3 rfl rfl rfl rfl ?_
  refine me_1f (pc' := 7) dm_X12_feedOne_4 rfl (by decide) rfl ?_
  refine me1 (pc' := 8) dm_X12_feedOne_7 rfl rfl rfl rfl ?_
  refine me3 (pc' := 11) dm_X12_feedOne_8 (g_get (v := .ref 119) (lu (n := 102) (j := 0) hn rfl) rfl rfl (Nat.le_of_ble_eq_true rfl)) rfl rfl rfl ?_
  refine me1 (pc' := 12) dm_X12_feedOne_11 rfl rfl rfl rfl ?_
  refine me3 (pc' := 15) dm_X12_feedOne_12 (g_get (v := .int (3 : Int32)) (lu (n := 102) (j := 0) hn rfl) rfl rfl (Nat.le_of_ble_eq_true rfl)) rfl rfl rfl ?_
  refine me1 (pc' := 16) dm_X12_feedOne_15 rfl rfl rfl rfl ?_
  refine me1 (pc' := 17) dm_X12_feedOne_16 rfl rfl rfl rfl ?_
  refine me0 (pc' := 18) dm_X12_feedOne_17 rfl rfl rfl rfl ?_
  refine me0 (pc' := 19) dm_X12_feedOne_18 rfl rfl rfl rfl ?_
  refine me3 (pc' := 20) dm_X12_feedOne_19 (u_bast (n := 102) (j := 17) hn rfl rfl (by decide) (by rw [List.set_comm _ _ (by decide), List.set_set]) (Nat.le_of_ble_eq_true rfl)) rfl rfl rfl ?_
  refine me1 (pc' := 21) dm_X12_feedOne_20 rfl rfl rfl rfl ?_
  refine me0 (pc' := 22) dm_X12_feedOne_21 rfl rfl rfl rfl ?_
  refine me3 (pc' := 25) dm_X12_feedOne_22 (g_get (v := .int (3 : Int32)) (lu (n := 102) (j := 0) hn rfl) rfl rfl (Nat.le_of_ble_eq_true rfl)) rfl rfl rfl ?_
  refine me0 (pc' := 26) (S' := .int (1 : Int32) :: _) dm_X12_feedOne_25 rfl rfl rfl rfl ?_
  refine me0 (pc' := 27) (S' := .int (4 : Int32) :: _) dm_X12_feedOne_26 rfl rfl rfl rfl ?_
  refine me3 (pc' := 30) dm_X12_feedOne_27 (u_put (fs' := [.ref 103, .ref 104, .ref 105, .int (1 : Int32), .int (4 : Int32), .int (0 : Int32), .int (-1 : Int32), .int (0 : Int32), .int (500000 : Int32), .int (0 : Int32), .int (0 : Int32), .int (0 : Int32), .ref 106, .int (0 : Int32), .ref 107, .ref 108, .ref 109, .int (0 : Int32), .int (0 : Int32), .ref 110, .ref 111, .ref 112, .ref 113, .int (0 : Int32), .int (0 : Int32), .ref 114, .ref 115, .ref 116, .ref 117, .ref 118, .int (3 : Int32), .int (3 : Int32), .ref 119, .int (4 : Int32), .int (0 : Int32), .int (0 : Int32), .int (0 : Int32), .int (0 : Int32), .int (0 : Int32), .int (0 : Int32), .int (0 : Int32), .long (0 : Int64), .long (0 : Int64), .ref 120, .ref 121, .ref 122, .ref 123, .ref 124, .ref 125, .ref 126, .int (0 : Int32), .int (0 : Int32), .int (0 : Int32), .int (0 : Int32), .int (0 : Int32), .int (0 : Int32), .long (0 : Int64), .int (0 : Int32), .int (-1 : Int32), .int (-1 : Int32)]) (n := 102) (j := 0) hn rfl rfl rfl (Nat.le_of_ble_eq_true rfl) rfl (by decide) (fun z => by cases z) (by rw [List.set_set]) (Nat.le_of_ble_eq_true rfl)) rfl rfl rfl ?_
  refine me1 (pc' := 33) (L' := [(2, .int (-8 : Int32)), (0, .ref 102), (1, .int p0)]) dm_X12_feedOne_30 rfl rfl rfl rfl ?_
  refine me2 (pc' := 3) dm_X12_feedOne_33 rfl rfl rfl ?_
  refine me1 (pc' := 4) dm_X12_feedOne_3 rfl rfl rfl rfl ?_
  refine me_1t (pc' := 36) dm_X12_feedOne_4 rfl rfl ?_
  refine me5 dm_X12_feedOne_36 rfl rfl rfl ?_
  refine me1 (pc' := 21) dm_X12_feed_20 rfl rfl rfl rfl ?_
  refine me1 (pc' := 22) dm_X12_feed_21 rfl rfl rfl rfl ?_
  refine me4 (pc' := 25) (L0 := [(0, .ref 102), (1, .int p1)]) dm_X12_feed_22 rfl (g_inv (As := [.int p1]) (lu (n := 102) (j := 0) hn rfl) rfl rfl rfl (Nat.le_of_ble_eq_true rfl)) pm_X12_feedOne rfl (Nat.le_of_ble_eq_true rfl) rfl rfl rfl ?_
  refine me0 (pc' := 2) (S' := .int (24 : Int32) :: _) dm_X12_feedOne_0 rfl rfl rfl rfl ?_
  refine me1 (pc' := 3) (L' := [(2, .int (24 : Int32)), (0, .ref 102), (1, .int p1)]) dm_X12_feedOne_2 rfl rfl rfl rfl ?_
  refine me1 (pc' := 4) dm_X12_feedOne_3 rfl rfl rfl rfl ?_
  refine me_1f (pc' := 7) dm_X12_feedOne_4 rfl (by decide) rfl ?_
  refine me1 (pc' := 8) dm_X12_feedOne_7 rfl rfl rfl rfl ?_
  refine me3 (pc' := 11) dm_X12_feedOne_8 (g_get (v := .ref 119) (lu (n := 102) (j := 0) hn rfl) rfl rfl (Nat.le_of_ble_eq_true rfl)) rfl rfl rfl ?_
  refine me1 (pc' := 12) dm_X12_feedOne_11 rfl rfl rfl rfl ?_
  refine me3 (pc' := 15) dm_X12_feedOne_12 (g_get (v := .int (4 : Int32)) (lu (n := 102) (j := 0) hn rfl) rfl rfl (Nat.le_of_ble_eq_true rfl)) rfl rfl rfl ?_
  refine me1 (pc' := 16) dm_X12_feedOne_15 rfl rfl rfl rfl ?_
  refine me1 (pc' := 17) dm_X12_feedOne_16 rfl rfl rfl rfl ?_
  refine me0 (pc' := 18) dm_X12_feedOne_17 rfl rfl rfl rfl ?_
  refine me0 (pc' := 19) dm_X12_feedOne_18 rfl rfl rfl rfl ?_
  refine me3 (pc' := 20) dm_X12_feedOne_19 (u_bast (n := 102) (j := 17) hn rfl rfl (by decide) (by rw [List.set_comm _ _ (by decide), List.set_set]) (Nat.le_of_ble_eq_true rfl)) rfl rfl rfl ?_
  refine me1 (pc' := 21) dm_X12_feedOne_20 rfl rfl rfl rfl ?_
  refine me0 (pc' := 22) dm_X12_feedOne_21 rfl rfl rfl rfl ?_
  refine me3 (pc' := 25) dm_X12_feedOne_22 (g_get (v := .int (4 : Int32)) (lu (n := 102) (j := 0) hn rfl) rfl rfl (Nat.le_of_ble_eq_true rfl)) rfl rfl rfl ?_
  refine me0 (pc' := 26) (S' := .int (1 : Int32) :: _) dm_X12_feedOne_25 rfl rfl rfl rfl ?_
  refine me0 (pc' := 27) (S' := .int (5 : Int32) :: _) dm_X12_feedOne_26 rfl rfl rfl rfl ?_
  refine me3 (pc' := 30) dm_X12_feedOne_27 (u_put (fs' := [.ref 103, .ref 104, .ref 105, .int (1 : Int32), .int (4 : Int32), .int (0 : Int32), .int (-1 : Int32), .int (0 : Int32), .int (500000 : Int32), .int (0 : Int32), .int (0 : Int32), .int (0 : Int32), .ref 106, .int (0 : Int32), .ref 107, .ref 108, .ref 109, .int (0 : Int32), .int (0 : Int32), .ref 110, .ref 111, .ref 112, .ref 113, .int (0 : Int32), .int (0 : Int32), .ref 114, .ref 115, .ref 116, .ref 117, .ref 118, .int (3 : Int32), .int (3 : Int32), .ref 119, .int (5 : Int32), .int (0 : Int32), .int (0 : Int32), .int (0 : Int32), .int (0 : Int32), .int (0 : Int32), .int (0 : Int32), .int (0 : Int32), .long (0 : Int64), .long (0 : Int64), .ref 120, .ref 121, .ref 122, .ref 123, .ref 124, .ref 125, .ref 126, .int (0 : Int32), .int (0 : Int32), .int (0 : Int32), .int (0 : Int32), .int (0 : Int32), .int (0 : Int32), .long (0 : Int64), .int (0 : Int32), .int (-1 : Int32), .int (-1 : Int32)]) (n := 102) (j := 0) hn rfl rfl rfl (Nat.le_of_ble_eq_true rfl) rfl (by decide) (fun z => by cases z) (by rw [List.set_set]) (Nat.le_of_ble_eq_true rfl)) rfl rfl rfl ?_
  refine me1 (pc' := 33) (L' := [(2, .int (16 : Int32)), (0, .ref 102), (1, .int p1)]) dm_X12_feedOne_30 rfl rfl rfl rfl ?_
  refine me2 (pc' := 3) dm_X12_feedOne_33 rfl rfl rfl ?_
  refine me1 (pc' := 4) dm_X12_feedOne_3 rfl rfl rfl rfl ?_
  refine me_1f (pc' := 7) dm_X12_feedOne_4 rfl (by decide) rfl ?_
  refine me1 (pc' := 8) dm_X12_feedOne_7 rfl rfl rfl rfl ?_
  refine me3 (pc' := 11) dm_X12_feedOne_8 (g_get (v := .ref 119) (lu (n := 102) (j := 0) hn rfl) rfl rfl (Nat.le_of_ble_eq_true rfl)) rfl rfl rfl ?_
  refine me1 (pc' := 12) dm_X12_feedOne_11 rfl rfl rfl rfl ?_
  refine me3 (pc' := 15) dm_X12_feedOne_12 (g_get (v := .int (5 : Int32)) (lu (n := 102) (j := 0) hn rfl) rfl rfl (Nat.le_of_ble_eq_true rfl)) rfl rfl rfl ?_
  refine me1 (pc' := 16) dm_X12_feedOne_15 rfl rfl rfl rfl ?_
  refine me1 (pc' := 17) dm_X12_feedOne_16 rfl rfl rfl rfl ?_
  refine me0 (pc' := 18) dm_X12_feedOne_17 rfl rfl rfl rfl ?_
  refine me0 (pc' := 19) dm_X12_feedOne_18 rfl rfl rfl rfl ?_
  refine me3 (pc' := 20) dm_X12_feedOne_19 (u_bast (n := 102) (j := 17) hn rfl rfl (by decide) (by rw [List.set_comm _ _ (by decide), List.set_set]) (Nat.le_of_ble_eq_true rfl)) rfl rfl rfl ?_
  refine me1 (pc' := 21) dm_X12_feedOne_20 rfl rfl rfl rfl ?_
  refine me0 (pc' := 22) dm_X12_feedOne_21 rfl rfl rfl rfl ?_
  refine me3 (pc' := 25) dm_X12_feedOne_22 (g_get (v := .int (5 : Int32)) (lu (n := 102) (j := 0) hn rfl) rfl rfl (Nat.le_of_ble_eq_true rfl)) rfl rfl rfl ?_
  refine me0 (pc' := 26) (S' := .int (1 : Int32) :: _) dm_X12_feedOne_25 rfl rfl rfl rfl ?_
  refine me0 (pc' := 27) (S' := .int (6 : Int32) :: _) dm_X12_feedOne_26 rfl rfl rfl rfl ?_
  refine me3 (pc' := 30) dm_X12_feedOne_27 (u_put (fs' := [.ref 103, .ref 104, .ref 105, .int (1 : Int32), .int (4 : Int32), .int (0 : Int32), .int (-1 : Int32), .int (0 : Int32), .int (500000 : Int32), .int (0 : Int32), .int (0 : Int32), .int (0 : Int32), .ref 106, .int (0 : Int32), .ref 107, .ref 108, .ref 109, .int (0 : Int32), .int (0 : Int32), .ref 110, .ref 111, .ref 112, .ref 113, .int (0 : Int32), .int (0 : Int32), .ref 114, .ref 115, .ref 116, .ref 117, .ref 118, .int (3 : Int32), .int (3 : Int32), .ref 119, .int (6 : Int32), .int (0 : Int32), .int (0 : Int32), .int (0 : Int32), .int (0 : Int32), .int (0 : Int32), .int (0 : Int32), .int (0 : Int32), .long (0 : Int64), .long (0 : Int64), .ref 120, .ref 121, .ref 122, .ref 123, .ref 124, .ref 125, .ref 126, .int (0 : Int32), .int (0 : Int32), .int (0 : Int32), .int (0 : Int32), .int (0 : Int32), .int (0 : Int32), .long (0 : Int64), .int (0 : Int32), .int (-1 : Int32), .int (-1 : Int32)]) (n := 102) (j := 0) hn rfl rfl rfl (Nat.le_of_ble_eq_true rfl) rfl (by decide) (fun z => by cases z) (by rw [List.set_set]) (Nat.le_of_ble_eq_true rfl)) rfl rfl rfl ?_
  refine me1 (pc' := 33) (L' := [(2, .int (8 : Int32)), (0, .ref 102), (1, .int p1)]) dm_X12_feedOne_30 rfl rfl rfl rfl ?_
  refine me2 (pc' := 3) dm_X12_feedOne_33 rfl rfl rfl ?_
  refine me1 (pc' := 4) dm_X12_feedOne_3 rfl rfl rfl rfl ?_
  refine me_1f (pc' := 7) dm_X12_feedOne_4 rfl (by decide) rfl ?_
  refine me1 (pc' := 8) dm_X12_feedOne_7 rfl rfl rfl rfl ?_
  refine me3 (pc' := 11) dm_X12_feedOne_8 (g_get (v := .ref 119) (lu (n := 102) (j := 0) hn rfl) rfl rfl (Nat.le_of_ble_eq_true rfl)) rfl rfl rfl ?_
  refine me1 (pc' := 12) dm_X12_feedOne_11 rfl rfl rfl rfl ?_
  refine me3 (pc' := 15) dm_X12_feedOne_12 (g_get (v := .int (6 : Int32)) (lu (n := 102) (j := 0) hn rfl) rfl rfl (Nat.le_of_ble_eq_true rfl)) rfl rfl rfl ?_
  refine me1 (pc' := 16) dm_X12_feedOne_15 rfl rfl rfl rfl ?_
  refine me1 (pc' := 17) dm_X12_feedOne_16 rfl rfl rfl rfl ?_
  refine me0 (pc' := 18) dm_X12_feedOne_17 rfl rfl rfl rfl ?_
  refine me0 (pc' := 19) dm_X12_feedOne_18 rfl rfl rfl rfl ?_
  refine me3 (pc' := 20) dm_X12_feedOne_19 (u_bast (n := 102) (j := 17) hn rfl rfl (by decide) (by rw [List.set_comm _ _ (by decide), List.set_set]) (Nat.le_of_ble_eq_true rfl)) rfl rfl rfl ?_
  refine me1 (pc' := 21) dm_X12_feedOne_20 rfl rfl rfl rfl ?_
  refine me0 (pc' := 22) dm_X12_feedOne_21 rfl rfl rfl rfl ?_
  refine me3 (pc' := 25) dm_X12_feedOne_22 (g_get (v := .int (6 : Int32)) (lu (n := 102) (j := 0) hn rfl) rfl rfl (Nat.le_of_ble_eq_true rfl)) rfl rfl rfl ?_
  refine me0 (pc' := 26) (S' := .int (1 : Int32) :: _) dm_X12_feedOne_25 rfl rfl rfl rfl ?_
  refine me0 (pc' := 27) (S' := .int (7 : Int32) :: _) dm_X12_feedOne_26 rfl rfl rfl rfl ?_
  refine me3 (pc' := 30) dm_X12_feedOne_27 (u_put (fs' := [.ref 103, .ref 104, .ref 105, .int (1 : Int32), .int (4 : Int32), .int (0 : Int32), .int (-1 : Int32), .int (0 : Int32), .int (500000 : Int32), .int (0 : Int32), .int (0 : Int32), .int (0 : Int32), .ref 106, .int (0 : Int32), .ref 107, .ref 108, .ref 109, .int (0 : Int32), .int (0 : Int32), .ref 110, .ref 111, .ref 112, .ref 113, .int (0 : Int32), .int (0 : Int32), .ref 114, .ref 115, .ref 116, .ref 117, .ref 118, .int (3 : Int32), .int (3 : Int32), .ref 119, .int (7 : Int32), .int (0 : Int32), .int (0 : Int32), .int (0 : Int32), .int (0 : Int32), .int (0 : Int32), .int (0 : Int32), .int (0 : Int32), .long (0 : Int64), .long (0 : Int64), .ref 120, .ref 121, .ref 122, .ref 123, .ref 124, .ref 125, .ref 126, .int (0 : Int32), .int (0 : Int32), .int (0 : Int32), .int (0 : Int32), .int (0 : Int32), .int (0 : Int32), .long (0 : Int64), .int (0 : Int32), .int (-1 : Int32), .int (-1 : Int32)]) (n := 102) (j := 0) hn rfl rfl rfl (Nat.le_of_ble_eq_true rfl) rfl (by decide) (fun z => by cases z) (by rw [List.set_set]) (Nat.le_of_ble_eq_true rfl)) rfl rfl rfl ?_
  refine me1 (pc' := 33) (L' := [(2, .int (0 : Int32)), (0, .ref 102), (1, .int p1)]) dm_X12_feedOne_30 rfl rfl rfl rfl ?_
  refine me2 (pc' := 3) dm_X12_feedOne_33 rfl rfl rfl ?_
  refine me1 (pc' := 4) dm_X12_feedOne_3 rfl rfl rfl rfl ?_
  refine me_1f (pc' := 7) dm_X12_feedOne_4 rfl (by decide) rfl ?_
  refine me1 (pc' := 8) dm_X12_feedOne_7 rfl rfl rfl rfl ?_
  refine me3 (pc' := 11) dm_X12_feedOne_8 (g_get (v := .ref 119) (lu (n := 102) (j := 0) hn rfl) rfl rfl (Nat.le_of_ble_eq_true rfl)) rfl rfl rfl ?_
  refine me1 (pc' := 12) dm_X12_feedOne_11 rfl rfl rfl rfl ?_
  refine me3 (pc' := 15) dm_X12_feedOne_12 (g_get (v := .int (7 : Int32)) (lu (n := 102) (j := 0) hn rfl) rfl rfl (Nat.le_of_ble_eq_true rfl)) rfl rfl rfl ?_
  refine me1 (pc' := 16) dm_X12_feedOne_15 rfl rfl rfl rfl ?_
  refine me1 (pc' := 17) dm_X12_feedOne_16 rfl rfl rfl rfl ?_
  refine me0 (pc' := 18) dm_X12_feedOne_17 rfl rfl rfl rfl ?_
  refine me0 (pc' := 19) dm_X12_feedOne_18 rfl rfl rfl rfl ?_
  refine me3 (pc' := 20) dm_X12_feedOne_19 (u_bast (n := 102) (j := 17) hn rfl rfl (by decide) (by rw [List.set_comm _ _ (by decide), List.set_set]) (Nat.le_of_ble_eq_true rfl)) rfl rfl rfl ?_
  refine me1 (pc' := 21) dm_X12_feedOne_20 rfl rfl rfl rfl ?_
  refine me0 (pc' := 22) dm_X12_feedOne_21 rfl rfl rfl rfl ?_
  refine me3 (pc' := 25) dm_X12_feedOne_22 (g_get (v := .int (7 : Int32)) (lu (n := 102) (j := 0) hn rfl) rfl rfl (Nat.le_of_ble_eq_true rfl)) rfl rfl rfl ?_
  refine me0 (pc' := 26) (S' := .int (1 : Int32) :: _) dm_X12_feedOne_25 rfl rfl rfl rfl ?_
  refine me0 (pc' := 27) (S' := .int (8 : Int32) :: _) dm_X12_feedOne_26 rfl rfl rfl rfl ?_
  refine me3 (pc' := 30) dm_X12_feedOne_27 (u_put (fs' := [.ref 103, .ref 104, .ref 105, .int (1 : Int32), .int (4 : Int32), .int (0 : Int32), .int (-1 : Int32), .int (0 : Int32), .int (500000 : Int32), .int (0 : Int32), .int (0 : Int32), .int (0 : Int32), .ref 106, .int (0 : Int32), .ref 107, .ref 108, .ref 109, .int (0 : Int32), .int (0 : Int32), .ref 110, .ref 111, .ref 112, .ref 113, .int (0 : Int32), .int (0 : Int32), .ref 114, .ref 115, .ref 116, .ref 117, .ref 118, .int (3 : Int32), .int (3 : Int32), .ref 119, .int (8 : Int32), .int (0 : Int32), .int (0 : Int32), .int (0 : Int32), .int (0 : Int32), .int (0 : Int32), .int (0 : Int32), .int (0 : Int32), .long (0 : Int64), .long (0 : Int64), .ref 120, .ref 121, .ref 122, .ref 123, .ref 124, .ref 125, .ref 126, .int (0 : Int32), .int (0 : Int32), .int (0 : Int32), .int (0 : Int32), .int (0 : Int32), .int (0 : Int32), .long (0 : Int64), .int (0 : Int32), .int (-1 : Int32), .int (-1 : Int32)]) (n := 102) (j := 0) hn rfl rfl rfl (Nat.le_of_ble_eq_true rfl) rfl (by decide) (fun z => by cases z) (by rw [List.set_set]) (Nat.le_of_ble_eq_true rfl)) rfl rfl rfl ?_
  refine me1 (pc' := 33) (L' := [(2, .int (-8 : Int32)), (0, .ref 102), (1, .int p1)]) dm_X12_feedOne_30 rfl rfl rfl rfl ?_
  refine me2 (pc' := 3) dm_X12_feedOne_33 rfl rfl rfl ?_
  refine me1 (pc' := 4) dm_X12_feedOne_3 rfl rfl rfl rfl ?_
  refine me_1t (pc' := 36) dm_X12_feedOne_4 rfl rfl ?_
  refine me5 dm_X12_feedOne_36 rfl rfl rfl ?_
  refine me1 (pc' := 26) dm_X12_feed_25 rfl rfl rfl rfl ?_
  refine me1 (pc' := 27) dm_X12_feed_26 rfl rfl rfl rfl ?_
  refine me4 (pc' := 30) (L0 := [(0, .ref 102), (1, .int p2)]) dm_X12_feed_27 rfl (g_inv (As := [.int p2]) (lu (n := 102) (j := 0) hn rfl) rfl rfl rfl (Nat.le_of_ble_eq_true rfl)) pm_X12_feedOne rfl (Nat.le_of_ble_eq_true rfl) rfl rfl rfl ?_
  refine me0 (pc' := 2) (S' := .int (24 : Int32) :: _) dm_X12_feedOne_0 rfl rfl rfl rfl ?_
  refine me1 (pc' := 3) (L' := [(2, .int (24 : Int32)), (0, .ref 102), (1, .int p2)]) dm_X12_feedOne_2 rfl rfl rfl rfl ?_
  refine me1 (pc' := 4) dm_X12_feedOne_3 rfl rfl rfl rfl ?_
  refine me_1f (pc' := 7) dm_X12_feedOne_4 rfl (by decide) rfl ?_
  refine me1 (pc' := 8) dm_X12_feedOne_7 rfl rfl rfl rfl ?_
  refine me3 (pc' := 11) dm_X12_feedOne_8 (g_get (v := .ref 119) (lu (n := 102) (j := 0) hn rfl) rfl rfl (Nat.le_of_ble_eq_true rfl)) rfl rfl rfl ?_
  refine me1 (pc' := 12) dm_X12_feedOne_11 rfl rfl rfl rfl ?_
  refine me3 (pc' := 15) dm_X12_feedOne_12 (g_get (v := .int (8 : Int32)) (lu (n := 102) (j := 0) hn rfl) rfl rfl (Nat.le_of_ble_eq_true rfl)) rfl rfl rfl ?_
  refine me1 (pc' := 16) dm_X12_feedOne_15 rfl rfl rfl rfl ?_
  refine me1 (pc' := 17) dm_X12_feedOne_16 rfl rfl rfl rfl ?_
  refine me0 (pc' := 18) dm_X12_feedOne_17 rfl rfl rfl rfl ?_
  refine me0 (pc' := 19) dm_X12_feedOne_18 rfl rfl rfl rfl ?_
  refine me3 (pc' := 20) dm_X12_feedOne_19 (u_bast (n := 102) (j := 17) hn rfl rfl (by decide) (by rw [List.set_comm _ _ (by decide), List.set_set]) (Nat.le_of_ble_eq_true rfl)) rfl rfl rfl ?_
  refine me1 (pc' := 21) dm_X12_feedOne_20 rfl rfl rfl rfl ?_
  refine me0 (pc' := 22) dm_X12_feedOne_21 rfl rfl rfl rfl ?_
  refine me3 (pc' := 25) dm_X12_feedOne_22 (g_get (v := .int (8 : Int32)) (lu (n := 102) (j := 0) hn rfl) rfl rfl (Nat.le_of_ble_eq_true rfl)) rfl rfl rfl ?_
  refine me0 (pc' := 26) (S' := .int (1 : Int32) :: _) dm_X12_feedOne_25 rfl rfl rfl rfl ?_
  refine me0 (pc' := 27) (S' := .int (9 : Int32) :: _) dm_X12_feedOne_26 rfl rfl rfl rfl ?_
  refine me3 (pc' := 30) dm_X12_feedOne_27 (u_put (fs' := [.ref 103, .ref 104, .ref 105, .int (1 : Int32), .int (4 : Int32), .int (0 : Int32), .int (-1 : Int32), .int (0 : Int32), .int (500000 : Int32), .int (0 : Int32), .int (0 : Int32), .int (0 : Int32), .ref 106, .int (0 : Int32), .ref 107, .ref 108, .ref 109, .int (0 : Int32), .int (0 : Int32), .ref 110, .ref 111, .ref 112, .ref 113, .int (0 : Int32), .int (0 : Int32), .ref 114, .ref 115, .ref 116, .ref 117, .ref 118, .int (3 : Int32), .int (3 : Int32), .ref 119, .int (9 : Int32), .int (0 : Int32), .int (0 : Int32), .int (0 : Int32), .int (0 : Int32), .int (0 : Int32), .int (0 : Int32), .int (0 : Int32), .long (0 : Int64), .long (0 : Int64), .ref 120, .ref 121, .ref 122, .ref 123, .ref 124, .ref 125, .ref 126, .int (0 : Int32), .int (0 : Int32), .int (0 : Int32), .int (0 : Int32), .int (0 : Int32), .int (0 : Int32), .long (0 : Int64), .int (0 : Int32), .int (-1 : Int32), .int (-1 : Int32)]) (n := 102) (j := 0) hn rfl rfl rfl (Nat.le_of_ble_eq_true rfl) rfl (by decide) (fun z => by cases z) (by rw [List.set_set]) (Nat.le_of_ble_eq_true rfl)) rfl rfl rfl ?_
  refine me1 (pc' := 33) (L' := [(2, .int (16 : Int32)), (0, .ref 102), (1, .int p2)]) dm_X12_feedOne_30 rfl rfl rfl rfl ?_
  refine me2 (pc' := 3) dm_X12_feedOne_33 rfl rfl rfl ?_
  refine me1 (pc' := 4) dm_X12_feedOne_3 rfl rfl rfl rfl ?_
  refine me_1f (pc' := 7) dm_X12_feedOne_4 rfl (by decide) rfl ?_
  refine me1 (pc' := 8) dm_X12_feedOne_7 rfl rfl rfl rfl ?_
  refine me3 (pc' := 11) dm_X12_feedOne_8 (g_get (v := .ref 119) (lu (n := 102) (j := 0) hn rfl) rfl rfl (Nat.le_of_ble_eq_true rfl)) rfl rfl rfl ?_
  refine me1 (pc' := 12) dm_X12_feedOne_11 rfl rfl rfl rfl ?_
  refine me3 (pc' := 15) dm_X12_feedOne_12 (g_get (v := .int (9 : Int32)) (lu (n := 102) (j := 0) hn rfl) rfl rfl (Nat.le_of_ble_eq_true rfl)) rfl rfl rfl ?_
  refine me1 (pc' := 16) dm_X12_feedOne_15 rfl rfl rfl rfl ?_
  refine me1 (pc' := 17) dm_X12_feedOne_16 rfl rfl rfl rfl ?_
  refine me0 (pc' := 18) dm_X12_feedOne_17 rfl rfl rfl rfl ?_
  refine me0 (pc' := 19) dm_X12_feedOne_18 rfl rfl rfl rfl ?_
  refine me3 (pc' := 20) dm_X12_feedOne_19 (u_bast (n := 102) (j := 17) hn rfl rfl (by decide) (by rw [List.set_comm _ _ (by decide), List.set_set]) (Nat.le_of_ble_eq_true rfl)) rfl rfl rfl ?_
  refine me1 (pc' := 21) dm_X12_feedOne_20 rfl rfl rfl rfl ?_
  refine me0 (pc' := 22) dm_X12_feedOne_21 rfl rfl rfl rfl ?_
  refine me3 (pc' := 25) dm_X12_feedOne_22 (g_get (v := .int (9 : Int32)) (lu (n := 102) (j := 0) hn rfl) rfl rfl (Nat.le_of_ble_eq_true rfl)) rfl rfl rfl ?_
  refine me0 (pc' := 26) (S' := .int (1 : Int32) :: _) dm_X12_feedOne_25 rfl rfl rfl rfl ?_
  refine me0 (pc' := 27) (S' := .int (10 : Int32) :: _) dm_X12_feedOne_26 rfl rfl rfl rfl ?_
  refine me3 (pc' := 30) dm_X12_feedOne_27 (u_put (fs' := [.ref 103, .ref 104, .ref 105, .int (1 : Int32), .int (4 : Int32), .int (0 : Int32), .int (-1 : Int32), .int (0 : Int32), .int (500000 : Int32), .int (0 : Int32), .int (0 : Int32), .int (0 : Int32), .ref 106, .int (0 : Int32), .ref 107, .ref 108, .ref 109, .int (0 : Int32), .int (0 : Int32), .ref 110, .ref 111, .ref 112, .ref 113, .int (0 : Int32), .int (0 : Int32), .ref 114, .ref 115, .ref 116, .ref 117, .ref 118, .int (3 : Int32), .int (3 : Int32), .ref 119, .int (10 : Int32), .int (0 : Int32), .int (0 : Int32), .int (0 : Int32), .int (0 : Int32), .int (0 : Int32), .int (0 : Int32), .int (0 : Int32), .long (0 : Int64), .long (0 : Int64), .ref 120, .ref 121, .ref 122, .ref 123, .ref 124, .ref 125, .ref 126, .int (0 : Int32), .int (0 : Int32), .int (0 : Int32), .int (0 : Int32), .int (0 : Int32), .int (0 : Int32), .long (0 : Int64), .int (0 : Int32), .int (-1 : Int32), .int (-1 : Int32)]) (n := 102) (j := 0) hn rfl rfl rfl (Nat.le_of_ble_eq_true rfl) rfl (by decide) (fun z => by cases z) (by rw [List.set_set]) (Nat.le_of_ble_eq_true rfl)) rfl rfl rfl ?_
  refine me1 (pc' := 33) (L' := [(2, .int (8 : Int32)), (0, .ref 102), (1, .int p2)]) dm_X12_feedOne_30 rfl rfl rfl rfl ?_
  refine me2 (pc' := 3) dm_X12_feedOne_33 rfl rfl rfl ?_
  refine me1 (pc' := 4) dm_X12_feedOne_3 rfl rfl rfl rfl ?_
  refine me_1f (pc' := 7) dm_X12_feedOne_4 rfl (by decide) rfl ?_
  refine me1 (pc' := 8) dm_X12_feedOne_7 rfl rfl rfl rfl ?_
  refine me3 (pc' := 11) dm_X12_feedOne_8 (g_get (v := .ref 119) (lu (n := 102) (j := 0) hn rfl) rfl rfl (Nat.le_of_ble_eq_true rfl)) rfl rfl rfl ?_
  refine me1 (pc' := 12) dm_X12_feedOne_11 rfl rfl rfl rfl ?_
  refine me3 (pc' := 15) dm_X12_feedOne_12 (g_get (v := .int (10 : Int32)) (lu (n := 102) (j := 0) hn rfl) rfl rfl (Nat.le_of_ble_eq_true rfl)) rfl rfl rfl ?_
  refine me1 (pc' := 16) dm_X12_feedOne_15 rfl rfl rfl rfl ?_
  refine me1 (pc' := 17) dm_X12_feedOne_16 rfl rfl rfl rfl ?_
  refine me0 (pc' := 18) dm_X12_feedOne_17 rfl rfl rfl rfl ?_
  refine me0 (pc' := 19) dm_X12_feedOne_18 rfl rfl rfl rfl ?_
  refine me3 (pc' := 20) dm_X12_feedOne_19 (u_bast (n := 102) (j := 17) hn rfl rfl (by decide) (by rw [List.set_comm _ _ (by decide), List.set_set]) (Nat.le_of_ble_eq_true rfl)) rfl rfl rfl ?_
  refine me1 (pc' := 21) dm_X12_feedOne_20 rfl rfl rfl rfl ?_
  refine me0 (pc' := 22) dm_X12_feedOne_21 rfl rfl rfl rfl ?_
  refine me3 (pc' := 25) dm_X12_feedOne_22 (g_get (v := .int (10 : Int32)) (lu (n := 102) (j := 0) hn rfl) rfl rfl (Nat.le_of_ble_eq_true rfl)) rfl rfl rfl ?_
  refine me0 (pc' := 26) (S' := .int (1 : Int32) :: _) dm_X12_feedOne_25 rfl rfl rfl rfl ?_
  refine me0 (pc' := 27) (S' := .int (11 : Int32) :: _) dm_X12_feedOne_26 rfl rfl rfl rfl ?_
  refine me3 (pc' := 30) dm_X12_feedOne_27 (u_put (fs' := [.ref 103, .ref 104, .ref 105, .int (1 : Int32), .int (4 : Int32), .int (0 : Int32), .int (-1 : Int32), .int (0 : Int32), .int (500000 : Int32), .int (0 : Int32), .int (0 : Int32), .int (0 : Int32), .ref 106, .int (0 : Int32), .ref 107, .ref 108, .ref 109, .int (0 : Int32), .int (0 : Int32), .ref 110, .ref 111, .ref 112, .ref 113, .int (0 : Int32), .int (0 : Int32), .ref 114, .ref 115, .ref 116, .ref 117, .ref 118, .int (3 : Int32), .int (3 : Int32), .ref 119, .int (11 : Int32), .int (0 : Int32), .int (0 : Int32), .int (0 : Int32), .int (0 : Int32), .int (0 : Int32), .int (0 : Int32), .int (0 : Int32), .long (0 : Int64), .long (0 : Int64), .ref 120, .ref 121, .ref 122, .ref 123, .ref 124, .ref 125, .ref 126, .int (0 : Int32), .int (0 : Int32), .int (0 : Int32), .int (0 : Int32), .int (0 : Int32), .int (0 : Int32), .long (0 : Int64), .int (0 : Int32), .int (-1 : Int32), .int (-1 : Int32)]) (n := 102) (j := 0) hn rfl rfl rfl (Nat.le_of_ble_eq_true rfl) rfl (by decide) (fun z => by cases z) (by rw [List.set_set]) (Nat.le_of_ble_eq_true rfl)) rfl rfl rfl ?_
  refine me1 (pc' := 33) (L' := [(2, .int (0 : Int32)), (0, .ref 102), (1, .int p2)]) dm_X12_feedOne_30 rfl rfl rfl rfl ?_
  refine me2 (pc' := 3) dm_X12_feedOne_33 rfl rfl rfl ?_
  refine me1 (pc' := 4) dm_X12_feedOne_3 rfl rfl rfl rfl ?_
  refine me_1f (pc' := 7) dm_X12_feedOne_4 rfl (by decide) rfl ?_
  refine me1 (pc' := 8) dm_X12_feedOne_7 rfl rfl rfl rfl ?_
  refine me3 (pc' := 11) dm_X12_feedOne_8 (g_get (v := .ref 119) (lu (n := 102) (j := 0) hn rfl) rfl rfl (Nat.le_of_ble_eq_true rfl)) rfl rfl rfl ?_
  refine me1 (pc' := 12) dm_X12_feedOne_11 rfl rfl rfl rfl ?_
  refine me3 (pc' := 15) dm_X12_feedOne_12 (g_get (v := .int (11 : Int32)) (lu (n := 102) (j := 0) hn rfl) rfl rfl (Nat.le_of_ble_eq_true rfl)) rfl rfl rfl ?_
  refine me1 (pc' := 16) dm_X12_feedOne_15 rfl rfl rfl rfl ?_
  refine me1 (pc' := 17) dm_X12_feedOne_16 rfl rfl rfl rfl ?_
  refine me0 (pc' := 18) dm_X12_feedOne_17 rfl rfl rfl rfl ?_
  refine me0 (pc' := 19) dm_X12_feedOne_18 rfl rfl rfl rfl ?_
  refine me3 (pc' := 20) dm_X12_feedOne_19 (u_bast (n := 102) (j := 17) hn rfl rfl (by decide) (by rw [List.set_comm _ _ (by decide), List.set_set]) (Nat.le_of_ble_eq_true rfl)) rfl rfl rfl ?_
  refine me1 (pc' := 21) dm_X12_feedOne_20 rfl rfl rfl rfl ?_
  refine me0 (pc' := 22) dm_X12_feedOne_21 rfl rfl rfl rfl ?_
  refine me3 (pc' := 25) dm_X12_feedOne_22 (g_get (v := .int (11 : Int32)) (lu (n := 102) (j := 0) hn rfl) rfl rfl (Nat.le_of_ble_eq_true rfl)) rfl rfl rfl ?_
  refine me0 (pc' := 26) (S' := .int (1 : Int32) :: _) dm_X12_feedOne_25 rfl rfl rfl rfl ?_
  refine me0 (pc' := 27) (S' := .int (12 : Int32) :: _) dm_X12_feedOne_26 rfl rfl rfl rfl ?_
  refine me3 (pc' := 30) dm_X12_feedOne_27 (u_put (fs' := [.ref 103, .ref 104, .ref 105, .int (1 : Int32), .int (4 : Int32), .int (0 : Int32), .int (-1 : Int32), .int (0 : Int32), .int (500000 : Int32), .int (0 : Int32), .int (0 : Int32), .int (0 : Int32), .ref 106, .int (0 : Int32), .ref 107, .ref 108, .ref 109, .int (0 : Int32), .int (0 : Int32), .ref 110, .ref 111, .ref 112, .ref 113, .int (0 : Int32), .int (0 : Int32), .ref 114, .ref 115, .ref 116, .ref 117, .ref 118, .int (3 : Int32), .int (3 : Int32), .ref 119, .int (12 : Int32), .int (0 : Int32), .int (0 : Int32), .int (0 : Int32), .int (0 : Int32), .int (0 : Int32), .int (0 : Int32), .int (0 : Int32), .long (0 : Int64), .long (0 : Int64), .ref 120, .ref 121, .ref 122, .ref 123, .ref 124, .ref 125, .ref 126, .int (0 : Int32), .int (0 : Int32), .int (0 : Int32), .int (0 : Int32), .int (0 : Int32), .int (0 : Int32), .long (0 : Int64), .int (0 : Int32), .int (-1 : Int32), .int (-1 : Int32)]) (n := 102) (j := 0) hn rfl rfl rfl (Nat.le_of_ble_eq_true rfl) rfl (by decide) (fun z => by cases z) (by rw [List.set_set]) (Nat.le_of_ble_eq_true rfl)) rfl rfl rfl ?_
  refine me1 (pc' := 33) (L' := [(2, .int (-8 : Int32)), (0, .ref 102), (1, .int p2)]) dm_X12_feedOne_30 rfl rfl rfl rfl ?_
  refine me2 (pc' := 3) dm_X12_feedOne_33 rfl rfl rfl ?_
  refine me1 (pc' := 4) dm_X12_feedOne_3 rfl rfl rfl rfl ?_
  refine me_1t (pc' := 36) dm_X12_feedOne_4 rfl rfl ?_
  refine me5 dm_X12_feedOne_36 rfl rfl rfl ?_
  refine me1 (pc' := 31) dm_X12_feed_30 rfl rfl rfl rfl ?_
  refine me1 (pc' := 33) dm_X12_feed_31 rfl rfl rfl rfl ?_
  refine me4 (pc' := 36) (L0 := [(0, .ref 102), (1, .int p3)]) dm_X12_feed_33 rfl (g_inv (As := [.int p3]) (lu (n := 102) (j := 0) hn rfl) rfl rfl rfl (Nat.le_of_ble_eq_true rfl)) pm_X12_feedOne rfl (Nat.le_of_ble_eq_true rfl) rfl rfl rfl ?_
  refine me0 (pc' := 2) (S' := .int (24 : Int32) :: _) dm_X12_feedOne_0 rfl rfl rfl rfl ?_
  refine me1 (pc' := 3) (L' := [(2, .int (24 : Int32)), (0, .ref 102), (1, .int p3)]) dm_X12_feedOne_2 rfl rfl rfl rfl ?_
  refine me1 (pc' := 4) dm_X12_feedOne_3 rfl rfl rfl rfl ?_
  refine me_1f (pc' := 7) dm_X12_feedOne_4 rfl (by decide) rfl ?_
  refine me1 (pc' := 8) dm_X12_feedOne_7 rfl rfl rfl rfl ?_
  refine me3 (pc' := 11) dm_X12_feedOne_8 (g_get (v := .ref 119) (lu (n := 102) (j := 0) hn rfl) rfl rfl (Nat.le_of_ble_eq_true rfl)) rfl rfl rfl ?_
  refine me1 (pc' := 12) dm_X12_feedOne_11 rfl rfl rfl rfl ?_
  refine me3 (pc' := 15) dm_X12_feedOne_12 (g_get (v := .int (12 : Int32)) (lu (n := 102) (j := 0) hn rfl) rfl rfl (Nat.le_of_ble_eq_true rfl)) rfl rfl rfl ?_
  refine me1 (pc' := 16) dm_X12_feedOne_15 rfl rfl rfl rfl ?_
  refine me1 (pc' := 17) dm_X12_feedOne_16 rfl rfl rfl rfl ?_
  refine me0 (pc' := 18) dm_X12_feedOne_17 rfl rfl rfl rfl ?_
  refine me0 (pc' := 19) dm_X12_feedOne_18 rfl rfl rfl rfl ?_
  refine me3 (pc' := 20) dm_X12_feedOne_19 (u_bast (n := 102) (j := 17) hn rfl rfl (by decide) (by rw [List.set_comm _ _ (by decide), List.set_set]) (Nat.le_of_ble_eq_true rfl)) rfl rfl rfl ?_
  refine me1 (pc' := 21) dm_X12_feedOne_20 rfl rfl rfl rfl ?_
  refine me0 (pc' := 22) dm_X12_feedOne_21 rfl rfl rfl rfl ?_
  refine me3 (pc' := 25) dm_X12_feedOne_22 (g_get (v := .int (12 : Int32)) (lu (n := 102) (j := 0) hn rfl) rfl rfl (Nat.le_of_ble_eq_true rfl)) rfl rfl rfl ?_
  refine me0 (pc' := 26) (S' := .int (1 : Int32) :: _) dm_X12_feedOne_25 rfl rfl rfl rfl ?_
  refine me0 (pc' := 27) (S' := .int (13 : Int32) :: _) dm_X12_feedOne_26 rfl rfl rfl rfl ?_
  refine me3 (pc' := 30) dm_X12_feedOne_27 (u_put (fs' := [.ref 103, .ref 104, .ref 105, .int (1 : Int32), .int (4 : Int32), .int (0 : Int32), .int (-1 : Int32), .int (0 : Int32), .int (500000 : Int32), .int (0 : Int32), .int (0 : Int32), .int (0 : Int32), .ref 106, .int (0 : Int32), .ref 107, .ref 108, .ref 109, .int (0 : Int32), .int (0 : Int32), .ref 110, .ref 111, .ref 112, .ref 113, .int (0 : Int32), .int (0 : Int32), .ref 114, .ref 115, .ref 116, .ref 117, .ref 118, .int (3 : Int32), .int (3 : Int32), .ref 119, .int (13 : Int32), .int (0 : Int32), .int (0 : Int32), .int (0 : Int32), .int (0 : Int32), .int (0 : Int32), .int (0 : Int32), .int (0 : Int32), .long (0 : Int64), .long (0 : Int64), .ref 120, .ref 121, .ref 122, .ref 123, .ref 124, .ref 125, .ref 126, .int (0 : Int32), .int (0 : Int32), .int (0 : Int32), .int (0 : Int32), .int (0 : Int32), .int (0 : Int32), .long (0 : Int64), .int (0 : Int32), .int (-1 : Int32), .int (-1 : Int32)]) (n := 102) (j := 0) hn rfl rfl rfl (Nat.le_of_ble_eq_true rfl) rfl (by decide) (fun z => by cases z) (by rw [List.set_set]) (Nat.le_of_ble_eq_true rfl)) rfl rfl rfl ?_
  refine me1 (pc' := 33) (L' := [(2, .int (16 : Int32)), (0, .ref 102), (1, .int p3)]) dm_X12_feedOne_30 rfl rfl rfl rfl ?_
  refine me2 (pc' := 3) dm_X12_feedOne_33 rfl rfl rfl ?_
  refine me1 (pc' := 4) dm_X12_feedOne_3 rfl rfl rfl rfl ?_
  refine me_1f (pc' := 7) dm_X12_feedOne_4 rfl (by decide) rfl ?_
  refine me1 (pc' := 8) dm_X12_feedOne_7 rfl rfl rfl rfl ?_
  refine me3 (pc' := 11) dm_X12_feedOne_8 (g_get (v := .ref 119) (lu (n := 102) (j := 0) hn rfl) rfl rfl (Nat.le_of_ble_eq_true rfl)) rfl rfl rfl ?_
  refine me1 (pc' := 12) dm_X12_feedOne_11 rfl rfl rfl rfl ?_
  refine me3 (pc' := 15) dm_X12_feedOne_12 (g_get (v := .int (13 : Int32)) (lu (n := 102) (j := 0) hn rfl) rfl rfl (Nat.le_of_ble_eq_true rfl)) rfl rfl rfl ?_
  refine me1 (pc' := 16) dm_X12_feedOne_15 rfl rfl rfl rfl ?_
  refine me1 (pc' := 17) dm_X12_feedOne_16 rfl rfl rfl rfl ?_
  refine me0 (pc' := 18) dm_X12_feedOne_17 rfl rfl rfl rfl ?_
  refine me0 (pc' := 19) dm_X12_feedOne_18 rfl rfl rfl rfl ?_
  refine me3 (pc' := 20) dm_X12_feedOne_19 (u_bast (n := 102) (j := 17) hn rfl rfl (by decide) (by rw [List.set_comm _ _ (by decide), List.set_set]) (Nat.le_of_ble_eq_true rfl)) rfl rfl rfl ?_
  refine me1 (pc' := 21) dm_X12_feedOne_20 rfl rfl rfl rfl ?_
  refine me0 (pc' := 22) dm_X12_feedOne_21 rfl rfl rfl rfl ?_
  refine me3 (pc' := 25) dm_X12_feedOne_22 (g_get (v := .int (13 : Int32)) (lu (n := 102) (j := 0) hn rfl) rfl rfl (Nat.le_of_ble_eq_true rfl)) rfl rfl rfl ?_
  refine me0 (pc' := 26) (S' := .int (1 : Int32) :: _) dm_X12_feedOne_25 rfl rfl rfl rfl ?_
  refine me0 (pc' := 27) (S' := .int (14 : Int32) :: _) dm_X12_feedOne_26 rfl rfl rfl rfl ?_
  refine me3 (pc' := 30) dm_X12_feedOne_27 (u_put (fs' := [.ref 103, .ref 104, .ref 105, .int (1 : Int32), .int (4 : Int32), .int (0 : Int32), .int (-1 : Int32), .int (0 : Int32), .int (500000 : Int32), .int (0 : Int32), .int (0 : Int32), .int (0 : Int32), .ref 106, .int (0 : Int32), .ref 107, .ref 108, .ref 109, .int (0 : Int32), .int (0 : Int32), .ref 110, .ref 111, .ref 112, .ref 113, .int (0 : Int32), .int (0 : Int32), .ref 114, .ref 115, .ref 116, .ref 117, .ref 118, .int (3 : Int32), .int (3 : Int32), .ref 119, .int (14 : Int32), .int (0 : Int32), .int (0 : Int32), .int (0 : Int32), .int (0 : Int32), .int (0 : Int32), .int (0 : Int32), .int (0 : Int32), .long (0 : Int64), .long (0 : Int64), .ref 120, .ref 121, .ref 122, .ref 123, .ref 124, .ref 125, .ref 126, .int (0 : Int32), .int (0 : Int32), .int (0 : Int32), .int (0 : Int32), .int (0 : Int32), .int (0 : Int32), .long (0 : Int64), .int (0 : Int32), .int (-1 : Int32), .int (-1 : Int32)]) (n := 102) (j := 0) hn rfl rfl rfl (Nat.le_of_ble_eq_true rfl) rfl (by decide) (fun z => by cases z) (by rw [List.set_set]) (Nat.le_of_ble_eq_true rfl)) rfl rfl rfl ?_
  refine me1 (pc' := 33) (L' := [(2, .int (8 : Int32)), (0, .ref 102), (1, .int p3)]) dm_X12_feedOne_30 rfl rfl rfl rfl ?_
  refine me2 (pc' := 3) dm_X12_feedOne_33 rfl rfl rfl ?_
  refine me1 (pc' := 4) dm_X12_feedOne_3 rfl rfl rfl rfl ?_
  refine me_1f (pc' := 7) dm_X12_feedOne_4 rfl (by decide) rfl ?_
  refine me1 (pc' := 8) dm_X12_feedOne_7 rfl rfl rfl rfl ?_
  refine me3 (pc' := 11) dm_X12_feedOne_8 (g_get (v := .ref 119) (lu (n := 102) (j := 0) hn rfl) rfl rfl (Nat.le_of_ble_eq_true rfl)) rfl rfl rfl ?_
  refine me1 (pc' := 12) dm_X12_feedOne_11 rfl rfl rfl rfl ?_
  refine me3 (pc' := 15) dm_X12_feedOne_12 (g_get (v := .int (14 : Int32)) (lu (n := 102) (j := 0) hn rfl) rfl rfl (Nat.le_of_ble_eq_true rfl)) rfl rfl rfl ?_
  refine me1 (pc' := 16) dm_X12_feedOne_15 rfl rfl rfl rfl ?_
  refine me1 (pc' := 17) dm_X12_feedOne_16 rfl rfl rfl rfl ?_
  refine me0 (pc' := 18) dm_X12_feedOne_17 rfl rfl rfl rfl ?_
  refine me0 (pc' := 19) dm_X12_feedOne_18 rfl rfl rfl rfl ?_
  refine me3 (pc' := 20) dm_X12_feedOne_19 (u_bast (n := 102) (j := 17) hn rfl rfl (by decide) (by rw [List.set_comm _ _ (by decide), List.set_set]) (Nat.le_of_ble_eq_true rfl)) rfl rfl rfl ?_
  refine me1 (pc' := 21) dm_X12_feedOne_20 rfl rfl rfl rfl ?_
  refine me0 (pc' := 22) dm_X12_feedOne_21 rfl rfl rfl rfl ?_
  refine me3 (pc' := 25) dm_X12_feedOne_22 (g_get (v := .int (14 : Int32)) (lu (n := 102) (j := 0) hn rfl) rfl rfl (Nat.le_of_ble_eq_true rfl)) rfl rfl rfl ?_
  refine me0 (pc' := 26) (S' := .int (1 : Int32) :: _) dm_X12_feedOne_25 rfl rfl rfl rfl ?_
  refine me0 (pc' := 27) (S' := .int (15 : Int32) :: _) dm_X12_feedOne_26 rfl rfl rfl rfl ?_
  refine me3 (pc' := 30) dm_X12_feedOne_27 (u_put (fs' := [.ref 103, .ref 104, .ref 105, .int (1 : Int32), .int (4 : Int32), .int (0 : Int32), .int (-1 : Int32), .int (0 : Int32), .int (500000 : Int32), .int (0 : Int32), .int (0 : Int32), .int (0 : Int32), .ref 106, .int (0 : Int32), .ref 107, .ref 108, .ref 109, .int (0 : Int32), .int (0 : Int32), .ref 110, .ref 111, .ref 112, .ref 113, .int (0 : Int32), .int (0 : Int32), .ref 114, .ref 115, .ref 116, .ref 117, .ref 118, .int (3 : Int32), .int (3 : Int32), .ref 119, .int (15 : Int32), .int (0 : Int32), .int (0 : Int32), .int (0 : Int32), .int (0 : Int32), .int (0 : Int32), .int (0 : Int32), .int (0 : Int32), .long (0 : Int64), .long (0 : Int64), .ref 120, .ref 121, .ref 122, .ref 123, .ref 124, .ref 125, .ref 126, .int (0 : Int32), .int (0 : Int32), .int (0 : Int32), .int (0 : Int32), .int (0 : Int32), .int (0 : Int32), .long (0 : Int64), .int (0 : Int32), .int (-1 : Int32), .int (-1 : Int32)]) (n := 102) (j := 0) hn rfl rfl rfl (Nat.le_of_ble_eq_true rfl) rfl (by decide) (fun z => by cases z) (by rw [List.set_set]) (Nat.le_of_ble_eq_true rfl)) rfl rfl rfl ?_
  refine me1 (pc' := 33) (L' := [(2, .int (0 : Int32)), (0, .ref 102), (1, .int p3)]) dm_X12_feedOne_30 rfl rfl rfl rfl ?_
  refine me2 (pc' := 3) dm_X12_feedOne_33 rfl rfl rfl ?_
  refine me1 (pc' := 4) dm_X12_feedOne_3 rfl rfl rfl rfl ?_
  refine me_1f (pc' := 7) dm_X12_feedOne_4 rfl (by decide) rfl ?_
  refine me1 (pc' := 8) dm_X12_feedOne_7 rfl rfl rfl rfl ?_
  refine me3 (pc' := 11) dm_X12_feedOne_8 (g_get (v := .ref 119) (lu (n := 102) (j := 0) hn rfl) rfl rfl (Nat.le_of_ble_eq_true rfl)) rfl rfl rfl ?_
  refine me1 (pc' := 12) dm_X12_feedOne_11 rfl rfl rfl rfl ?_
  refine me3 (pc' := 15) dm_X12_feedOne_12 (g_get (v := .int (15 : Int32)) (lu (n := 102) (j := 0) hn rfl) rfl rfl (Nat.le_of_ble_eq_true rfl)) rfl rfl rfl ?_
  refine me1 (pc' := 16) dm_X12_feedOne_15 rfl rfl rfl rfl ?_
  refine me1 (pc' := 17) dm_X12_feedOne_16 rfl rfl rfl rfl ?_
  refine me0 (pc' := 18) dm_X12_feedOne_17 rfl rfl rfl rfl ?_
  refine me0 (pc' := 19) dm_X12_feedOne_18 rfl rfl rfl rfl ?_
  refine me3 (pc' := 20) dm_X12_feedOne_19 (u_bast (n := 102) (j := 17) hn rfl rfl (by decide) (by rw [List.set_comm _ _ (by decide), List.set_set]) (Nat.le_of_ble_eq_true rfl)) rfl rfl rfl ?_
  refine me1 (pc' := 21) dm_X12_feedOne_20 rfl rfl rfl rfl ?_
  refine me0 (pc' := 22) dm_X12_feedOne_21 rfl rfl rfl rfl ?_
  refine me3 (pc' := 25) dm_X12_feedOne_22 (g_get (v := .int (15 : Int32)) (lu (n := 102) (j := 0) hn rfl) rfl rfl (Nat.le_of_ble_eq_true rfl)) rfl rfl rfl ?_
  refine me0 (pc' := 26) (S' := .int (1 : Int32) :: _) dm_X12_feedOne_25 rfl rfl rfl rfl ?_
  refine me0 (pc' := 27) (S' := .int (16 : Int32) :: _) dm_X12_feedOne_26 rfl rfl rfl rfl ?_
  refine me3 (pc' := 30) dm_X12_feedOne_27 (u_put (fs' := [.ref 103, .ref 104, .ref 105, .int (1 : Int32), .int (4 : Int32), .int (0 : Int32), .int (-1 : Int32), .int (0 : Int32), .int (500000 : Int32), .int (0 : Int32), .int (0 : Int32), .int (0 : Int32), .ref 106, .int (0 : Int32), .ref 107, .ref 108, .ref 109, .int (0 : Int32), .int (0 : Int32), .ref 110, .ref 111, .ref 112, .ref 113, .int (0 : Int32), .int (0 : Int32), .ref 114, .ref 115, .ref 116, .ref 117, .ref 118, .int (3 : Int32), .int (3 : Int32), .ref 119, .int (16 : Int32), .int (0 : Int32), .int (0 : Int32), .int (0 : Int32), .int (0 : Int32), .int (0 : Int32), .int (0 : Int32), .int (0 : Int32), .long (0 : Int64), .long (0 : Int64), .ref 120, .ref 121, .ref 122, .ref 123, .ref 124, .ref 125, .ref 126, .int (0 : Int32), .int (0 : Int32), .int (0 : Int32), .int (0 : Int32), .int (0 : Int32), .int (0 : Int32), .long (0 : Int64), .int (0 : Int32), .int (-1 : Int32), .int (-1 : Int32)]) (n := 102) (j := 0) hn rfl rfl rfl (Nat.le_of_ble_eq_true rfl) rfl (by decide) (fun z => by cases z) (by rw [List.set_set]) (Nat.le_of_ble_eq_true rfl)) rfl rfl rfl ?_
  refine me1 (pc' := 33) (L' := [(2, .int (-8 : Int32)), (0, .ref 102), (1, .int p3)]) dm_X12_feedOne_30 rfl rfl rfl rfl ?_
  refine me2 (pc' := 3) dm_X12_feedOne_33 rfl rfl rfl ?_
  refine me1 (pc' := 4) dm_X12_feedOne_3 rfl rfl rfl rfl ?_
  refine me_1t (pc' := 36) dm_X12_feedOne_4 rfl rfl ?_
  refine me5 dm_X12_feedOne_36 rfl rfl rfl ?_
  refine me1 (pc' := 37) dm_X12_feed_36 rfl rfl rfl rfl ?_
  refine me1 (pc' := 39) dm_X12_feed_37 rfl rfl rfl rfl ?_
  refine me4 (pc' := 42) (L0 := [(0, .ref 102), (1, .int p4)]) dm_X12_feed_39 rfl (g_inv (As := [.int p4]) (lu (n := 102) (j := 0) hn rfl) rfl rfl rfl (Nat.le_of_ble_eq_true rfl)) pm_X12_feedOne rfl (Nat.le_of_ble_eq_true rfl) rfl rfl rfl ?_
  refine me0 (pc' := 2) (S' := .int (24 : Int32) :: _) dm_X12_feedOne_0 rfl rfl rfl rfl ?_
  refine me1 (pc' := 3) (L' := [(2, .int (24 : Int32)), (0, .ref 102), (1, .int p4)]) dm_X12_feedOne_2 rfl rfl rfl rfl ?_
  refine me1 (pc' := 4) dm_X12_feedOne_3 rfl rfl rfl rfl ?_
  refine me_1f (pc' := 7) dm_X12_feedOne_4 rfl (by decide) rfl ?_
  refine me1 (pc' := 8) dm_X12_feedOne_7 rfl rfl rfl rfl ?_
  refine me3 (pc' := 11) dm_X12_feedOne_8 (g_get (v := .ref 119) (lu (n := 102) (j := 0) hn rfl) rfl rfl (Nat.le_of_ble_eq_true rfl)) rfl rfl rfl ?_
  refine me1 (pc' := 12) dm_X12_feedOne_11 rfl rfl rfl rfl ?_
  refine me3 (pc' := 15) dm_X12_feedOne_12 (g_get (v := .int (16 : Int32)) (lu (n := 102) (j := 0) hn rfl) rfl rfl (Nat.le_of_ble_eq_true rfl)) rfl rfl rfl ?_
  refine me1 (pc' := 16) dm_X12_feedOne_15 rfl rfl rfl rfl ?_
  refine me1 (pc' := 17) dm_X12_feedOne_16 rfl rfl rfl rfl ?_
  refine me0 (pc' := 18) dm_X12_feedOne_17 rfl rfl rfl rfl ?_
  refine me0 (pc' := 19) dm_X12_feedOne_18 rfl rfl rfl rfl ?_
  refine me3 (pc' := 20) dm_X12_feedOne_19 (u_bast (n := 102) (j := 17) hn rfl rfl (by decide) (by rw [List.set_comm _ _ (by decide), List.set_set]) (Nat.le_of_ble_eq_true rfl)) rfl rfl rfl ?_
  refine me1 (pc' := 21) dm_X12_feedOne_20 rfl rfl rfl rfl ?_
  refine me0 (pc' := 22) dm_X12_feedOne_21 rfl rfl rfl rfl ?_
  refine me3 (pc' := 25) dm_X12_feedOne_22 (g_get (v := .int (16 : Int32)) (lu (n := 102) (j := 0) hn rfl) rfl rfl (Nat.le_of_ble_eq_true rfl)) rfl rfl rfl ?_
  refine me0 (pc' := 26) (S' := .int (1 : Int32) :: _) dm_X12_feedOne_25 rfl rfl rfl rfl ?_
  refine me0 (pc' := 27) (S' := .int (17 : Int32) :: _) dm_X12_feedOne_26 rfl rfl rfl rfl ?_
  refine me3 (pc' := 30) dm_X12_feedOne_27 (u_put (fs' := [.ref 103, .ref 104, .ref 105, .int (1 : Int32), .int (4 : Int32), .int (0 : Int32), .int (-1 : Int32), .int (0 : Int32), .int (500000 : Int32), .int (0 : Int32), .int (0 : Int32), .int (0 : Int32), .ref 106, .int (0 : Int32), .ref 107, .ref 108, .ref 109, .int (0 : Int32), .int (0 : Int32), .ref 110, .ref 111, .ref 112, .ref 113, .int (0 : Int32), .int (0 : Int32), .ref 114, .ref 115, .ref 116, .ref 117, .ref 118, .int (3 : Int32), .int (3 : Int32), .ref 119, .int (17 : Int32), .int (0 : Int32), .int (0 : Int32), .int (0 : Int32), .int (0 : Int32), .int (0 : Int32), .int (0 : Int32), .int (0 : Int32), .long (0 : Int64), .long (0 : Int64), .ref 120, .ref 121, .ref 122, .ref 123, .ref 124, .ref 125, .ref 126, .int (0 : Int32), .int (0 : Int32), .int (0 : Int32), .int (0 : Int32), .int (0 : Int32), .int (0 : Int32), .long (0 : Int64), .int (0 : Int32), .int (-1 : Int32), .int (-1 : Int32)]) (n := 102) (j := 0) hn rfl rfl rfl (Nat.le_of_ble_eq_true rfl) rfl (by decide) (fun z => by cases z) (by rw [List.set_set]) (Nat.le_of_ble_eq_true rfl)) rfl rfl rfl ?_
  refine me1 (pc' := 33) (L' := [(2, .int (16 : Int32)), (0, .ref 102), (1, .int p4)]) dm_X12_feedOne_30 rfl rfl rfl rfl ?_
  refine me2 (pc' := 3) dm_X12_feedOne_33 rfl rfl rfl ?_
  refine me1 (pc' := 4) dm_X12_feedOne_3 rfl rfl rfl rfl ?_
  refine me_1f (pc' := 7) dm_X12_feedOne_4 rfl (by decide) rfl ?_
  refine me1 (pc' := 8) dm_X12_feedOne_7 rfl rfl rfl rfl ?_
  refine me3 (pc' := 11) dm_X12_feedOne_8 (g_get (v := .ref 119) (lu (n := 102) (j := 0) hn rfl) rfl rfl (Nat.le_of_ble_eq_true rfl)) rfl rfl rfl ?_
  refine me1 (pc' := 12) dm_X12_feedOne_11 rfl rfl rfl rfl ?_
  refine me3 (pc' := 15) dm_X12_feedOne_12 (g_get (v := .int (17 : Int32)) (lu (n := 102) (j := 0) hn rfl) rfl rfl (Nat.le_of_ble_eq_true rfl)) rfl rfl rfl ?_
  refine me1 (pc' := 16) dm_X12_feedOne_15 rfl rfl rfl rfl ?_
  refine me1 (pc' := 17) dm_X12_feedOne_16 rfl rfl rfl rfl ?_
  refine me0 (pc' := 18) dm_X12_feedOne_17 rfl rfl rfl rfl ?_
  refine me0 (pc' := 19) dm_X12_feedOne_18 rfl rfl rfl rfl ?_
  refine me3 (pc' := 20) dm_X12_feedOne_19 (u_bast (n := 102) (j := 17) hn rfl rfl (by decide) (by rw [List.set_comm _ _ (by decide), List.set_set]) (Nat.le_of_ble_eq_true rfl)) rfl rfl rfl ?_
  refine me1 (pc' := 21) dm_X12_feedOne_20 rfl rfl rfl rfl ?_
  refine me0 (pc' := 22) dm_X12_feedOne_21 rfl rfl rfl rfl ?_
  refine me3 (pc' := 25) dm_X12_feedOne_22 (g_get (v := .int (17 : Int32)) (lu (n := 102) (j := 0) hn rfl) rfl rfl (Nat.le_of_ble_eq_true rfl)) rfl rfl rfl ?_
  refine me0 (pc' := 26) (S' := .int (1 : Int32) :: _) dm_X12_feedOne_25 rfl rfl rfl rfl ?_
  refine me0 (pc' := 27) (S' := .int (18 : Int32) :: _) dm_X12_feedOne_26 rfl rfl rfl rfl ?_
  refine me3 (pc' := 30) dm_X12_feedOne_27 (u_put (fs' := [.ref 103, .ref 104, .ref 105, .int (1 : Int32), .int (4 : Int32), .int (0 : Int32), .int (-1 : Int32), .int (0 : Int32), .int (500000 : Int32), .int (0 : Int32), .int (0 : Int32), .int (0 : Int32), .ref 106, .int (0 : Int32), .ref 107, .ref 108, .ref 109, .int (0 : Int32), .int (0 : Int32), .ref 110, .ref 111, .ref 112, .ref 113, .int (0 : Int32), .int (0 : Int32), .ref 114, .ref 115, .ref 116, .ref 117, .ref 118, .int (3 : Int32), .int (3 : Int32), .ref 119, .int (18 : Int32), .int (0 : Int32), .int (0 : Int32), .int (0 : Int32), .int (0 : Int32), .int (0 : Int32), .int (0 : Int32), .int (0 : Int32), .long (0 : Int64), .long (0 : Int64), .ref 120, .ref 121, .ref 122, .ref 123, .ref 124, .ref 125, .ref 126, .int (0 : Int32), .int (0 : Int32), .int (0 : Int32), .int (0 : Int32), .int (0 : Int32), .int (0 : Int32), .long (0 : Int64), .int (0 : Int32), .int (-1 : Int32), .int (-1 : Int32)]) (n := 102) (j := 0) hn rfl rfl rfl (Nat.le_of_ble_eq_true rfl) rfl (by decide) (fun z => by cases z) (by rw [List.set_set]) (Nat.le_of_ble_eq_true rfl)) rfl rfl rfl ?_
  refine me1 (pc' := 33) (L' := [(2, .int (8 : Int32)), (0, .ref 102), (1, .int p4)]) dm_X12_feedOne_30 rfl rfl rfl rfl ?_
  refine me2 (pc' := 3) dm_X12_feedOne_33 rfl rfl rfl ?_
  refine me1 (pc' := 4) dm_X12_feedOne_3 rfl rfl rfl rfl ?_
  refine me_1f (pc' := 7) dm_X12_feedOne_4 rfl (by decide) rfl ?_
  refine me1 (pc' := 8) dm_X12_feedOne_7 rfl rfl rfl rfl ?_
  refine me3 (pc' := 11) dm_X12_feedOne_8 (g_get (v := .ref 119) (lu (n := 102) (j := 0) hn rfl) rfl rfl (Nat.le_of_ble_eq_true rfl)) rfl rfl rfl ?_
  refine me1 (pc' := 12) dm_X12_feedOne_11 rfl rfl rfl rfl ?_
  refine me3 (pc' := 15) dm_X12_feedOne_12 (g_get (v := .int (18 : Int32)) (lu (n := 102) (j := 0) hn rfl) rfl rfl (Nat.le_of_ble_eq_true rfl)) rfl rfl rfl ?_
  refine me1 (pc' := 16) dm_X12_feedOne_15 rfl rfl rfl rfl ?_
  refine me1 (pc' := 17) dm_X12_feedOne_16 rfl rfl rfl rfl ?_
  refine me0 (pc' := 18) dm_X12_feedOne_17 rfl rfl rfl rfl ?_
  refine me0 (pc' := 19) dm_X12_feedOne_18 rfl rfl rfl rfl ?_
  refine me3 (pc' := 20) dm_X12_feedOne_19 (u_bast (n := 102) (j := 17) hn rfl rfl (by decide) (by rw [List.set_comm _ _ (by decide), List.set_set]) (Nat.le_of_ble_eq_true rfl)) rfl rfl rfl ?_
  refine me1 (pc' := 21) dm_X12_feedOne_20 rfl rfl rfl rfl ?_
  refine me0 (pc' := 22) dm_X12_feedOne_21 rfl rfl rfl rfl ?_
  refine me3 (pc' := 25) dm_X12_feedOne_22 (g_get (v := .int (18 : Int32)) (lu (n := 102) (j := 0) hn rfl) rfl rfl (Nat.le_of_ble_eq_true rfl)) rfl rfl rfl ?_
  refine me0 (pc' := 26) (S' := .int (1 : Int32) :: _) dm_X12_feedOne_25 rfl rfl rfl rfl ?_
  refine me0 (pc' := 27) (S' := .int (19 : Int32) :: _) dm_X12_feedOne_26 rfl rfl rfl rfl ?_
  refine me3 (pc' := 30) dm_X12_feedOne_27 (u_put (fs' := [.ref 103, .ref 104, .ref 105, .int (1 : Int32), .int (4 : Int32), .int (0 : Int32), .int (-1 : Int32), .int (0 : Int32), .int (500000 : Int32), .int (0 : Int32), .int (0 : Int32), .int (0 : Int32), .ref 106, .int (0 : Int32), .ref 107, .ref 108, .ref 109, .int (0 : Int32), .int (0 : Int32), .ref 110, .ref 111, .ref 112, .ref 113, .int (0 : Int32), .int (0 : Int32), .ref 114, .ref 115, .ref 116, .ref 117, .ref 118, .int (3 : Int32), .int (3 : Int32), .ref 119, .int (19 : Int32), .int (0 : Int32), .int (0 : Int32), .int (0 : Int32), .int (0 : Int32), .int (0 : Int32), .int (0 : Int32), .int (0 : Int32), .long (0 : Int64), .long (0 : Int64), .ref 120, .ref 121, .ref 122, .ref 123, .ref 124, .ref 125, .ref 126, .int (0 : Int32), .int (0 : Int32), .int (0 : Int32), .int (0 : Int32), .int (0 : Int32), .int (0 : Int32), .long (0 : Int64), .int (0 : Int32), .int (-1 : Int32), .int (-1 : Int32)]) (n := 102) (j := 0) hn rfl rfl rfl (Nat.le_of_ble_eq_true rfl) rfl (by decide) (fun z => by cases z) (by rw [List.set_set]) (Nat.le_of_ble_eq_true rfl)) rfl rfl rfl ?_
  refine me1 (pc' := 33) (L' := [(2, .int (0 : Int32)), (0, .ref 102), (1, .int p4)]) dm_X12_feedOne_30 rfl rfl rfl rfl ?_
  refine me2 (pc' := 3) dm_X12_feedOne_33 rfl rfl rfl ?_
  refine me1 (pc' := 4) dm_X12_feedOne_3 rfl rfl rfl rfl ?_
  refine me_1f (pc' := 7) dm_X12_feedOne_4 rfl (by decide) rfl ?_
  refine me1 (pc' := 8) dm_X12_feedOne_7 rfl rfl rfl rfl ?_
  refine me3 (pc' := 11) dm_X12_feedOne_8 (g_get (v := .ref 119) (lu (n := 102) (j := 0) hn rfl) rfl rfl (Nat.le_of_ble_eq_true rfl)) rfl rfl rfl ?_
  refine me1 (pc' := 12) dm_X12_feedOne_11 rfl rfl rfl rfl ?_
  refine me3 (pc' := 15) dm_X12_feedOne_12 (g_get (v := .int (19 : Int32)) (lu (n := 102) (j := 0) hn rfl) rfl rfl (Nat.le_of_ble_eq_true rfl)) rfl rfl rfl ?_
  refine me1 (pc' := 16) dm_X12_feedOne_15 rfl rfl rfl rfl ?_
  refine me1 (pc' := 17) dm_X12_feedOne_16 rfl rfl rfl rfl ?_
  refine me0 (pc' := 18) dm_X12_feedOne_17 rfl rfl rfl rfl ?_
  refine me0 (pc' := 19) dm_X12_feedOne_18 rfl rfl rfl rfl ?_
  refine me3 (pc' := 20) dm_X12_feedOne_19 (u_bast (n := 102) (j := 17) hn rfl rfl (by decide) (by rw [List.set_comm _ _ (by decide), List.set_set]) (Nat.le_of_ble_eq_true rfl)) rfl rfl rfl ?_
  refine me1 (pc' := 21) dm_X12_feedOne_20 rfl rfl rfl rfl ?_
  refine me0 (pc' := 22) dm_X12_feedOne_21 rfl rfl rfl rfl ?_
  refine me3 (pc' := 25) dm_X12_feedOne_22 (g_get (v := .int (19 : Int32)) (lu (n := 102) (j := 0) hn rfl) rfl rfl (Nat.le_of_ble_eq_true rfl)) rfl rfl rfl ?_
  refine me0 (pc' := 26) (S' := .int (1 : Int32) :: _) dm_X12_feedOne_25 rfl rfl rfl rfl ?_
  refine me0 (pc' := 27) (S' := .int (20 : Int32) :: _) dm_X12_feedOne_26 rfl rfl rfl rfl ?_
  refine me3 (pc' := 30) dm_X12_feedOne_27 (u_put (fs' := [.ref 103, .ref 104, .ref 105, .int (1 : Int32), .int (4 : Int32), .int (0 : Int32), .int (-1 : Int32), .int (0 : Int32), .int (500000 : Int32), .int (0 : Int32), .int (0 : Int32), .int (0 : Int32), .ref 106, .int (0 : Int32), .ref 107, .ref 108, .ref 109, .int (0 : Int32), .int (0 : Int32), .ref 110, .ref 111, .ref 112, .ref 113, .int (0 : Int32), .int (0 : Int32), .ref 114, .ref 115, .ref 116, .ref 117, .ref 118, .int (3 : Int32), .int (3 : Int32), .ref 119, .int (20 : Int32), .int (0 : Int32), .int (0 : Int32), .int (0 : Int32), .int (0 : Int32), .int (0 : Int32), .int (0 : Int32), .int (0 : Int32), .long (0 : Int64), .long (0 : Int64), .ref 120, .ref 121, .ref 122, .ref 123, .ref 124, .ref 125, .ref 126, .int (0 : Int32), .int (0 : Int32), .int (0 : Int32), .int (0 : Int32), .int (0 : Int32), .int (0 : Int32), .long (0 : Int64), .int (0 : Int32), .int (-1 : Int32), .int (-1 : Int32)]) (n := 102) (j := 0) hn rfl rfl rfl (Nat.le_of_ble_eq_true rfl) rfl (by decide) (fun z => by cases z) (by rw [List.set_set]) (Nat.le_of_ble_eq_true rfl)) rfl rfl rfl ?_
  refine me1 (pc' := 33) (L' := [(2, .int (-8 : Int32)), (0, .ref 102), (1, .int p4)]) dm_X12_feedOne_30 rfl rfl rfl rfl ?_
  refine me2 (pc' := 3) dm_X12_feedOne_33 rfl rfl rfl ?_
  refine me1 (pc' := 4) dm_X12_feedOne_3 rfl rfl rfl rfl ?_
  refine me_1t (pc' := 36) dm_X12_feedOne_4 rfl rfl ?_
  refine me5 dm_X12_feedOne_36 rfl rfl rfl ?_
  refine me1 (pc' := 43) dm_X12_feed_42 rfl rfl rfl rfl ?_
  refine me3 (pc' := 46) dm_X12_feed_43 (g_get (v := .int (20 : Int32)) (lu (n := 102) (j := 0) hn rfl) rfl rfl (Nat.le_of_ble_eq_true rfl)) rfl rfl rfl ?_
  refine me5 dm_X12_feed_46 rfl rfl rfl ?_
  exact k _ rfl (Nat.le_trans (Nat.le_of_eq (Eq.trans (sl_set rfl rfl) (sl_set rfl rfl))) (Nat.le_of_ble_eq_true rfl))
