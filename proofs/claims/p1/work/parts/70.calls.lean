theorem lg_cmp_self (a : Int64) : lg_cmp a a = 0 := by
  unfold lg_cmp
  simp
theorem sp_0 (x : Int32) : x.toInt ≤ -1 ∨ x = 0 ∨ 1 ≤ x.toInt := by
  by_cases h0 : x.toInt ≤ -1
  · exact (Or.inl h0)
  by_cases h1 : x.toInt = 0
  · exact (Or.inr (Or.inl (Int32.toInt_inj.mp (show x.toInt = (0 : Int32).toInt from h1))))
  exact (Or.inr (Or.inr (by omega)))
theorem sp_1 (x : Int32) : x.toInt ≤ -1 ∨ x = 0 ∨ x = 1 ∨ x = 2 ∨ x = 3 ∨ 4 ≤ x.toInt := by
  by_cases h0 : x.toInt ≤ -1
  · exact (Or.inl h0)
  by_cases h1 : x.toInt = 0
  · exact (Or.inr (Or.inl (Int32.toInt_inj.mp (show x.toInt = (0 : Int32).toInt from h1))))
  by_cases h2 : x.toInt = 1
  · exact (Or.inr (Or.inr (Or.inl (Int32.toInt_inj.mp (show x.toInt = (1 : Int32).toInt from h2)))))
  by_cases h3 : x.toInt = 2
  · exact (Or.inr (Or.inr (Or.inr (Or.inl (Int32.toInt_inj.mp (show x.toInt = (2 : Int32).toInt from h3))))))
  by_cases h4 : x.toInt = 3
  · exact (Or.inr (Or.inr (Or.inr (Or.inr (Or.inl (Int32.toInt_inj.mp (show x.toInt = (3 : Int32).toInt from h4)))))))
  exact (Or.inr (Or.inr (Or.inr (Or.inr (Or.inr (by omega))))))
theorem sp_2 (x : Int32) : x.toInt ≤ -1 ∨ x = 0 ∨ x = 1 ∨ x = 2 ∨ 3 ≤ x.toInt := by
  by_cases h0 : x.toInt ≤ -1
  · exact (Or.inl h0)
  by_cases h1 : x.toInt = 0
  · exact (Or.inr (Or.inl (Int32.toInt_inj.mp (show x.toInt = (0 : Int32).toInt from h1))))
  by_cases h2 : x.toInt = 1
  · exact (Or.inr (Or.inr (Or.inl (Int32.toInt_inj.mp (show x.toInt = (1 : Int32).toInt from h2)))))
  by_cases h3 : x.toInt = 2
  · exact (Or.inr (Or.inr (Or.inr (Or.inl (Int32.toInt_inj.mp (show x.toInt = (2 : Int32).toInt from h3))))))
  exact (Or.inr (Or.inr (Or.inr (Or.inr (by omega)))))
theorem sp_3 (x : Int32) : x.toInt ≤ -1 ∨ 0 ≤ x.toInt := by
  by_cases h0 : x.toInt ≤ -1
  · exact (Or.inl h0)
  exact (Or.inr (by omega))
theorem sp_4 (x : Int32) : x.toInt ≤ -1 ∨ x = 0 ∨ x = 1 ∨ 2 ≤ x.toInt := by
  by_cases h0 : x.toInt ≤ -1
  · exact (Or.inl h0)
  by_cases h1 : x.toInt = 0
  · exact (Or.inr (Or.inl (Int32.toInt_inj.mp (show x.toInt = (0 : Int32).toInt from h1))))
  by_cases h2 : x.toInt = 1
  · exact (Or.inr (Or.inr (Or.inl (Int32.toInt_inj.mp (show x.toInt = (1 : Int32).toInt from h2)))))
  exact (Or.inr (Or.inr (Or.inr (by omega))))
theorem sp_5 (x : Int32) : x.toInt ≤ -1 ∨ x = 0 ∨ x = 1 ∨ x = 2 ∨ x = 3 ∨ x = 4 ∨ x = 5 ∨ x = 6 ∨ x = 7 ∨ 8 ≤ x.toInt := by
  by_cases h0 : x.toInt ≤ -1
  · exact (Or.inl h0)
  by_cases h1 : x.toInt = 0
  · exact (Or.inr (Or.inl (Int32.toInt_inj.mp (show x.toInt = (0 : Int32).toInt from h1))))
  by_cases h2 : x.toInt = 1
  · exact (Or.inr (Or.inr (Or.inl (Int32.toInt_inj.mp (show x.toInt = (1 : Int32).toInt from h2)))))
  by_cases h3 : x.toInt = 2
  · exact (Or.inr (Or.inr (Or.inr (Or.inl (Int32.toInt_inj.mp (show x.toInt = (2 : Int32).toInt from h3))))))
  by_cases h4 : x.toInt = 3
  · exact (Or.inr (Or.inr (Or.inr (Or.inr (Or.inl (Int32.toInt_inj.mp (show x.toInt = (3 : Int32).toInt from h4)))))))
  by_cases h5 : x.toInt = 4
  · exact (Or.inr (Or.inr (Or.inr (Or.inr (Or.inr (Or.inl (Int32.toInt_inj.mp (show x.toInt = (4 : Int32).toInt from h5))))))))
  by_cases h6 : x.toInt = 5
  · exact (Or.inr (Or.inr (Or.inr (Or.inr (Or.inr (Or.inr (Or.inl (Int32.toInt_inj.mp (show x.toInt = (5 : Int32).toInt from h6)))))))))
  by_cases h7 : x.toInt = 6
  · exact (Or.inr (Or.inr (Or.inr (Or.inr (Or.inr (Or.inr (Or.inr (Or.inl (Int32.toInt_inj.mp (show x.toInt = (6 : Int32).toInt from h7))))))))))
  by_cases h8 : x.toInt = 7
  · exact (Or.inr (Or.inr (Or.inr (Or.inr (Or.inr (Or.inr (Or.inr (Or.inr (Or.inl (Int32.toInt_inj.mp (show x.toInt = (7 : Int32).toInt from h8)))))))))))
  exact (Or.inr (Or.inr (Or.inr (Or.inr (Or.inr (Or.inr (Or.inr (Or.inr (Or.inr (by omega))))))))))
theorem O_feed (p0 : Int32) (p1 : Int32) (p2 : Int32) (p3 : Int32) (p4 : Int32) : ∃ a : Int32, (∀ {xt : mj_X} {d : Nat} {h V : mj_H} {P : Option Value → mj_H → Prop}, h.length = 2 → V.length = 25 → (∀ U D, U.length = 100 → mj_sl U ≤ 20000 → D.length ≤ 10 → mj_sl D ≤ 2000 → P (some (.int a)) (h ++ (U ++ (V ++ D)))) → pgE xt (d + 20) 11 6 false (Option.some FieldType.int) (mj_dec prog_1_method_2_code) 0 [(0, .ref 2), (1, .int p0), (2, .int p1), (3, .int p2), (4, .int p3), (5, .int p4)] [] (h ++ (cT ++ (V ++ []))) P) ∧ (∀ {xt : mj_X} {d : Nat} {h W : mj_H} {P : Option Value → mj_H → Prop}, h.length = 102 → (∀ U, U.length = 25 → mj_sl U ≤ 3000000 → P (some (.int a)) (h ++ (U ++ W))) → pgE xt (d + 20) 12 6 false (Option.some FieldType.int) (mj_dec prog_14_method_93_code) 0 [(0, .ref 102), (1, .int p0), (2, .int p1), (3, .int p2), (4, .int p3), (5, .int p4)] [] (h ++ (rT ++ W)) P) := by
  exact ⟨(20 : Int32), fun hn hv k => c_feed_any_any_any_any_any hn hv k, fun hn k => r_feed_any_any_any_any_any hn k⟩
theorem O_line (p0 : Int32) : ∃ a : Int32, (∀ {xt : mj_X} {d : Nat} {h V : mj_H} {P : Option Value → mj_H → Prop}, h.length = 2 → V.length = 25 → (∀ U D, U.length = 100 → mj_sl U ≤ 20000 → D.length ≤ 10 → mj_sl D ≤ 2000 → P (some (.int a)) (h ++ (U ++ (V ++ D)))) → pgE xt (d + 20) 11 3 false (Option.some FieldType.int) (mj_dec prog_1_method_4_code) 0 [(0, .ref 2), (1, .int p0)] [] (h ++ (cT ++ (V ++ []))) P) ∧ (∀ {xt : mj_X} {d : Nat} {h W : mj_H} {P : Option Value → mj_H → Prop}, h.length = 102 → (∀ U, U.length = 25 → mj_sl U ≤ 3000000 → P (some (.int a)) (h ++ (U ++ W))) → pgE xt (d + 20) 12 5 false (Option.some FieldType.int) (mj_dec prog_14_method_95_code) 0 [(0, .ref 102), (1, .int p0)] [] (h ++ (rT ++ W)) P) := by
  rcases sp_0 p0 with h0 | rfl | h0
  · exact ⟨(-100 : Int32), fun hn hv k => c_line_lt hn hv h0 k, fun hn k => r_line_lt hn h0 k⟩
  · exact ⟨(-1 : Int32), fun hn hv k => c_line_v0 hn hv k, fun hn k => r_line_v0 hn k⟩
  · exact ⟨(-100 : Int32), fun hn hv k => c_line_ge hn hv h0 k, fun hn k => r_line_ge hn h0 k⟩
theorem O_told (p0 : Int32) : ∃ a : Int32, (∀ {xt : mj_X} {d : Nat} {h V : mj_H} {P : Option Value → mj_H → Prop}, h.length = 2 → V.length = 25 → (∀ U D, U.length = 100 → mj_sl U ≤ 20000 → D.length ≤ 10 → mj_sl D ≤ 2000 → P (some (.int a)) (h ++ (U ++ (V ++ D)))) → pgE xt (d + 20) 11 2 false (Option.some FieldType.int) (mj_dec prog_1_method_8_code) 0 [(0, .ref 2), (1, .int p0)] [] (h ++ (cT ++ (V ++ []))) P) ∧ (∀ {xt : mj_X} {d : Nat} {h W : mj_H} {P : Option Value → mj_H → Prop}, h.length = 102 → (∀ U, U.length = 25 → mj_sl U ≤ 3000000 → P (some (.int a)) (h ++ (U ++ W))) → pgE xt (d + 20) 12 2 false (Option.some FieldType.int) (mj_dec prog_14_method_112_code) 0 [(0, .ref 102), (1, .int p0)] [] (h ++ (rT ++ W)) P) := by
  rcases sp_1 p0 with h0 | rfl | rfl | rfl | rfl | h0
  · exact ⟨(-1 : Int32), fun hn hv k => c_told_lt hn hv h0 k, fun hn k => r_told_lt hn h0 k⟩
  · exact ⟨(0 : Int32), fun hn hv k => c_told_v0 hn hv k, fun hn k => r_told_v0 hn k⟩
  · exact ⟨(-1 : Int32), fun hn hv k => c_told_v1 hn hv k, fun hn k => r_told_v1 hn k⟩
  · exact ⟨(0 : Int32), fun hn hv k => c_told_v2 hn hv k, fun hn k => r_told_v2 hn k⟩
  · exact ⟨(500000 : Int32), fun hn hv k => c_told_v3 hn hv k, fun hn k => r_told_v3 hn k⟩
  · exact ⟨(-1 : Int32), fun hn hv k => c_told_ge hn hv h0 k, fun hn k => r_told_ge hn h0 k⟩
theorem O_point (p0 : Int32) (p1 : Int32) : ∃ a : Int32, (∀ {xt : mj_X} {d : Nat} {h V : mj_H} {P : Option Value → mj_H → Prop}, h.length = 2 → V.length = 25 → (∀ U D, U.length = 100 → mj_sl U ≤ 20000 → D.length ≤ 10 → mj_sl D ≤ 2000 → P (some (.int a)) (h ++ (U ++ (V ++ D)))) → pgE xt (d + 20) 11 4 false (Option.some FieldType.boolean) (mj_dec prog_1_method_9_code) 0 [(0, .ref 2), (1, .int p0), (2, .int p1)] [] (h ++ (cT ++ (V ++ []))) P) ∧ (∀ {xt : mj_X} {d : Nat} {h W : mj_H} {P : Option Value → mj_H → Prop}, h.length = 102 → (∀ U, U.length = 25 → mj_sl U ≤ 3000000 → P (some (.int a)) (h ++ (U ++ W))) → pgE xt (d + 20) 12 3 false (Option.some FieldType.boolean) (mj_dec prog_14_method_113_code) 0 [(0, .ref 102), (1, .int p0), (2, .int p1)] [] (h ++ (rT ++ W)) P) := by
  rcases sp_2 p0 with h0 | rfl | rfl | rfl | h0
  · rcases sp_3 p1 with h1 | h1
    · exact ⟨(0 : Int32), fun hn hv k => c_point_lt_lt hn hv h0 h1 k, fun hn k => r_point_lt_lt hn h0 h1 k⟩
    · exact ⟨(0 : Int32), fun hn hv k => c_point_lt_ge hn hv h0 h1 k, fun hn k => r_point_lt_ge hn h0 h1 k⟩
  · rcases sp_3 p1 with h1 | h1
    · exact ⟨(1 : Int32), fun hn hv k => c_point_v0_lt hn hv h1 k, fun hn k => r_point_v0_lt hn h1 k⟩
    · exact ⟨(1 : Int32), fun hn hv k => c_point_v0_ge hn hv h1 k, fun hn k => r_point_v0_ge hn h1 k⟩
  · rcases sp_3 p1 with h1 | h1
    · exact ⟨(0 : Int32), fun hn hv k => c_point_v1_lt hn hv h1 k, fun hn k => r_point_v1_lt hn h1 k⟩
    · exact ⟨(0 : Int32), fun hn hv k => c_point_v1_ge hn hv h1 k, fun hn k => r_point_v1_ge hn h1 k⟩
  · rcases sp_3 p1 with h1 | h1
    · exact ⟨(0 : Int32), fun hn hv k => c_point_v2_lt hn hv h1 k, fun hn k => r_point_v2_lt hn h1 k⟩
    · exact ⟨(0 : Int32), fun hn hv k => c_point_v2_ge hn hv h1 k, fun hn k => r_point_v2_ge hn h1 k⟩
  · rcases sp_3 p1 with h1 | h1
    · exact ⟨(0 : Int32), fun hn hv k => c_point_ge_lt hn hv h0 h1 k, fun hn k => r_point_ge_lt hn h0 h1 k⟩
    · exact ⟨(0 : Int32), fun hn hv k => c_point_ge_ge hn hv h0 h1 k, fun hn k => r_point_ge_ge hn h0 h1 k⟩
theorem O_kind  : ∃ a : Int32, (∀ {xt : mj_X} {d : Nat} {h V : mj_H} {P : Option Value → mj_H → Prop}, h.length = 2 → V.length = 25 → (∀ U D, U.length = 100 → mj_sl U ≤ 20000 → D.length ≤ 10 → mj_sl D ≤ 2000 → P (some (.int a)) (h ++ (U ++ (V ++ D)))) → pgE xt (d + 20) 11 1 false (Option.some FieldType.int) (mj_dec prog_1_method_10_code) 0 [(0, .ref 2)] [] (h ++ (cT ++ (V ++ []))) P) ∧ (∀ {xt : mj_X} {d : Nat} {h W : mj_H} {P : Option Value → mj_H → Prop}, h.length = 102 → (∀ U, U.length = 25 → mj_sl U ≤ 3000000 → P (some (.int a)) (h ++ (U ++ W))) → pgE xt (d + 20) 12 1 false (Option.some FieldType.int) (mj_dec prog_14_method_114_code) 0 [(0, .ref 102)] [] (h ++ (rT ++ W)) P) := by
  exact ⟨(0 : Int32), fun hn hv k => c_kind hn hv k, fun hn k => r_kind hn k⟩
theorem O_count (p0 : Int32) : ∃ a : Int32, (∀ {xt : mj_X} {d : Nat} {h V : mj_H} {P : Option Value → mj_H → Prop}, h.length = 2 → V.length = 25 → (∀ U D, U.length = 100 → mj_sl U ≤ 20000 → D.length ≤ 10 → mj_sl D ≤ 2000 → P (some (.int a)) (h ++ (U ++ (V ++ D)))) → pgE xt (d + 20) 11 2 false (Option.some FieldType.int) (mj_dec prog_1_method_11_code) 0 [(0, .ref 2), (1, .int p0)] [] (h ++ (cT ++ (V ++ []))) P) ∧ (∀ {xt : mj_X} {d : Nat} {h W : mj_H} {P : Option Value → mj_H → Prop}, h.length = 102 → (∀ U, U.length = 25 → mj_sl U ≤ 3000000 → P (some (.int a)) (h ++ (U ++ W))) → pgE xt (d + 20) 12 2 false (Option.some FieldType.int) (mj_dec prog_14_method_115_code) 0 [(0, .ref 102), (1, .int p0)] [] (h ++ (rT ++ W)) P) := by
  rcases sp_2 p0 with h0 | rfl | rfl | rfl | h0
  · exact ⟨(-1 : Int32), fun hn hv k => c_count_lt hn hv h0 k, fun hn k => r_count_lt hn h0 k⟩
  · exact ⟨(1 : Int32), fun hn hv k => c_count_v0 hn hv k, fun hn k => r_count_v0 hn k⟩
  · exact ⟨(-1 : Int32), fun hn hv k => c_count_v1 hn hv k, fun hn k => r_count_v1 hn k⟩
  · exact ⟨(0 : Int32), fun hn hv k => c_count_v2 hn hv k, fun hn k => r_count_v2 hn k⟩
  · exact ⟨(-1 : Int32), fun hn hv k => c_count_ge hn hv h0 k, fun hn k => r_count_ge hn h0 k⟩
theorem O_item (p0 : Int32) : ∃ a : Int64, (∀ {xt : mj_X} {d : Nat} {h V : mj_H} {P : Option Value → mj_H → Prop}, h.length = 2 → V.length = 25 → (∀ U D, U.length = 100 → mj_sl U ≤ 20000 → D.length ≤ 10 → mj_sl D ≤ 2000 → P (some (.long a)) (h ++ (U ++ (V ++ D)))) → pgE xt (d + 20) 11 2 false (Option.some FieldType.long) (mj_dec prog_1_method_12_code) 0 [(0, .ref 2), (1, .int p0)] [] (h ++ (cT ++ (V ++ []))) P) ∧ (∀ {xt : mj_X} {d : Nat} {h W : mj_H} {P : Option Value → mj_H → Prop}, h.length = 102 → (∀ U, U.length = 25 → mj_sl U ≤ 3000000 → P (some (.long a)) (h ++ (U ++ W))) → pgE xt (d + 20) 12 4 false (Option.some FieldType.long) (mj_dec prog_14_method_116_code) 0 [(0, .ref 102), (1, .int p0)] [] (h ++ (rT ++ W)) P) := by
  rcases sp_0 p0 with h0 | rfl | h0
  · exact ⟨(0 : Int64), fun hn hv k => c_item_lt hn hv h0 k, fun hn k => r_item_lt hn h0 k⟩
  · exact ⟨(0 : Int64), fun hn hv k => c_item_v0 hn hv k, fun hn k => r_item_v0 hn k⟩
  · exact ⟨(0 : Int64), fun hn hv k => c_item_ge hn hv h0 k, fun hn k => r_item_ge hn h0 k⟩
theorem O_print  : ∃ a : Int32, (∀ {xt : mj_X} {d : Nat} {h V : mj_H} {P : Option Value → mj_H → Prop}, h.length = 2 → V.length = 25 → (∀ U D, U.length = 100 → mj_sl U ≤ 20000 → D.length ≤ 10 → mj_sl D ≤ 2000 → P (some (.int a)) (h ++ (U ++ (V ++ D)))) → pgE xt (d + 20) 11 1 false (Option.some FieldType.int) (mj_dec prog_1_method_13_code) 0 [(0, .ref 2)] [] (h ++ (cT ++ (V ++ []))) P) ∧ (∀ {xt : mj_X} {d : Nat} {h W : mj_H} {P : Option Value → mj_H → Prop}, h.length = 102 → (∀ U, U.length = 25 → mj_sl U ≤ 3000000 → P (some (.int a)) (h ++ (U ++ W))) → pgE xt (d + 20) 12 2 false (Option.some FieldType.int) (mj_dec prog_14_method_117_code) 0 [(0, .ref 102)] [] (h ++ (rT ++ W)) P) := by
  exact ⟨(1 : Int32), fun hn hv k => c_print hn hv k, fun hn k => r_print hn k⟩
theorem O_octet (p0 : Int32) : ∃ a : Int32, (∀ {xt : mj_X} {d : Nat} {h V : mj_H} {P : Option Value → mj_H → Prop}, h.length = 2 → V.length = 25 → (∀ U D, U.length = 100 → mj_sl U ≤ 20000 → D.length ≤ 10 → mj_sl D ≤ 2000 → P (some (.int a)) (h ++ (U ++ (V ++ D)))) → pgE xt (d + 20) 11 2 false (Option.some FieldType.int) (mj_dec prog_1_method_14_code) 0 [(0, .ref 2), (1, .int p0)] [] (h ++ (cT ++ (V ++ []))) P) ∧ (∀ {xt : mj_X} {d : Nat} {h W : mj_H} {P : Option Value → mj_H → Prop}, h.length = 102 → (∀ U, U.length = 25 → mj_sl U ≤ 3000000 → P (some (.int a)) (h ++ (U ++ W))) → pgE xt (d + 20) 12 2 false (Option.some FieldType.int) (mj_dec prog_14_method_118_code) 0 [(0, .ref 102), (1, .int p0)] [] (h ++ (rT ++ W)) P) := by
  rcases sp_3 p0 with h0 | h0
  · exact ⟨(-1 : Int32), fun hn hv k => c_octet_lt hn hv h0 k, fun hn k => r_octet_lt hn h0 k⟩
  · exact ⟨(-1 : Int32), fun hn hv k => c_octet_ge hn hv h0 k, fun hn k => r_octet_ge hn h0 k⟩
theorem O_keep (p0 : Int32) : ∃ a : Int32, (∀ {xt : mj_X} {d : Nat} {h V : mj_H} {P : Option Value → mj_H → Prop}, h.length = 2 → V.length = 25 → (∀ U D, U.length = 100 → mj_sl U ≤ 20000 → D.length ≤ 10 → mj_sl D ≤ 2000 → P (some (.int a)) (h ++ (U ++ (V ++ D)))) → pgE xt (d + 20) 11 2 false (Option.some FieldType.boolean) (mj_dec prog_1_method_15_code) 0 [(0, .ref 2), (1, .int p0)] [] (h ++ (cT ++ (V ++ []))) P) ∧ (∀ {xt : mj_X} {d : Nat} {h W : mj_H} {P : Option Value → mj_H → Prop}, h.length = 102 → (∀ U, U.length = 25 → mj_sl U ≤ 3000000 → P (some (.int a)) (h ++ (U ++ W))) → pgE xt (d + 20) 12 3 false (Option.some FieldType.boolean) (mj_dec prog_14_method_119_code) 0 [(0, .ref 102), (1, .int p0)] [] (h ++ (rT ++ W)) P) := by
  rcases sp_1 p0 with h0 | rfl | rfl | rfl | rfl | h0
  · exact ⟨(0 : Int32), fun hn hv k => c_keep_lt hn hv h0 k, fun hn k => r_keep_lt hn h0 k⟩
  · exact ⟨(1 : Int32), fun hn hv k => c_keep_v0 hn hv k, fun hn k => r_keep_v0 hn k⟩
  · exact ⟨(1 : Int32), fun hn hv k => c_keep_v1 hn hv k, fun hn k => r_keep_v1 hn k⟩
  · exact ⟨(1 : Int32), fun hn hv k => c_keep_v2 hn hv k, fun hn k => r_keep_v2 hn k⟩
  · exact ⟨(1 : Int32), fun hn hv k => c_keep_v3 hn hv k, fun hn k => r_keep_v3 hn k⟩
  · exact ⟨(0 : Int32), fun hn hv k => c_keep_ge hn hv h0 k, fun hn k => r_keep_ge hn h0 k⟩
theorem O_back (p0 : Int32) : ∃ a : Int32, (∀ {xt : mj_X} {d : Nat} {h V : mj_H} {P : Option Value → mj_H → Prop}, h.length = 2 → V.length = 25 → (∀ U D, U.length = 100 → mj_sl U ≤ 20000 → D.length ≤ 10 → mj_sl D ≤ 2000 → P (some (.int a)) (h ++ (U ++ (V ++ D)))) → pgE xt (d + 20) 11 2 false (Option.some FieldType.boolean) (mj_dec prog_1_method_16_code) 0 [(0, .ref 2), (1, .int p0)] [] (h ++ (cT ++ (V ++ []))) P) ∧ (∀ {xt : mj_X} {d : Nat} {h W : mj_H} {P : Option Value → mj_H → Prop}, h.length = 102 → (∀ U, U.length = 25 → mj_sl U ≤ 3000000 → P (some (.int a)) (h ++ (U ++ W))) → pgE xt (d + 20) 12 3 false (Option.some FieldType.boolean) (mj_dec prog_14_method_120_code) 0 [(0, .ref 102), (1, .int p0)] [] (h ++ (rT ++ W)) P) := by
  rcases sp_1 p0 with h0 | rfl | rfl | rfl | rfl | h0
  · exact ⟨(0 : Int32), fun hn hv k => c_back_lt hn hv h0 k, fun hn k => r_back_lt hn h0 k⟩
  · exact ⟨(0 : Int32), fun hn hv k => c_back_v0 hn hv k, fun hn k => r_back_v0 hn k⟩
  · exact ⟨(0 : Int32), fun hn hv k => c_back_v1 hn hv k, fun hn k => r_back_v1 hn k⟩
  · exact ⟨(0 : Int32), fun hn hv k => c_back_v2 hn hv k, fun hn k => r_back_v2 hn k⟩
  · exact ⟨(0 : Int32), fun hn hv k => c_back_v3 hn hv k, fun hn k => r_back_v3 hn k⟩
  · exact ⟨(0 : Int32), fun hn hv k => c_back_ge hn hv h0 k, fun hn k => r_back_ge hn h0 k⟩
theorem O_names (p0 : Int32) : ∃ a : Int32, (∀ {xt : mj_X} {d : Nat} {h V : mj_H} {P : Option Value → mj_H → Prop}, h.length = 2 → V.length = 25 → (∀ U D, U.length = 100 → mj_sl U ≤ 20000 → D.length ≤ 10 → mj_sl D ≤ 2000 → P (some (.int a)) (h ++ (U ++ (V ++ D)))) → pgE xt (d + 20) 11 2 false (Option.some FieldType.int) (mj_dec prog_1_method_17_code) 0 [(0, .ref 2), (1, .int p0)] [] (h ++ (cT ++ (V ++ []))) P) ∧ (∀ {xt : mj_X} {d : Nat} {h W : mj_H} {P : Option Value → mj_H → Prop}, h.length = 102 → (∀ U, U.length = 25 → mj_sl U ≤ 3000000 → P (some (.int a)) (h ++ (U ++ W))) → pgE xt (d + 20) 12 2 false (Option.some FieldType.int) (mj_dec prog_14_method_121_code) 0 [(0, .ref 102), (1, .int p0)] [] (h ++ (rT ++ W)) P) := by
  rcases sp_4 p0 with h0 | rfl | rfl | h0
  · exact ⟨(-1 : Int32), fun hn hv k => c_names_lt hn hv h0 k, fun hn k => r_names_lt hn h0 k⟩
  · exact ⟨(0 : Int32), fun hn hv k => c_names_v0 hn hv k, fun hn k => r_names_v0 hn k⟩
  · exact ⟨(0 : Int32), fun hn hv k => c_names_v1 hn hv k, fun hn k => r_names_v1 hn k⟩
  · exact ⟨(-1 : Int32), fun hn hv k => c_names_ge hn hv h0 k, fun hn k => r_names_ge hn h0 k⟩
theorem O_letter (p0 : Int32) (p1 : Int32) (p2 : Int32) : ∃ a : Int32, (∀ {xt : mj_X} {d : Nat} {h V : mj_H} {P : Option Value → mj_H → Prop}, h.length = 2 → V.length = 25 → (∀ U D, U.length = 100 → mj_sl U ≤ 20000 → D.length ≤ 10 → mj_sl D ≤ 2000 → P (some (.int a)) (h ++ (U ++ (V ++ D)))) → pgE xt (d + 20) 11 5 false (Option.some FieldType.int) (mj_dec prog_1_method_18_code) 0 [(0, .ref 2), (1, .int p0), (2, .int p1), (3, .int p2)] [] (h ++ (cT ++ (V ++ []))) P) ∧ (∀ {xt : mj_X} {d : Nat} {h W : mj_H} {P : Option Value → mj_H → Prop}, h.length = 102 → (∀ U, U.length = 25 → mj_sl U ≤ 3000000 → P (some (.int a)) (h ++ (U ++ W))) → pgE xt (d + 20) 12 7 false (Option.some FieldType.int) (mj_dec prog_14_method_122_code) 0 [(0, .ref 102), (1, .int p0), (2, .int p1), (3, .int p2)] [] (h ++ (rT ++ W)) P) := by
  rcases sp_4 p0 with h0 | rfl | rfl | h0
  · rcases sp_3 p1 with h1 | h1
    · rcases sp_5 p2 with h2 | rfl | rfl | rfl | rfl | rfl | rfl | rfl | rfl | h2
      · exact ⟨(-1 : Int32), fun hn hv k => c_letter_lt_lt_lt hn hv h0 h1 h2 k, fun hn k => r_letter_lt_lt_lt hn h0 h1 h2 k⟩
      · exact ⟨(-1 : Int32), fun hn hv k => c_letter_lt_lt_v0 hn hv h0 h1 k, fun hn k => r_letter_lt_lt_v0 hn h0 h1 k⟩
      · exact ⟨(-1 : Int32), fun hn hv k => c_letter_lt_lt_v1 hn hv h0 h1 k, fun hn k => r_letter_lt_lt_v1 hn h0 h1 k⟩
      · exact ⟨(-1 : Int32), fun hn hv k => c_letter_lt_lt_v2 hn hv h0 h1 k, fun hn k => r_letter_lt_lt_v2 hn h0 h1 k⟩
      · exact ⟨(-1 : Int32), fun hn hv k => c_letter_lt_lt_v3 hn hv h0 h1 k, fun hn k => r_letter_lt_lt_v3 hn h0 h1 k⟩
      · exact ⟨(-1 : Int32), fun hn hv k => c_letter_lt_lt_v4 hn hv h0 h1 k, fun hn k => r_letter_lt_lt_v4 hn h0 h1 k⟩
      · exact ⟨(-1 : Int32), fun hn hv k => c_letter_lt_lt_v5 hn hv h0 h1 k, fun hn k => r_letter_lt_lt_v5 hn h0 h1 k⟩
      · exact ⟨(-1 : Int32), fun hn hv k => c_letter_lt_lt_v6 hn hv h0 h1 k, fun hn k => r_letter_lt_lt_v6 hn h0 h1 k⟩
      · exact ⟨(-1 : Int32), fun hn hv k => c_letter_lt_lt_v7 hn hv h0 h1 k, fun hn k => r_letter_lt_lt_v7 hn h0 h1 k⟩
      · exact ⟨(-1 : Int32), fun hn hv k => c_letter_lt_lt_ge hn hv h0 h1 h2 k, fun hn k => r_letter_lt_lt_ge hn h0 h1 h2 k⟩
    · rcases sp_5 p2 with h2 | rfl | rfl | rfl | rfl | rfl | rfl | rfl | rfl | h2
      · exact ⟨(-1 : Int32), fun hn hv k => c_letter_lt_ge_lt hn hv h0 h1 h2 k, fun hn k => r_letter_lt_ge_lt hn h0 h1 h2 k⟩
      · exact ⟨(-1 : Int32), fun hn hv k => c_letter_lt_ge_v0 hn hv h0 h1 k, fun hn k => r_letter_lt_ge_v0 hn h0 h1 k⟩
      · exact ⟨(-1 : Int32), fun hn hv k => c_letter_lt_ge_v1 hn hv h0 h1 k, fun hn k => r_letter_lt_ge_v1 hn h0 h1 k⟩
      · exact ⟨(-1 : Int32), fun hn hv k => c_letter_lt_ge_v2 hn hv h0 h1 k, fun hn k => r_letter_lt_ge_v2 hn h0 h1 k⟩
      · exact ⟨(-1 : Int32), fun hn hv k => c_letter_lt_ge_v3 hn hv h0 h1 k, fun hn k => r_letter_lt_ge_v3 hn h0 h1 k⟩
      · exact ⟨(-1 : Int32), fun hn hv k => c_letter_lt_ge_v4 hn hv h0 h1 k, fun hn k => r_letter_lt_ge_v4 hn h0 h1 k⟩
      · exact ⟨(-1 : Int32), fun hn hv k => c_letter_lt_ge_v5 hn hv h0 h1 k, fun hn k => r_letter_lt_ge_v5 hn h0 h1 k⟩
      · exact ⟨(-1 : Int32), fun hn hv k => c_letter_lt_ge_v6 hn hv h0 h1 k, fun hn k => r_letter_lt_ge_v6 hn h0 h1 k⟩
      · exact ⟨(-1 : Int32), fun hn hv k => c_letter_lt_ge_v7 hn hv h0 h1 k, fun hn k => r_letter_lt_ge_v7 hn h0 h1 k⟩
      · exact ⟨(-1 : Int32), fun hn hv k => c_letter_lt_ge_ge hn hv h0 h1 h2 k, fun hn k => r_letter_lt_ge_ge hn h0 h1 h2 k⟩
  · rcases sp_3 p1 with h1 | h1
    · rcases sp_5 p2 with h2 | rfl | rfl | rfl | rfl | rfl | rfl | rfl | rfl | h2
      · exact ⟨(-1 : Int32), fun hn hv k => c_letter_v0_lt_lt hn hv h1 h2 k, fun hn k => r_letter_v0_lt_lt hn h1 h2 k⟩
      · exact ⟨(-1 : Int32), fun hn hv k => c_letter_v0_lt_v0 hn hv h1 k, fun hn k => r_letter_v0_lt_v0 hn h1 k⟩
      · exact ⟨(-1 : Int32), fun hn hv k => c_letter_v0_lt_v1 hn hv h1 k, fun hn k => r_letter_v0_lt_v1 hn h1 k⟩
      · exact ⟨(-1 : Int32), fun hn hv k => c_letter_v0_lt_v2 hn hv h1 k, fun hn k => r_letter_v0_lt_v2 hn h1 k⟩
      · exact ⟨(-1 : Int32), fun hn hv k => c_letter_v0_lt_v3 hn hv h1 k, fun hn k => r_letter_v0_lt_v3 hn h1 k⟩
      · exact ⟨(-1 : Int32), fun hn hv k => c_letter_v0_lt_v4 hn hv h1 k, fun hn k => r_letter_v0_lt_v4 hn h1 k⟩
      · exact ⟨(-1 : Int32), fun hn hv k => c_letter_v0_lt_v5 hn hv h1 k, fun hn k => r_letter_v0_lt_v5 hn h1 k⟩
      · exact ⟨(-1 : Int32), fun hn hv k => c_letter_v0_lt_v6 hn hv h1 k, fun hn k => r_letter_v0_lt_v6 hn h1 k⟩
      · exact ⟨(-1 : Int32), fun hn hv k => c_letter_v0_lt_v7 hn hv h1 k, fun hn k => r_letter_v0_lt_v7 hn h1 k⟩
      · exact ⟨(-1 : Int32), fun hn hv k => c_letter_v0_lt_ge hn hv h1 h2 k, fun hn k => r_letter_v0_lt_ge hn h1 h2 k⟩
    · rcases sp_5 p2 with h2 | rfl | rfl | rfl | rfl | rfl | rfl | rfl | rfl | h2
      · exact ⟨(-1 : Int32), fun hn hv k => c_letter_v0_ge_lt hn hv h1 h2 k, fun hn k => r_letter_v0_ge_lt hn h1 h2 k⟩
      · exact ⟨(-1 : Int32), fun hn hv k => c_letter_v0_ge_v0 hn hv h1 k, fun hn k => r_letter_v0_ge_v0 hn h1 k⟩
      · exact ⟨(-1 : Int32), fun hn hv k => c_letter_v0_ge_v1 hn hv h1 k, fun hn k => r_letter_v0_ge_v1 hn h1 k⟩
      · exact ⟨(-1 : Int32), fun hn hv k => c_letter_v0_ge_v2 hn hv h1 k, fun hn k => r_letter_v0_ge_v2 hn h1 k⟩
      · exact ⟨(-1 : Int32), fun hn hv k => c_letter_v0_ge_v3 hn hv h1 k, fun hn k => r_letter_v0_ge_v3 hn h1 k⟩
      · exact ⟨(-1 : Int32), fun hn hv k => c_letter_v0_ge_v4 hn hv h1 k, fun hn k => r_letter_v0_ge_v4 hn h1 k⟩
      · exact ⟨(-1 : Int32), fun hn hv k => c_letter_v0_ge_v5 hn hv h1 k, fun hn k => r_letter_v0_ge_v5 hn h1 k⟩
      · exact ⟨(-1 : Int32), fun hn hv k => c_letter_v0_ge_v6 hn hv h1 k, fun hn k => r_letter_v0_ge_v6 hn h1 k⟩
      · exact ⟨(-1 : Int32), fun hn hv k => c_letter_v0_ge_v7 hn hv h1 k, fun hn k => r_letter_v0_ge_v7 hn h1 k⟩
      · exact ⟨(-1 : Int32), fun hn hv k => c_letter_v0_ge_ge hn hv h1 h2 k, fun hn k => r_letter_v0_ge_ge hn h1 h2 k⟩
  · rcases sp_3 p1 with h1 | h1
    · rcases sp_5 p2 with h2 | rfl | rfl | rfl | rfl | rfl | rfl | rfl | rfl | h2
      · exact ⟨(-1 : Int32), fun hn hv k => c_letter_v1_lt_lt hn hv h1 h2 k, fun hn k => r_letter_v1_lt_lt hn h1 h2 k⟩
      · exact ⟨(-1 : Int32), fun hn hv k => c_letter_v1_lt_v0 hn hv h1 k, fun hn k => r_letter_v1_lt_v0 hn h1 k⟩
      · exact ⟨(-1 : Int32), fun hn hv k => c_letter_v1_lt_v1 hn hv h1 k, fun hn k => r_letter_v1_lt_v1 hn h1 k⟩
      · exact ⟨(-1 : Int32), fun hn hv k => c_letter_v1_lt_v2 hn hv h1 k, fun hn k => r_letter_v1_lt_v2 hn h1 k⟩
      · exact ⟨(-1 : Int32), fun hn hv k => c_letter_v1_lt_v3 hn hv h1 k, fun hn k => r_letter_v1_lt_v3 hn h1 k⟩
      · exact ⟨(-1 : Int32), fun hn hv k => c_letter_v1_lt_v4 hn hv h1 k, fun hn k => r_letter_v1_lt_v4 hn h1 k⟩
      · exact ⟨(-1 : Int32), fun hn hv k => c_letter_v1_lt_v5 hn hv h1 k, fun hn k => r_letter_v1_lt_v5 hn h1 k⟩
      · exact ⟨(-1 : Int32), fun hn hv k => c_letter_v1_lt_v6 hn hv h1 k, fun hn k => r_letter_v1_lt_v6 hn h1 k⟩
      · exact ⟨(-1 : Int32), fun hn hv k => c_letter_v1_lt_v7 hn hv h1 k, fun hn k => r_letter_v1_lt_v7 hn h1 k⟩
      · exact ⟨(-1 : Int32), fun hn hv k => c_letter_v1_lt_ge hn hv h1 h2 k, fun hn k => r_letter_v1_lt_ge hn h1 h2 k⟩
    · rcases sp_5 p2 with h2 | rfl | rfl | rfl | rfl | rfl | rfl | rfl | rfl | h2
      · exact ⟨(-1 : Int32), fun hn hv k => c_letter_v1_ge_lt hn hv h1 h2 k, fun hn k => r_letter_v1_ge_lt hn h1 h2 k⟩
      · exact ⟨(-1 : Int32), fun hn hv k => c_letter_v1_ge_v0 hn hv h1 k, fun hn k => r_letter_v1_ge_v0 hn h1 k⟩
      · exact ⟨(-1 : Int32), fun hn hv k => c_letter_v1_ge_v1 hn hv h1 k, fun hn k => r_letter_v1_ge_v1 hn h1 k⟩
      · exact ⟨(-1 : Int32), fun hn hv k => c_letter_v1_ge_v2 hn hv h1 k, fun hn k => r_letter_v1_ge_v2 hn h1 k⟩
      · exact ⟨(-1 : Int32), fun hn hv k => c_letter_v1_ge_v3 hn hv h1 k, fun hn k => r_letter_v1_ge_v3 hn h1 k⟩
      · exact ⟨(-1 : Int32), fun hn hv k => c_letter_v1_ge_v4 hn hv h1 k, fun hn k => r_letter_v1_ge_v4 hn h1 k⟩
      · exact ⟨(-1 : Int32), fun hn hv k => c_letter_v1_ge_v5 hn hv h1 k, fun hn k => r_letter_v1_ge_v5 hn h1 k⟩
      · exact ⟨(-1 : Int32), fun hn hv k => c_letter_v1_ge_v6 hn hv h1 k, fun hn k => r_letter_v1_ge_v6 hn h1 k⟩
      · exact ⟨(-1 : Int32), fun hn hv k => c_letter_v1_ge_v7 hn hv h1 k, fun hn k => r_letter_v1_ge_v7 hn h1 k⟩
      · exact ⟨(-1 : Int32), fun hn hv k => c_letter_v1_ge_ge hn hv h1 h2 k, fun hn k => r_letter_v1_ge_ge hn h1 h2 k⟩
  · rcases sp_3 p1 with h1 | h1
    · rcases sp_5 p2 with h2 | rfl | rfl | rfl | rfl | rfl | rfl | rfl | rfl | h2
      · exact ⟨(-1 : Int32), fun hn hv k => c_letter_ge_lt_lt hn hv h0 h1 h2 k, fun hn k => r_letter_ge_lt_lt hn h0 h1 h2 k⟩
      · exact ⟨(-1 : Int32), fun hn hv k => c_letter_ge_lt_v0 hn hv h0 h1 k, fun hn k => r_letter_ge_lt_v0 hn h0 h1 k⟩
      · exact ⟨(-1 : Int32), fun hn hv k => c_letter_ge_lt_v1 hn hv h0 h1 k, fun hn k => r_letter_ge_lt_v1 hn h0 h1 k⟩
      · exact ⟨(-1 : Int32), fun hn hv k => c_letter_ge_lt_v2 hn hv h0 h1 k, fun hn k => r_letter_ge_lt_v2 hn h0 h1 k⟩
      · exact ⟨(-1 : Int32), fun hn hv k => c_letter_ge_lt_v3 hn hv h0 h1 k, fun hn k => r_letter_ge_lt_v3 hn h0 h1 k⟩
      · exact ⟨(-1 : Int32), fun hn hv k => c_letter_ge_lt_v4 hn hv h0 h1 k, fun hn k => r_letter_ge_lt_v4 hn h0 h1 k⟩
      · exact ⟨(-1 : Int32), fun hn hv k => c_letter_ge_lt_v5 hn hv h0 h1 k, fun hn k => r_letter_ge_lt_v5 hn h0 h1 k⟩
      · exact ⟨(-1 : Int32), fun hn hv k => c_letter_ge_lt_v6 hn hv h0 h1 k, fun hn k => r_letter_ge_lt_v6 hn h0 h1 k⟩
      · exact ⟨(-1 : Int32), fun hn hv k => c_letter_ge_lt_v7 hn hv h0 h1 k, fun hn k => r_letter_ge_lt_v7 hn h0 h1 k⟩
      · exact ⟨(-1 : Int32), fun hn hv k => c_letter_ge_lt_ge hn hv h0 h1 h2 k, fun hn k => r_letter_ge_lt_ge hn h0 h1 h2 k⟩
    · rcases sp_5 p2 with h2 | rfl | rfl | rfl | rfl | rfl | rfl | rfl | rfl | h2
      · exact ⟨(-1 : Int32), fun hn hv k => c_letter_ge_ge_lt hn hv h0 h1 h2 k, fun hn k => r_letter_ge_ge_lt hn h0 h1 h2 k⟩
      · exact ⟨(-1 : Int32), fun hn hv k => c_letter_ge_ge_v0 hn hv h0 h1 k, fun hn k => r_letter_ge_ge_v0 hn h0 h1 k⟩
      · exact ⟨(-1 : Int32), fun hn hv k => c_letter_ge_ge_v1 hn hv h0 h1 k, fun hn k => r_letter_ge_ge_v1 hn h0 h1 k⟩
      · exact ⟨(-1 : Int32), fun hn hv k => c_letter_ge_ge_v2 hn hv h0 h1 k, fun hn k => r_letter_ge_ge_v2 hn h0 h1 k⟩
      · exact ⟨(-1 : Int32), fun hn hv k => c_letter_ge_ge_v3 hn hv h0 h1 k, fun hn k => r_letter_ge_ge_v3 hn h0 h1 k⟩
      · exact ⟨(-1 : Int32), fun hn hv k => c_letter_ge_ge_v4 hn hv h0 h1 k, fun hn k => r_letter_ge_ge_v4 hn h0 h1 k⟩
      · exact ⟨(-1 : Int32), fun hn hv k => c_letter_ge_ge_v5 hn hv h0 h1 k, fun hn k => r_letter_ge_ge_v5 hn h0 h1 k⟩
      · exact ⟨(-1 : Int32), fun hn hv k => c_letter_ge_ge_v6 hn hv h0 h1 k, fun hn k => r_letter_ge_ge_v6 hn h0 h1 k⟩
      · exact ⟨(-1 : Int32), fun hn hv k => c_letter_ge_ge_v7 hn hv h0 h1 k, fun hn k => r_letter_ge_ge_v7 hn h0 h1 k⟩
      · exact ⟨(-1 : Int32), fun hn hv k => c_letter_ge_ge_ge hn hv h0 h1 h2 k, fun hn k => r_letter_ge_ge_ge hn h0 h1 h2 k⟩
