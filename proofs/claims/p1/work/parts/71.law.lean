set_option maxRecDepth 100000 in
set_option maxHeartbeats 4000000 in
theorem L_feed (xs : Nat → Int32) (hs : xs 0 &&& 15 = 0) {P : Option Value → mj_H → Prop} (hP : ∀ U D R, U.length = 100 → mj_sl U ≤ 20000 → D.length ≤ 10 → mj_sl D ≤ 2000 → R.length = 25 → mj_sl R ≤ 3000000 → P (some (.int 1)) ((pg_h0 ++ U) ++ (R ++ D))) : pgE (pg_xt 6 xs) 2000 13 4 false (some .boolean) (mj_dec code) 18 [(3, .int 0), (2, .ref 102), (1, .ref 2), (0, .ref 0)] [] (pg_h0 ++ (cT ++ (rT ++ []))) P := by
  obtain ⟨a, hC, hR⟩ := O_feed (xs 1) (xs 2) (xs 3) (xs 4) (xs 5)
  refine me1 (pc' := 19) dm_L_18 rfl rfl rfl rfl ?_
  refine me1 (pc' := 20) dm_L_19 rfl rfl rfl rfl ?_
  refine me3 (pc' := 21) dm_L_20 (x_len (v := (6 : Int32)) rfl (by decide) rfl) rfl rfl rfl ?_
  refine me0 (pc' := 23) (S' := .int (6 : Int32) :: _) dm_L_21 rfl rfl rfl rfl ?_
  refine me0 (pc' := 24) (S' := .int (0 : Int32) :: _) dm_L_23 rfl rfl rfl rfl ?_
  refine me_2f (pc' := 27) dm_L_24 rfl (by decide) rfl ?_
  refine me1 (pc' := 28) dm_L_27 rfl rfl rfl rfl ?_
  refine me1 (pc' := 29) dm_L_28 rfl rfl rfl rfl ?_
  refine me3 (pc' := 30) dm_L_29 (x_iald (v := (xs 0)) rfl (by decide) (by decide) rfl) rfl rfl rfl ?_
  refine me0 (pc' := 32) (S' := .int (15 : Int32) :: _) dm_L_30 rfl rfl rfl rfl ?_
  refine me0 (pc' := 33) (S' := [.int (0 : Int32)]) dm_L_32 (show mj_alu .iand [.int 15, .int (xs 0)] = some [.int (0 : Int32)] from congrArg (fun z => some [Value.int z]) hs) rfl rfl rfl ?_
  refine me2 (pc' := 100) dm_L_33 rfl rfl rfl ?_
  refine me1 (pc' := 101) dm_L_100 rfl rfl rfl rfl ?_
  refine me1 (pc' := 102) dm_L_101 rfl rfl rfl rfl ?_
  refine me1 (pc' := 103) dm_L_102 rfl rfl rfl rfl ?_
  refine me0 (pc' := 104) (S' := .int (1 : Int32) :: _) dm_L_103 rfl rfl rfl rfl ?_
  refine me0 (pc' := 105) (S' := .int (1 : Int32) :: _) dm_L_104 rfl rfl rfl rfl ?_
  refine me3 (pc' := 106) dm_L_105 (x_iald (v := (xs 1)) rfl (by decide) (by decide) rfl) rfl rfl rfl ?_
  refine me1 (pc' := 107) dm_L_106 rfl rfl rfl rfl ?_
  refine me1 (pc' := 108) dm_L_107 rfl rfl rfl rfl ?_
  refine me0 (pc' := 109) (S' := .int (2 : Int32) :: _) dm_L_108 rfl rfl rfl rfl ?_
  refine me0 (pc' := 110) (S' := .int (2 : Int32) :: _) dm_L_109 rfl rfl rfl rfl ?_
  refine me3 (pc' := 111) dm_L_110 (x_iald (v := (xs 2)) rfl (by decide) (by decide) rfl) rfl rfl rfl ?_
  refine me1 (pc' := 112) dm_L_111 rfl rfl rfl rfl ?_
  refine me1 (pc' := 113) dm_L_112 rfl rfl rfl rfl ?_
  refine me0 (pc' := 114) (S' := .int (3 : Int32) :: _) dm_L_113 rfl rfl rfl rfl ?_
  refine me0 (pc' := 115) (S' := .int (3 : Int32) :: _) dm_L_114 rfl rfl rfl rfl ?_
  refine me3 (pc' := 116) dm_L_115 (x_iald (v := (xs 3)) rfl (by decide) (by decide) rfl) rfl rfl rfl ?_
  refine me1 (pc' := 117) dm_L_116 rfl rfl rfl rfl ?_
  refine me1 (pc' := 118) dm_L_117 rfl rfl rfl rfl ?_
  refine me0 (pc' := 119) (S' := .int (4 : Int32) :: _) dm_L_118 rfl rfl rfl rfl ?_
  refine me0 (pc' := 120) (S' := .int (4 : Int32) :: _) dm_L_119 rfl rfl rfl rfl ?_
  refine me3 (pc' := 121) dm_L_120 (x_iald (v := (xs 4)) rfl (by decide) (by decide) rfl) rfl rfl rfl ?_
  refine me1 (pc' := 122) dm_L_121 rfl rfl rfl rfl ?_
  refine me1 (pc' := 123) dm_L_122 rfl rfl rfl rfl ?_
  refine me0 (pc' := 124) (S' := .int (5 : Int32) :: _) dm_L_123 rfl rfl rfl rfl ?_
  refine me0 (pc' := 125) (S' := .int (5 : Int32) :: _) dm_L_124 rfl rfl rfl rfl ?_
  refine me3 (pc' := 126) dm_L_125 (x_iald (v := (xs 5)) rfl (by decide) (by decide) rfl) rfl rfl rfl ?_
  refine me4 (pc' := 129) (L0 := [(0, .ref 2), (1, .int (xs 1)), (2, .int (xs 2)), (3, .int (xs 3)), (4, .int (xs 4)), (5, .int (xs 5))]) dm_L_126 rfl (g_inv (As := [.int (xs 1), .int (xs 2), .int (xs 3), .int (xs 4), .int (xs 5)]) (lu (n := 2) (j := 0) rfl rfl) rfl rfl rfl (Nat.le_of_ble_eq_true rfl)) pm_X11_feed rfl (Nat.le_of_ble_eq_true rfl) rfl rfl rfl ?_
  refine hC (d := 1979) rfl rfl (fun U D hU hUs hD hDs => ?_)
  have hA : (pg_h0 ++ U).length = 102 := by rw [List.length_append, hU]; rfl
  refine pg_cast (List.append_assoc _ _ _).symm ?_
  refine me1 (pc' := 130) dm_L_129 rfl rfl rfl rfl ?_
  refine me1 (pc' := 131) dm_L_130 rfl rfl rfl rfl ?_
  refine me1 (pc' := 132) dm_L_131 rfl rfl rfl rfl ?_
  refine me0 (pc' := 133) (S' := .int (1 : Int32) :: _) dm_L_132 rfl rfl rfl rfl ?_
  refine me0 (pc' := 134) (S' := .int (1 : Int32) :: _) dm_L_133 rfl rfl rfl rfl ?_
  refine me3 (pc' := 135) dm_L_134 (x_iald (v := (xs 1)) rfl (by decide) (by decide) rfl) rfl rfl rfl ?_
  refine me1 (pc' := 136) dm_L_135 rfl rfl rfl rfl ?_
  refine me1 (pc' := 137) dm_L_136 rfl rfl rfl rfl ?_
  refine me0 (pc' := 138) (S' := .int (2 : Int32) :: _) dm_L_137 rfl rfl rfl rfl ?_
  refine me0 (pc' := 139) (S' := .int (2 : Int32) :: _) dm_L_138 rfl rfl rfl rfl ?_
  refine me3 (pc' := 140) dm_L_139 (x_iald (v := (xs 2)) rfl (by decide) (by decide) rfl) rfl rfl rfl ?_
  refine me1 (pc' := 141) dm_L_140 rfl rfl rfl rfl ?_
  refine me1 (pc' := 142) dm_L_141 rfl rfl rfl rfl ?_
  refine me0 (pc' := 143) (S' := .int (3 : Int32) :: _) dm_L_142 rfl rfl rfl rfl ?_
  refine me0 (pc' := 144) (S' := .int (3 : Int32) :: _) dm_L_143 rfl rfl rfl rfl ?_
  refine me3 (pc' := 145) dm_L_144 (x_iald (v := (xs 3)) rfl (by decide) (by decide) rfl) rfl rfl rfl ?_
  refine me1 (pc' := 146) dm_L_145 rfl rfl rfl rfl ?_
  refine me1 (pc' := 147) dm_L_146 rfl rfl rfl rfl ?_
  refine me0 (pc' := 148) (S' := .int (4 : Int32) :: _) dm_L_147 rfl rfl rfl rfl ?_
  refine me0 (pc' := 149) (S' := .int (4 : Int32) :: _) dm_L_148 rfl rfl rfl rfl ?_
  refine me3 (pc' := 150) dm_L_149 (x_iald (v := (xs 4)) rfl (by decide) (by decide) rfl) rfl rfl rfl ?_
  refine me1 (pc' := 151) dm_L_150 rfl rfl rfl rfl ?_
  refine me1 (pc' := 152) dm_L_151 rfl rfl rfl rfl ?_
  refine me0 (pc' := 153) (S' := .int (5 : Int32) :: _) dm_L_152 rfl rfl rfl rfl ?_
  refine me0 (pc' := 154) (S' := .int (5 : Int32) :: _) dm_L_153 rfl rfl rfl rfl ?_
  refine me3 (pc' := 155) dm_L_154 (x_iald (v := (xs 5)) rfl (by decide) (by decide) rfl) rfl rfl rfl ?_
  refine me4 (pc' := 158) (L0 := [(0, .ref 102), (1, .int (xs 1)), (2, .int (xs 2)), (3, .int (xs 3)), (4, .int (xs 4)), (5, .int (xs 5))]) dm_L_155 rfl (g_inv (As := [.int (xs 1), .int (xs 2), .int (xs 3), .int (xs 4), .int (xs 5)]) (lu (n := 102) (j := 0) hA rfl) rfl rfl rfl (Nat.le_of_ble_eq_true rfl)) pm_X12_feed rfl (Nat.le_of_ble_eq_true rfl) rfl rfl rfl ?_
  refine hR (d := 1979) hA (fun R hR1 hR2 => ?_)
  refine me_2t (pc' := 450) dm_L_158 rfl (mj_cnd_eq.mpr rfl) ?_
  refine me1 (pc' := 453) (L' := [(3, .int (6 : Int32)), (2, .ref 102), (1, .ref 2), (0, .ref 0)]) dm_L_450 rfl rfl rfl rfl ?_
  refine me2 (pc' := 18) dm_L_453 rfl rfl rfl ?_
  refine me1 (pc' := 19) dm_L_18 rfl rfl rfl rfl ?_
  refine me1 (pc' := 20) dm_L_19 rfl rfl rfl rfl ?_
  refine me3 (pc' := 21) dm_L_20 (x_len (v := (6 : Int32)) rfl (by decide) rfl) rfl rfl rfl ?_
  refine me0 (pc' := 23) (S' := .int (6 : Int32) :: _) dm_L_21 rfl rfl rfl rfl ?_
  refine me0 (pc' := 24) (S' := .int (0 : Int32) :: _) dm_L_23 rfl rfl rfl rfl ?_
  refine me_2t (pc' := 456) dm_L_24 rfl rfl ?_
  refine me0 (pc' := 457) (S' := .int (1 : Int32) :: _) dm_L_456 rfl rfl rfl rfl ?_
  refine me5 dm_L_457 rfl rfl rfl ?_
  exact hP U D R hU hUs hD hDs hR1 hR2
set_option maxRecDepth 100000 in
set_option maxHeartbeats 4000000 in
theorem L_line (xs : Nat → Int32) (hs : xs 0 &&& 15 = 1) {P : Option Value → mj_H → Prop} (hP : ∀ U D R, U.length = 100 → mj_sl U ≤ 20000 → D.length ≤ 10 → mj_sl D ≤ 2000 → R.length = 25 → mj_sl R ≤ 3000000 → P (some (.int 1)) ((pg_h0 ++ U) ++ (R ++ D))) : pgE (pg_xt 6 xs) 2000 13 4 false (some .boolean) (mj_dec code) 18 [(3, .int 0), (2, .ref 102), (1, .ref 2), (0, .ref 0)] [] (pg_h0 ++ (cT ++ (rT ++ []))) P := by
  obtain ⟨a, hC, hR⟩ := O_line (xs 1)
  refine me1 (pc' := 19) dm_L_18 rfl rfl rfl rfl ?_
  refine me1 (pc' := 20) dm_L_19 rfl rfl rfl rfl ?_
  refine me3 (pc' := 21) dm_L_20 (x_len (v := (6 : Int32)) rfl (by decide) rfl) rfl rfl rfl ?_
  refine me0 (pc' := 23) (S' := .int (6 : Int32) :: _) dm_L_21 rfl rfl rfl rfl ?_
  refine me0 (pc' := 24) (S' := .int (0 : Int32) :: _) dm_L_23 rfl rfl rfl rfl ?_
  refine me_2f (pc' := 27) dm_L_24 rfl (by decide) rfl ?_
  refine me1 (pc' := 28) dm_L_27 rfl rfl rfl rfl ?_
  refine me1 (pc' := 29) dm_L_28 rfl rfl rfl rfl ?_
  refine me3 (pc' := 30) dm_L_29 (x_iald (v := (xs 0)) rfl (by decide) (by decide) rfl) rfl rfl rfl ?_
  refine me0 (pc' := 32) (S' := .int (15 : Int32) :: _) dm_L_30 rfl rfl rfl rfl ?_
  refine me0 (pc' := 33) (S' := [.int (1 : Int32)]) dm_L_32 (show mj_alu .iand [.int 15, .int (xs 0)] = some [.int (1 : Int32)] from congrArg (fun z => some [Value.int z]) hs) rfl rfl rfl ?_
  refine me2 (pc' := 163) dm_L_33 rfl rfl rfl ?_
  refine me1 (pc' := 164) dm_L_163 rfl rfl rfl rfl ?_
  refine me1 (pc' := 165) dm_L_164 rfl rfl rfl rfl ?_
  refine me1 (pc' := 166) dm_L_165 rfl rfl rfl rfl ?_
  refine me0 (pc' := 167) (S' := .int (1 : Int32) :: _) dm_L_166 rfl rfl rfl rfl ?_
  refine me0 (pc' := 168) (S' := .int (1 : Int32) :: _) dm_L_167 rfl rfl rfl rfl ?_
  refine me3 (pc' := 169) dm_L_168 (x_iald (v := (xs 1)) rfl (by decide) (by decide) rfl) rfl rfl rfl ?_
  refine me4 (pc' := 172) (L0 := [(0, .ref 2), (1, .int (xs 1))]) dm_L_169 rfl (g_inv (As := [.int (xs 1)]) (lu (n := 2) (j := 0) rfl rfl) rfl rfl rfl (Nat.le_of_ble_eq_true rfl)) pm_X11_line rfl (Nat.le_of_ble_eq_true rfl) rfl rfl rfl ?_
  refine hC (d := 1979) rfl rfl (fun U D hU hUs hD hDs => ?_)
  have hA : (pg_h0 ++ U).length = 102 := by rw [List.length_append, hU]; rfl
  refine pg_cast (List.append_assoc _ _ _).symm ?_
  refine me1 (pc' := 173) dm_L_172 rfl rfl rfl rfl ?_
  refine me1 (pc' := 174) dm_L_173 rfl rfl rfl rfl ?_
  refine me1 (pc' := 175) dm_L_174 rfl rfl rfl rfl ?_
  refine me0 (pc' := 176) (S' := .int (1 : Int32) :: _) dm_L_175 rfl rfl rfl rfl ?_
  refine me0 (pc' := 177) (S' := .int (1 : Int32) :: _) dm_L_176 rfl rfl rfl rfl ?_
  refine me3 (pc' := 178) dm_L_177 (x_iald (v := (xs 1)) rfl (by decide) (by decide) rfl) rfl rfl rfl ?_
  refine me4 (pc' := 181) (L0 := [(0, .ref 102), (1, .int (xs 1))]) dm_L_178 rfl (g_inv (As := [.int (xs 1)]) (lu (n := 102) (j := 0) hA rfl) rfl rfl rfl (Nat.le_of_ble_eq_true rfl)) pm_X12_line rfl (Nat.le_of_ble_eq_true rfl) rfl rfl rfl ?_
  refine hR (d := 1979) hA (fun R hR1 hR2 => ?_)
  refine me_2t (pc' := 450) dm_L_181 rfl (mj_cnd_eq.mpr rfl) ?_
  refine me1 (pc' := 453) (L' := [(3, .int (6 : Int32)), (2, .ref 102), (1, .ref 2), (0, .ref 0)]) dm_L_450 rfl rfl rfl rfl ?_
  refine me2 (pc' := 18) dm_L_453 rfl rfl rfl ?_
  refine me1 (pc' := 19) dm_L_18 rfl rfl rfl rfl ?_
  refine me1 (pc' := 20) dm_L_19 rfl rfl rfl rfl ?_
  refine me3 (pc' := 21) dm_L_20 (x_len (v := (6 : Int32)) rfl (by decide) rfl) rfl rfl rfl ?_
  refine me0 (pc' := 23) (S' := .int (6 : Int32) :: _) dm_L_21 rfl rfl rfl rfl ?_
  refine me0 (pc' := 24) (S' := .int (0 : Int32) :: _) dm_L_23 rfl rfl rfl rfl ?_
  refine me_2t (pc' := 456) dm_L_24 rfl rfl ?_
  refine me0 (pc' := 457) (S' := .int (1 : Int32) :: _) dm_L_456 rfl rfl rfl rfl ?_
  refine me5 dm_L_457 rfl rfl rfl ?_
  exact hP U D R hU hUs hD hDs hR1 hR2
set_option maxRecDepth 100000 in
set_option maxHeartbeats 4000000 in
theorem L_told (xs : Nat → Int32) (hs : xs 0 &&& 15 = 2) {P : Option Value → mj_H → Prop} (hP : ∀ U D R, U.length = 100 → mj_sl U ≤ 20000 → D.length ≤ 10 → mj_sl D ≤ 2000 → R.length = 25 → mj_sl R ≤ 3000000 → P (some (.int 1)) ((pg_h0 ++ U) ++ (R ++ D))) : pgE (pg_xt 6 xs) 2000 13 4 false (some .boolean) (mj_dec code) 18 [(3, .int 0), (2, .ref 102), (1, .ref 2), (0, .ref 0)] [] (pg_h0 ++ (cT ++ (rT ++ []))) P := by
  obtain ⟨a, hC, hR⟩ := O_told (xs 1)
  refine me1 (pc' := 19) dm_L_18 rfl rfl rfl rfl ?_
  refine me1 (pc' := 20) dm_L_19 rfl rfl rfl rfl ?_
  refine me3 (pc' := 21) dm_L_20 (x_len (v := (6 : Int32)) rfl (by decide) rfl) rfl rfl rfl ?_
  refine me0 (pc' := 23) (S' := .int (6 : Int32) :: _) dm_L_21 rfl rfl rfl rfl ?_
  refine me0 (pc' := 24) (S' := .int (0 : Int32) :: _) dm_L_23 rfl rfl rfl rfl ?_
  refine me_2f (pc' := 27) dm_L_24 rfl (by decide) rfl ?_
  refine me1 (pc' := 28) dm_L_27 rfl rfl rfl rfl ?_
  refine me1 (pc' := 29) dm_L_28 rfl rfl rfl rfl ?_
  refine me3 (pc' := 30) dm_L_29 (x_iald (v := (xs 0)) rfl (by decide) (by decide) rfl) rfl rfl rfl ?_
  refine me0 (pc' := 32) (S' := .int (15 : Int32) :: _) dm_L_30 rfl rfl rfl rfl ?_
  refine me0 (pc' := 33) (S' := [.int (2 : Int32)]) dm_L_32 (show mj_alu .iand [.int 15, .int (xs 0)] = some [.int (2 : Int32)] from congrArg (fun z => some [Value.int z]) hs) rfl rfl rfl ?_
  refine me2 (pc' := 186) dm_L_33 rfl rfl rfl ?_
  refine me1 (pc' := 187) dm_L_186 rfl rfl rfl rfl ?_
  refine me1 (pc' := 188) dm_L_187 rfl rfl rfl rfl ?_
  refine me1 (pc' := 189) dm_L_188 rfl rfl rfl rfl ?_
  refine me0 (pc' := 190) (S' := .int (1 : Int32) :: _) dm_L_189 rfl rfl rfl rfl ?_
  refine me0 (pc' := 191) (S' := .int (1 : Int32) :: _) dm_L_190 rfl rfl rfl rfl ?_
  refine me3 (pc' := 192) dm_L_191 (x_iald (v := (xs 1)) rfl (by decide) (by decide) rfl) rfl rfl rfl ?_
  refine me4 (pc' := 195) (L0 := [(0, .ref 2), (1, .int (xs 1))]) dm_L_192 rfl (g_inv (As := [.int (xs 1)]) (lu (n := 2) (j := 0) rfl rfl) rfl rfl rfl (Nat.le_of_ble_eq_true rfl)) pm_X11_told rfl (Nat.le_of_ble_eq_true rfl) rfl rfl rfl ?_
  refine hC (d := 1979) rfl rfl (fun U D hU hUs hD hDs => ?_)
  have hA : (pg_h0 ++ U).length = 102 := by rw [List.length_append, hU]; rfl
  refine pg_cast (List.append_assoc _ _ _).symm ?_
  refine me1 (pc' := 196) dm_L_195 rfl rfl rfl rfl ?_
  refine me1 (pc' := 197) dm_L_196 rfl rfl rfl rfl ?_
  refine me1 (pc' := 198) dm_L_197 rfl rfl rfl rfl ?_
  refine me0 (pc' := 199) (S' := .int (1 : Int32) :: _) dm_L_198 rfl rfl rfl rfl ?_
  refine me0 (pc' := 200) (S' := .int (1 : Int32) :: _) dm_L_199 rfl rfl rfl rfl ?_
  refine me3 (pc' := 201) dm_L_200 (x_iald (v := (xs 1)) rfl (by decide) (by decide) rfl) rfl rfl rfl ?_
  refine me4 (pc' := 204) (L0 := [(0, .ref 102), (1, .int (xs 1))]) dm_L_201 rfl (g_inv (As := [.int (xs 1)]) (lu (n := 102) (j := 0) hA rfl) rfl rfl rfl (Nat.le_of_ble_eq_true rfl)) pm_X12_told rfl (Nat.le_of_ble_eq_true rfl) rfl rfl rfl ?_
  refine hR (d := 1979) hA (fun R hR1 hR2 => ?_)
  refine me_2t (pc' := 450) dm_L_204 rfl (mj_cnd_eq.mpr rfl) ?_
  refine me1 (pc' := 453) (L' := [(3, .int (6 : Int32)), (2, .ref 102), (1, .ref 2), (0, .ref 0)]) dm_L_450 rfl rfl rfl rfl ?_
  refine me2 (pc' := 18) dm_L_453 rfl rfl rfl ?_
  refine me1 (pc' := 19) dm_L_18 rfl rfl rfl rfl ?_
  refine me1 (pc' := 20) dm_L_19 rfl rfl rfl rfl ?_
  refine me3 (pc' := 21) dm_L_20 (x_len (v := (6 : Int32)) rfl (by decide) rfl) rfl rfl rfl ?_
  refine me0 (pc' := 23) (S' := .int (6 : Int32) :: _) dm_L_21 rfl rfl rfl rfl ?_
  refine me0 (pc' := 24) (S' := .int (0 : Int32) :: _) dm_L_23 rfl rfl rfl rfl ?_
  refine me_2t (pc' := 456) dm_L_24 rfl rfl ?_
  refine me0 (pc' := 457) (S' := .int (1 : Int32) :: _) dm_L_456 rfl rfl rfl rfl ?_
  refine me5 dm_L_457 rfl rfl rfl ?_
  exact hP U D R hU hUs hD hDs hR1 hR2
set_option maxRecDepth 100000 in
set_option maxHeartbeats 4000000 in
theorem L_point (xs : Nat → Int32) (hs : xs 0 &&& 15 = 3) {P : Option Value → mj_H → Prop} (hP : ∀ U D R, U.length = 100 → mj_sl U ≤ 20000 → D.length ≤ 10 → mj_sl D ≤ 2000 → R.length = 25 → mj_sl R ≤ 3000000 → P (some (.int 1)) ((pg_h0 ++ U) ++ (R ++ D))) : pgE (pg_xt 6 xs) 2000 13 4 false (some .boolean) (mj_dec code) 18 [(3, .int 0), (2, .ref 102), (1, .ref 2), (0, .ref 0)] [] (pg_h0 ++ (cT ++ (rT ++ []))) P := by
  obtain ⟨a, hC, hR⟩ := O_point (xs 1) (xs 2)
  refine me1 (pc' := 19) dm_L_18 rfl rfl rfl rfl ?_
  refine me1 (pc' := 20) dm_L_19 rfl rfl rfl rfl ?_
  refine me3 (pc' := 21) dm_L_20 (x_len (v := (6 : Int32)) rfl (by decide) rfl) rfl rfl rfl ?_
  refine me0 (pc' := 23) (S' := .int (6 : Int32) :: _) dm_L_21 rfl rfl rfl rfl ?_
  refine me0 (pc' := 24) (S' := .int (0 : Int32) :: _) dm_L_23 rfl rfl rfl rfl ?_
  refine me_2f (pc' := 27) dm_L_24 rfl (by decide) rfl ?_
  refine me1 (pc' := 28) dm_L_27 rfl rfl rfl rfl ?_
  refine me1 (pc' := 29) dm_L_28 rfl rfl rfl rfl ?_
  refine me3 (pc' := 30) dm_L_29 (x_iald (v := (xs 0)) rfl (by decide) (by decide) rfl) rfl rfl rfl ?_
  refine me0 (pc' := 32) (S' := .int (15 : Int32) :: _) dm_L_30 rfl rfl rfl rfl ?_
  refine me0 (pc' := 33) (S' := [.int (3 : Int32)]) dm_L_32 (show mj_alu .iand [.int 15, .int (xs 0)] = some [.int (3 : Int32)] from congrArg (fun z => some [Value.int z]) hs) rfl rfl rfl ?_
  refine me2 (pc' := 209) dm_L_33 rfl rfl rfl ?_
  refine me1 (pc' := 210) dm_L_209 rfl rfl rfl rfl ?_
  refine me1 (pc' := 211) dm_L_210 rfl rfl rfl rfl ?_
  refine me1 (pc' := 212) dm_L_211 rfl rfl rfl rfl ?_
  refine me0 (pc' := 213) (S' := .int (1 : Int32) :: _) dm_L_212 rfl rfl rfl rfl ?_
  refine me0 (pc' := 214) (S' := .int (1 : Int32) :: _) dm_L_213 rfl rfl rfl rfl ?_
  refine me3 (pc' := 215) dm_L_214 (x_iald (v := (xs 1)) rfl (by decide) (by decide) rfl) rfl rfl rfl ?_
  refine me1 (pc' := 216) dm_L_215 rfl rfl rfl rfl ?_
  refine me1 (pc' := 217) dm_L_216 rfl rfl rfl rfl ?_
  refine me0 (pc' := 218) (S' := .int (2 : Int32) :: _) dm_L_217 rfl rfl rfl rfl ?_
  refine me0 (pc' := 219) (S' := .int (2 : Int32) :: _) dm_L_218 rfl rfl rfl rfl ?_
  refine me3 (pc' := 220) dm_L_219 (x_iald (v := (xs 2)) rfl (by decide) (by decide) rfl) rfl rfl rfl ?_
  refine me4 (pc' := 223) (L0 := [(0, .ref 2), (1, .int (xs 1)), (2, .int (xs 2))]) dm_L_220 rfl (g_inv (As := [.int (xs 1), .int (xs 2)]) (lu (n := 2) (j := 0) rfl rfl) rfl rfl rfl (Nat.le_of_ble_eq_true rfl)) pm_X11_point rfl (Nat.le_of_ble_eq_true rfl) rfl rfl rfl ?_
  refine hC (d := 1979) rfl rfl (fun U D hU hUs hD hDs => ?_)
  have hA : (pg_h0 ++ U).length = 102 := by rw [List.length_append, hU]; rfl
  refine pg_cast (List.append_assoc _ _ _).symm ?_
  refine me1 (pc' := 224) dm_L_223 rfl rfl rfl rfl ?_
  refine me1 (pc' := 225) dm_L_224 rfl rfl rfl rfl ?_
  refine me1 (pc' := 226) dm_L_225 rfl rfl rfl rfl ?_
  refine me0 (pc' := 227) (S' := .int (1 : Int32) :: _) dm_L_226 rfl rfl rfl rfl ?_
  refine me0 (pc' := 228) (S' := .int (1 : Int32) :: _) dm_L_227 rfl rfl rfl rfl ?_
  refine me3 (pc' := 229) dm_L_228 (x_iald (v := (xs 1)) rfl (by decide) (by decide) rfl) rfl rfl rfl ?_
  refine me1 (pc' := 230) dm_L_229 rfl rfl rfl rfl ?_
  refine me1 (pc' := 231) dm_L_230 rfl rfl rfl rfl ?_
  refine me0 (pc' := 232) (S' := .int (2 : Int32) :: _) dm_L_231 rfl rfl rfl rfl ?_
  refine me0 (pc' := 233) (S' := .int (2 : Int32) :: _) dm_L_232 rfl rfl rfl rfl ?_
  refine me3 (pc' := 234) dm_L_233 (x_iald (v := (xs 2)) rfl (by decide) (by decide) rfl) rfl rfl rfl ?_
  refine me4 (pc' := 237) (L0 := [(0, .ref 102), (1, .int (xs 1)), (2, .int (xs 2))]) dm_L_234 rfl (g_inv (As := [.int (xs 1), .int (xs 2)]) (lu (n := 102) (j := 0) hA rfl) rfl rfl rfl (Nat.le_of_ble_eq_true rfl)) pm_X12_point rfl (Nat.le_of_ble_eq_true rfl) rfl rfl rfl ?_
  refine hR (d := 1979) hA (fun R hR1 hR2 => ?_)
  refine me_2t (pc' := 450) dm_L_237 rfl (mj_cnd_eq.mpr rfl) ?_
  refine me1 (pc' := 453) (L' := [(3, .int (6 : Int32)), (2, .ref 102), (1, .ref 2), (0, .ref 0)]) dm_L_450 rfl rfl rfl rfl ?_
  refine me2 (pc' := 18) dm_L_453 rfl rfl rfl ?_
  refine me1 (pc' := 19) dm_L_18 rfl rfl rfl rfl ?_
  refine me1 (pc' := 20) dm_L_19 rfl rfl rfl rfl ?_
  refine me3 (pc' := 21) dm_L_20 (x_len (v := (6 : Int32)) rfl (by decide) rfl) rfl rfl rfl ?_
  refine me0 (pc' := 23) (S' := .int (6 : Int32) :: _) dm_L_21 rfl rfl rfl rfl ?_
  refine me0 (pc' := 24) (S' := .int (0 : Int32) :: _) dm_L_23 rfl rfl rfl rfl ?_
  refine me_2t (pc' := 456) dm_L_24 rfl rfl ?_
  refine me0 (pc' := 457) (S' := .int (1 : Int32) :: _) dm_L_456 rfl rfl rfl rfl ?_
  refine me5 dm_L_457 rfl rfl rfl ?_
  exact hP U D R hU hUs hD hDs hR1 hR2
set_option maxRecDepth 100000 in
set_option maxHeartbeats 4000000 in
theorem L_kind (xs : Nat → Int32) (hs : xs 0 &&& 15 = 4) {P : Option Value → mj_H → Prop} (hP : ∀ U D R, U.length = 100 → mj_sl U ≤ 20000 → D.length ≤ 10 → mj_sl D ≤ 2000 → R.length = 25 → mj_sl R ≤ 3000000 → P (some (.int 1)) ((pg_h0 ++ U) ++ (R ++ D))) : pgE (pg_xt 6 xs) 2000 13 4 false (some .boolean) (mj_dec code) 18 [(3, .int 0), (2, .ref 102), (1, .ref 2), (0, .ref 0)] [] (pg_h0 ++ (cT ++ (rT ++ []))) P := by
  obtain ⟨a, hC, hR⟩ := O_kind 
  refine me1 (pc' := 19) dm_L_18 rfl rfl rfl rfl ?_
  refine me1 (pc' := 20) dm_L_19 rfl rfl rfl rfl ?_
  refine me3 (pc' := 21) dm_L_20 (x_len (v := (6 : Int32)) rfl (by decide) rfl) rfl rfl rfl ?_
  refine me0 (pc' := 23) (S' := .int (6 : Int32) :: _) dm_L_21 rfl rfl rfl rfl ?_
  refine me0 (pc' := 24) (S' := .int (0 : Int32) :: _) dm_L_23 rfl rfl rfl rfl ?_
  refine me_2f (pc' := 27) dm_L_24 rfl (by decide) rfl ?_
  refine me1 (pc' := 28) dm_L_27 rfl rfl rfl rfl ?_
  refine me1 (pc' := 29) dm_L_28 rfl rfl rfl rfl ?_
  refine me3 (pc' := 30) dm_L_29 (x_iald (v := (xs 0)) rfl (by decide) (by decide) rfl) rfl rfl rfl ?_
  refine me0 (pc' := 32) (S' := .int (15 : Int32) :: _) dm_L_30 rfl rfl rfl rfl ?_
  refine me0 (pc' := 33) (S' := [.int (4 : Int32)]) dm_L_32 (show mj_alu .iand [.int 15, .int (xs 0)] = some [.int (4 : Int32)] from congrArg (fun z => some [Value.int z]) hs) rfl rfl rfl ?_
  refine me2 (pc' := 242) dm_L_33 rfl rfl rfl ?_
  refine me1 (pc' := 243) dm_L_242 rfl rfl rfl rfl ?_
  refine me4 (pc' := 246) (L0 := [(0, .ref 2)]) dm_L_243 rfl (g_inv (As := []) (lu (n := 2) (j := 0) rfl rfl) rfl rfl rfl (Nat.le_of_ble_eq_true rfl)) pm_X11_kind rfl (Nat.le_of_ble_eq_true rfl) rfl rfl rfl ?_
  refine hC (d := 1979) rfl rfl (fun U D hU hUs hD hDs => ?_)
  have hA : (pg_h0 ++ U).length = 102 := by rw [List.length_append, hU]; rfl
  refine pg_cast (List.append_assoc _ _ _).symm ?_
  refine me1 (pc' := 247) dm_L_246 rfl rfl rfl rfl ?_
  refine me4 (pc' := 250) (L0 := [(0, .ref 102)]) dm_L_247 rfl (g_inv (As := []) (lu (n := 102) (j := 0) hA rfl) rfl rfl rfl (Nat.le_of_ble_eq_true rfl)) pm_X12_kind rfl (Nat.le_of_ble_eq_true rfl) rfl rfl rfl ?_
  refine hR (d := 1979) hA (fun R hR1 hR2 => ?_)
  refine me_2t (pc' := 450) dm_L_250 rfl (mj_cnd_eq.mpr rfl) ?_
  refine me1 (pc' := 453) (L' := [(3, .int (6 : Int32)), (2, .ref 102), (1, .ref 2), (0, .ref 0)]) dm_L_450 rfl rfl rfl rfl ?_
  refine me2 (pc' := 18) dm_L_453 rfl rfl rfl ?_
  refine me1 (pc' := 19) dm_L_18 rfl rfl rfl rfl ?_
  refine me1 (pc' := 20) dm_L_19 rfl rfl rfl rfl ?_
  refine me3 (pc' := 21) dm_L_20 (x_len (v := (6 : Int32)) rfl (by decide) rfl) rfl rfl rfl ?_
  refine me0 (pc' := 23) (S' := .int (6 : Int32) :: _) dm_L_21 rfl rfl rfl rfl ?_
  refine me0 (pc' := 24) (S' := .int (0 : Int32) :: _) dm_L_23 rfl rfl rfl rfl ?_
  refine me_2t (pc' := 456) dm_L_24 rfl rfl ?_
  refine me0 (pc' := 457) (S' := .int (1 : Int32) :: _) dm_L_456 rfl rfl rfl rfl ?_
  refine me5 dm_L_457 rfl rfl rfl ?_
  exact hP U D R hU hUs hD hDs hR1 hR2
set_option maxRecDepth 100000 in
set_option maxHeartbeats 4000000 in
theorem L_count (xs : Nat → Int32) (hs : xs 0 &&& 15 = 5) {P : Option Value → mj_H → Prop} (hP : ∀ U D R, U.length = 100 → mj_sl U ≤ 20000 → D.length ≤ 10 → mj_sl D ≤ 2000 → R.length = 25 → mj_sl R ≤ 3000000 → P (some (.int 1)) ((pg_h0 ++ U) ++ (R ++ D))) : pgE (pg_xt 6 xs) 2000 13 4 false (some .boolean) (mj_dec code) 18 [(3, .int 0), (2, .ref 102), (1, .ref 2), (0, .ref 0)] [] (pg_h0 ++ (cT ++ (rT ++ []))) P := by
  obtain ⟨a, hC, hR⟩ := O_count (xs 1)
  refine me1 (pc' := 19) dm_L_18 rfl rfl rfl rfl ?_
  refine me1 (pc' := 20) dm_L_19 rfl rfl rfl rfl ?_
  refine me3 (pc' := 21) dm_L_20 (x_len (v := (6 : Int32)) rfl (by decide) rfl) rfl rfl rfl ?_
  refine me0 (pc' := 23) (S' := .int (6 : Int32) :: _) dm_L_21 rfl rfl rfl rfl ?_
  refine me0 (pc' := 24) (S' := .int (0 : Int32) :: _) dm_L_23 rfl rfl rfl rfl ?_
  refine me_2f (pc' := 27) dm_L_24 rfl (by decide) rfl ?_
  refine me1 (pc' := 28) dm_L_27 rfl rfl rfl rfl ?_
  refine me1 (pc' := 29) dm_L_28 rfl rfl rfl rfl ?_
  refine me3 (pc' := 30) dm_L_29 (x_iald (v := (xs 0)) rfl (by decide) (by decide) rfl) rfl rfl rfl ?_
  refine me0 (pc' := 32) (S' := .int (15 : Int32) :: _) dm_L_30 rfl rfl rfl rfl ?_
  refine me0 (pc' := 33) (S' := [.int (5 : Int32)]) dm_L_32 (show mj_alu .iand [.int 15, .int (xs 0)] = some [.int (5 : Int32)] from congrArg (fun z => some [Value.int z]) hs) rfl rfl rfl ?_
  refine me2 (pc' := 255) dm_L_33 rfl rfl rfl ?_
  refine me1 (pc' := 256) dm_L_255 rfl rfl rfl rfl ?_
  refine me1 (pc' := 257) dm_L_256 rfl rfl rfl rfl ?_
  refine me1 (pc' := 258) dm_L_257 rfl rfl rfl rfl ?_
  refine me0 (pc' := 259) (S' := .int (1 : Int32) :: _) dm_L_258 rfl rfl rfl rfl ?_
  refine me0 (pc' := 260) (S' := .int (1 : Int32) :: _) dm_L_259 rfl rfl rfl rfl ?_
  refine me3 (pc' := 261) dm_L_260 (x_iald (v := (xs 1)) rfl (by decide) (by decide) rfl) rfl rfl rfl ?_
  refine me4 (pc' := 264) (L0 := [(0, .ref 2), (1, .int (xs 1))]) dm_L_261 rfl (g_inv (As := [.int (xs 1)]) (lu (n := 2) (j := 0) rfl rfl) rfl rfl rfl (Nat.le_of_ble_eq_true rfl)) pm_X11_count rfl (Nat.le_of_ble_eq_true rfl) rfl rfl rfl ?_
  refine hC (d := 1979) rfl rfl (fun U D hU hUs hD hDs => ?_)
  have hA : (pg_h0 ++ U).length = 102 := by rw [List.length_append, hU]; rfl
  refine pg_cast (List.append_assoc _ _ _).symm ?_
  refine me1 (pc' := 265) dm_L_264 rfl rfl rfl rfl ?_
  refine me1 (pc' := 266) dm_L_265 rfl rfl rfl rfl ?_
  refine me1 (pc' := 267) dm_L_266 rfl rfl rfl rfl ?_
  refine me0 (pc' := 268) (S' := .int (1 : Int32) :: _) dm_L_267 rfl rfl rfl rfl ?_
  refine me0 (pc' := 269) (S' := .int (1 : Int32) :: _) dm_L_268 rfl rfl rfl rfl ?_
  refine me3 (pc' := 270) dm_L_269 (x_iald (v := (xs 1)) rfl (by decide) (by decide) rfl) rfl rfl rfl ?_
  refine me4 (pc' := 273) (L0 := [(0, .ref 102), (1, .int (xs 1))]) dm_L_270 rfl (g_inv (As := [.int (xs 1)]) (lu (n := 102) (j := 0) hA rfl) rfl rfl rfl (Nat.le_of_ble_eq_true rfl)) pm_X12_count rfl (Nat.le_of_ble_eq_true rfl) rfl rfl rfl ?_
  refine hR (d := 1979) hA (fun R hR1 hR2 => ?_)
  refine me_2t (pc' := 450) dm_L_273 rfl (mj_cnd_eq.mpr rfl) ?_
  refine me1 (pc' := 453) (L' := [(3, .int (6 : Int32)), (2, .ref 102), (1, .ref 2), (0, .ref 0)]) dm_L_450 rfl rfl rfl rfl ?_
  refine me2 (pc' := 18) dm_L_453 rfl rfl rfl ?_
  refine me1 (pc' := 19) dm_L_18 rfl rfl rfl rfl ?_
  refine me1 (pc' := 20) dm_L_19 rfl rfl rfl rfl ?_
  refine me3 (pc' := 21) dm_L_20 (x_len (v := (6 : Int32)) rfl (by decide) rfl) rfl rfl rfl ?_
  refine me0 (pc' := 23) (S' := .int (6 : Int32) :: _) dm_L_21 rfl rfl rfl rfl ?_
  refine me0 (pc' := 24) (S' := .int (0 : Int32) :: _) dm_L_23 rfl rfl rfl rfl ?_
  refine me_2t (pc' := 456) dm_L_24 rfl rfl ?_
  refine me0 (pc' := 457) (S' := .int (1 : Int32) :: _) dm_L_456 rfl rfl rfl rfl ?_
  refine me5 dm_L_457 rfl rfl rfl ?_
  exact hP U D R hU hUs hD hDs hR1 hR2
set_option maxRecDepth 100000 in
set_option maxHeartbeats 4000000 in
theorem L_item (xs : Nat → Int32) (hs : xs 0 &&& 15 = 6) {P : Option Value → mj_H → Prop} (hP : ∀ U D R, U.length = 100 → mj_sl U ≤ 20000 → D.length ≤ 10 → mj_sl D ≤ 2000 → R.length = 25 → mj_sl R ≤ 3000000 → P (some (.int 1)) ((pg_h0 ++ U) ++ (R ++ D))) : pgE (pg_xt 6 xs) 2000 13 4 false (some .boolean) (mj_dec code) 18 [(3, .int 0), (2, .ref 102), (1, .ref 2), (0, .ref 0)] [] (pg_h0 ++ (cT ++ (rT ++ []))) P := by
  obtain ⟨a, hC, hR⟩ := O_item (xs 1)
  refine me1 (pc' := 19) dm_L_18 rfl rfl rfl rfl ?_
  refine me1 (pc' := 20) dm_L_19 rfl rfl rfl rfl ?_
  refine me3 (pc' := 21) dm_L_20 (x_len (v := (6 : Int32)) rfl (by decide) rfl) rfl rfl rfl ?_
  refine me0 (pc' := 23) (S' := .int (6 : Int32) :: _) dm_L_21 rfl rfl rfl rfl ?_
  refine me0 (pc' := 24) (S' := .int (0 : Int32) :: _) dm_L_23 rfl rfl rfl rfl ?_
  refine me_2f (pc' := 27) dm_L_24 rfl (by decide) rfl ?_
  refine me1 (pc' := 28) dm_L_27 rfl rfl rfl rfl ?_
  refine me1 (pc' := 29) dm_L_28 rfl rfl rfl rfl ?_
  refine me3 (pc' := 30) dm_L_29 (x_iald (v := (xs 0)) rfl (by decide) (by decide) rfl) rfl rfl rfl ?_
  refine me0 (pc' := 32) (S' := .int (15 : Int32) :: _) dm_L_30 rfl rfl rfl rfl ?_
  refine me0 (pc' := 33) (S' := [.int (6 : Int32)]) dm_L_32 (show mj_alu .iand [.int 15, .int (xs 0)] = some [.int (6 : Int32)] from congrArg (fun z => some [Value.int z]) hs) rfl rfl rfl ?_
  refine me2 (pc' := 278) dm_L_33 rfl rfl rfl ?_
  refine me1 (pc' := 279) dm_L_278 rfl rfl rfl rfl ?_
  refine me1 (pc' := 280) dm_L_279 rfl rfl rfl rfl ?_
  refine me1 (pc' := 281) dm_L_280 rfl rfl rfl rfl ?_
  refine me0 (pc' := 282) (S' := .int (1 : Int32) :: _) dm_L_281 rfl rfl rfl rfl ?_
  refine me0 (pc' := 283) (S' := .int (1 : Int32) :: _) dm_L_282 rfl rfl rfl rfl ?_
  refine me3 (pc' := 284) dm_L_283 (x_iald (v := (xs 1)) rfl (by decide) (by decide) rfl) rfl rfl rfl ?_
  refine me4 (pc' := 287) (L0 := [(0, .ref 2), (1, .int (xs 1))]) dm_L_284 rfl (g_inv (As := [.int (xs 1)]) (lu (n := 2) (j := 0) rfl rfl) rfl rfl rfl (Nat.le_of_ble_eq_true rfl)) pm_X11_item rfl (Nat.le_of_ble_eq_true rfl) rfl rfl rfl ?_
  refine hC (d := 1979) rfl rfl (fun U D hU hUs hD hDs => ?_)
  have hA : (pg_h0 ++ U).length = 102 := by rw [List.length_append, hU]; rfl
  refine pg_cast (List.append_assoc _ _ _).symm ?_
  refine me1 (pc' := 288) dm_L_287 rfl rfl rfl rfl ?_
  refine me1 (pc' := 289) dm_L_288 rfl rfl rfl rfl ?_
  refine me1 (pc' := 290) dm_L_289 rfl rfl rfl rfl ?_
  refine me0 (pc' := 291) (S' := .int (1 : Int32) :: _) dm_L_290 rfl rfl rfl rfl ?_
  refine me0 (pc' := 292) (S' := .int (1 : Int32) :: _) dm_L_291 rfl rfl rfl rfl ?_
  refine me3 (pc' := 293) dm_L_292 (x_iald (v := (xs 1)) rfl (by decide) (by decide) rfl) rfl rfl rfl ?_
  refine me4 (pc' := 296) (L0 := [(0, .ref 102), (1, .int (xs 1))]) dm_L_293 rfl (g_inv (As := [.int (xs 1)]) (lu (n := 102) (j := 0) hA rfl) rfl rfl rfl (Nat.le_of_ble_eq_true rfl)) pm_X12_item rfl (Nat.le_of_ble_eq_true rfl) rfl rfl rfl ?_
  refine hR (d := 1979) hA (fun R hR1 hR2 => ?_)
  refine me0 (pc' := 297) (S' := [.int (0 : Int32)]) dm_L_296 (congrArg (fun z => some [Value.int z]) (lg_cmp_self a)) rfl rfl rfl ?_
  refine me_1t (pc' := 450) dm_L_297 rfl rfl ?_
  refine me1 (pc' := 453) (L' := [(3, .int (6 : Int32)), (2, .ref 102), (1, .ref 2), (0, .ref 0)]) dm_L_450 rfl rfl rfl rfl ?_
  refine me2 (pc' := 18) dm_L_453 rfl rfl rfl ?_
  refine me1 (pc' := 19) dm_L_18 rfl rfl rfl rfl ?_
  refine me1 (pc' := 20) dm_L_19 rfl rfl rfl rfl ?_
  refine me3 (pc' := 21) dm_L_20 (x_len (v := (6 : Int32)) rfl (by decide) rfl) rfl rfl rfl ?_
  refine me0 (pc' := 23) (S' := .int (6 : Int32) :: _) dm_L_21 rfl rfl rfl rfl ?_
  refine me0 (pc' := 24) (S' := .int (0 : Int32) :: _) dm_L_23 rfl rfl rfl rfl ?_
  refine me_2t (pc' := 456) dm_L_24 rfl rfl ?_
  refine me0 (pc' := 457) (S' := .int (1 : Int32) :: _) dm_L_456 rfl rfl rfl rfl ?_
  refine me5 dm_L_457 rfl rfl rfl ?_
  exact hP U D R hU hUs hD hDs hR1 hR2
set_option maxRecDepth 100000 in
set_option maxHeartbeats 4000000 in
theorem L_print (xs : Nat → Int32) (hs : xs 0 &&& 15 = 7) {P : Option Value → mj_H → Prop} (hP : ∀ U D R, U.length = 100 → mj_sl U ≤ 20000 → D.length ≤ 10 → mj_sl D ≤ 2000 → R.length = 25 → mj_sl R ≤ 3000000 → P (some (.int 1)) ((pg_h0 ++ U) ++ (R ++ D))) : pgE (pg_xt 6 xs) 2000 13 4 false (some .boolean) (mj_dec code) 18 [(3, .int 0), (2, .ref 102), (1, .ref 2), (0, .ref 0)] [] (pg_h0 ++ (cT ++ (rT ++ []))) P := by
  obtain ⟨a, hC, hR⟩ := O_print 
  refine me1 (pc' := 19) dm_L_18 rfl rfl rfl rfl ?_
  refine me1 (pc' := 20) dm_L_19 rfl rfl rfl rfl ?_
  refine me3 (pc' := 21) dm_L_20 (x_len (v := (6 : Int32)) rfl (by decide) rfl) rfl rfl rfl ?_
  refine me0 (pc' := 23) (S' := .int (6 : Int32) :: _) dm_L_21 rfl rfl rfl rfl ?_
  refine me0 (pc' := 24) (S' := .int (0 : Int32) :: _) dm_L_23 rfl rfl rfl rfl ?_
  refine me_2f (pc' := 27) dm_L_24 rfl (by decide) rfl ?_
  refine me1 (pc' := 28) dm_L_27 rfl rfl rfl rfl ?_
  refine me1 (pc' := 29) dm_L_28 rfl rfl rfl rfl ?_
  refine me3 (pc' := 30) dm_L_29 (x_iald (v := (xs 0)) rfl (by decide) (by decide) rfl) rfl rfl rfl ?_
  refine me0 (pc' := 32) (S' := .int (15 : Int32) :: _) dm_L_30 rfl rfl rfl rfl ?_
  refine me0 (pc' := 33) (S' := [.int (7 : Int32)]) dm_L_32 (show mj_alu .iand [.int 15, .int (xs 0)] = some [.int (7 : Int32)] from congrArg (fun z => some [Value.int z]) hs) rfl rfl rfl ?_
  refine me2 (pc' := 302) dm_L_33 rfl rfl rfl ?_
  refine me1 (pc' := 303) dm_L_302 rfl rfl rfl rfl ?_
  refine me4 (pc' := 306) (L0 := [(0, .ref 2)]) dm_L_303 rfl (g_inv (As := []) (lu (n := 2) (j := 0) rfl rfl) rfl rfl rfl (Nat.le_of_ble_eq_true rfl)) pm_X11_print rfl (Nat.le_of_ble_eq_true rfl) rfl rfl rfl ?_
  refine hC (d := 1979) rfl rfl (fun U D hU hUs hD hDs => ?_)
  have hA : (pg_h0 ++ U).length = 102 := by rw [List.length_append, hU]; rfl
  refine pg_cast (List.append_assoc _ _ _).symm ?_
  refine me1 (pc' := 307) dm_L_306 rfl rfl rfl rfl ?_
  refine me4 (pc' := 310) (L0 := [(0, .ref 102)]) dm_L_307 rfl (g_inv (As := []) (lu (n := 102) (j := 0) hA rfl) rfl rfl rfl (Nat.le_of_ble_eq_true rfl)) pm_X12_print rfl (Nat.le_of_ble_eq_true rfl) rfl rfl rfl ?_
  refine hR (d := 1979) hA (fun R hR1 hR2 => ?_)
  refine me_2t (pc' := 450) dm_L_310 rfl (mj_cnd_eq.mpr rfl) ?_
  refine me1 (pc' := 453) (L' := [(3, .int (6 : Int32)), (2, .ref 102), (1, .ref 2), (0, .ref 0)]) dm_L_450 rfl rfl rfl rfl ?_
  refine me2 (pc' := 18) dm_L_453 rfl rfl rfl ?_
  refine me1 (pc' := 19) dm_L_18 rfl rfl rfl rfl ?_
  refine me1 (pc' := 20) dm_L_19 rfl rfl rfl rfl ?_
  refine me3 (pc' := 21) dm_L_20 (x_len (v := (6 : Int32)) rfl (by decide) rfl) rfl rfl rfl ?_
  refine me0 (pc' := 23) (S' := .int (6 : Int32) :: _) dm_L_21 rfl rfl rfl rfl ?_
  refine me0 (pc' := 24) (S' := .int (0 : Int32) :: _) dm_L_23 rfl rfl rfl rfl ?_
  refine me_2t (pc' := 456) dm_L_24 rfl rfl ?_
  refine me0 (pc' := 457) (S' := .int (1 : Int32) :: _) dm_L_456 rfl rfl rfl rfl ?_
  refine me5 dm_L_457 rfl rfl rfl ?_
  exact hP U D R hU hUs hD hDs hR1 hR2
set_option maxRecDepth 100000 in
set_option maxHeartbeats 4000000 in
theorem L_octet (xs : Nat → Int32) (hs : xs 0 &&& 15 = 8) {P : Option Value → mj_H → Prop} (hP : ∀ U D R, U.length = 100 → mj_sl U ≤ 20000 → D.length ≤ 10 → mj_sl D ≤ 2000 → R.length = 25 → mj_sl R ≤ 3000000 → P (some (.int 1)) ((pg_h0 ++ U) ++ (R ++ D))) : pgE (pg_xt 6 xs) 2000 13 4 false (some .boolean) (mj_dec code) 18 [(3, .int 0), (2, .ref 102), (1, .ref 2), (0, .ref 0)] [] (pg_h0 ++ (cT ++ (rT ++ []))) P := by
  obtain ⟨a, hC, hR⟩ := O_octet (xs 1)
  refine me1 (pc' := 19) dm_L_18 rfl rfl rfl rfl ?_
  refine me1 (pc' := 20) dm_L_19 rfl rfl rfl rfl ?_
  refine me3 (pc' := 21) dm_L_20 (x_len (v := (6 : Int32)) rfl (by decide) rfl) rfl rfl rfl ?_
  refine me0 (pc' := 23) (S' := .int (6 : Int32) :: _) dm_L_21 rfl rfl rfl rfl ?_
  refine me0 (pc' := 24) (S' := .int (0 : Int32) :: _) dm_L_23 rfl rfl rfl rfl ?_
  refine me_2f (pc' := 27) dm_L_24 rfl (by decide) rfl ?_
  refine me1 (pc' := 28) dm_L_27 rfl rfl rfl rfl ?_
  refine me1 (pc' := 29) dm_L_28 rfl rfl rfl rfl ?_
  refine me3 (pc' := 30) dm_L_29 (x_iald (v := (xs 0)) rfl (by decide) (by decide) rfl) rfl rfl rfl ?_
  refine me0 (pc' := 32) (S' := .int (15 : Int32) :: _) dm_L_30 rfl rfl rfl rfl ?_
  refine me0 (pc' := 33) (S' := [.int (8 : Int32)]) dm_L_32 (show mj_alu .iand [.int 15, .int (xs 0)] = some [.int (8 : Int32)] from congrArg (fun z => some [Value.int z]) hs) rfl rfl rfl ?_
  refine me2 (pc' := 315) dm_L_33 rfl rfl rfl ?_
  refine me1 (pc' := 316) dm_L_315 rfl rfl rfl rfl ?_
  refine me1 (pc' := 317) dm_L_316 rfl rfl rfl rfl ?_
  refine me1 (pc' := 318) dm_L_317 rfl rfl rfl rfl ?_
  refine me0 (pc' := 319) (S' := .int (1 : Int32) :: _) dm_L_318 rfl rfl rfl rfl ?_
  refine me0 (pc' := 320) (S' := .int (1 : Int32) :: _) dm_L_319 rfl rfl rfl rfl ?_
  refine me3 (pc' := 321) dm_L_320 (x_iald (v := (xs 1)) rfl (by decide) (by decide) rfl) rfl rfl rfl ?_
  refine me4 (pc' := 324) (L0 := [(0, .ref 2), (1, .int (xs 1))]) dm_L_321 rfl (g_inv (As := [.int (xs 1)]) (lu (n := 2) (j := 0) rfl rfl) rfl rfl rfl (Nat.le_of_ble_eq_true rfl)) pm_X11_octet rfl (Nat.le_of_ble_eq_true rfl) rfl rfl rfl ?_
  refine hC (d := 1979) rfl rfl (fun U D hU hUs hD hDs => ?_)
  have hA : (pg_h0 ++ U).length = 102 := by rw [List.length_append, hU]; rfl
  refine pg_cast (List.append_assoc _ _ _).symm ?_
  refine me1 (pc' := 325) dm_L_324 rfl rfl rfl rfl ?_
  refine me1 (pc' := 326) dm_L_325 rfl rfl rfl rfl ?_
  refine me1 (pc' := 327) dm_L_326 rfl rfl rfl rfl ?_
  refine me0 (pc' := 328) (S' := .int (1 : Int32) :: _) dm_L_327 rfl rfl rfl rfl ?_
  refine me0 (pc' := 329) (S' := .int (1 : Int32) :: _) dm_L_328 rfl rfl rfl rfl ?_
  refine me3 (pc' := 330) dm_L_329 (x_iald (v := (xs 1)) rfl (by decide) (by decide) rfl) rfl rfl rfl ?_
  refine me4 (pc' := 333) (L0 := [(0, .ref 102), (1, .int (xs 1))]) dm_L_330 rfl (g_inv (As := [.int (xs 1)]) (lu (n := 102) (j := 0) hA rfl) rfl rfl rfl (Nat.le_of_ble_eq_true rfl)) pm_X12_octet rfl (Nat.le_of_ble_eq_true rfl) rfl rfl rfl ?_
  refine hR (d := 1979) hA (fun R hR1 hR2 => ?_)
  refine me_2t (pc' := 450) dm_L_333 rfl (mj_cnd_eq.mpr rfl) ?_
  refine me1 (pc' := 453) (L' := [(3, .int (6 : Int32)), (2, .ref 102), (1, .ref 2), (0, .ref 0)]) dm_L_450 rfl rfl rfl rfl ?_
  refine me2 (pc' := 18) dm_L_453 rfl rfl rfl ?_
  refine me1 (pc' := 19) dm_L_18 rfl rfl rfl rfl ?_
  refine me1 (pc' := 20) dm_L_19 rfl rfl rfl rfl ?_
  refine me3 (pc' := 21) dm_L_20 (x_len (v := (6 : Int32)) rfl (by decide) rfl) rfl rfl rfl ?_
  refine me0 (pc' := 23) (S' := .int (6 : Int32) :: _) dm_L_21 rfl rfl rfl rfl ?_
  refine me0 (pc' := 24) (S' := .int (0 : Int32) :: _) dm_L_23 rfl rfl rfl rfl ?_
  refine me_2t (pc' := 456) dm_L_24 rfl rfl ?_
  refine me0 (pc' := 457) (S' := .int (1 : Int32) :: _) dm_L_456 rfl rfl rfl rfl ?_
  refine me5 dm_L_457 rfl rfl rfl ?_
  exact hP U D R hU hUs hD hDs hR1 hR2
set_option maxRecDepth 100000 in
set_option maxHeartbeats 4000000 in
theorem L_keep (xs : Nat → Int32) (hs : xs 0 &&& 15 = 9) {P : Option Value → mj_H → Prop} (hP : ∀ U D R, U.length = 100 → mj_sl U ≤ 20000 → D.length ≤ 10 → mj_sl D ≤ 2000 → R.length = 25 → mj_sl R ≤ 3000000 → P (some (.int 1)) ((pg_h0 ++ U) ++ (R ++ D))) : pgE (pg_xt 6 xs) 2000 13 4 false (some .boolean) (mj_dec code) 18 [(3, .int 0), (2, .ref 102), (1, .ref 2), (0, .ref 0)] [] (pg_h0 ++ (cT ++ (rT ++ []))) P := by
  obtain ⟨a, hC, hR⟩ := O_keep (xs 1)
  refine me1 (pc' := 19) dm_L_18 rfl rfl rfl rfl ?_
  refine me1 (pc' := 20) dm_L_19 rfl rfl rfl rfl ?_
  refine me3 (pc' := 21) dm_L_20 (x_len (v := (6 : Int32)) rfl (by decide) rfl) rfl rfl rfl ?_
  refine me0 (pc' := 23) (S' := .int (6 : Int32) :: _) dm_L_21 rfl rfl rfl rfl ?_
  refine me0 (pc' := 24) (S' := .int (0 : Int32) :: _) dm_L_23 rfl rfl rfl rfl ?_
  refine me_2f (pc' := 27) dm_L_24 rfl (by decide) rfl ?_
  refine me1 (pc' := 28) dm_L_27 rfl rfl rfl rfl ?_
  refine me1 (pc' := 29) dm_L_28 rfl rfl rfl rfl ?_
  refine me3 (pc' := 30) dm_L_29 (x_iald (v := (xs 0)) rfl (by decide) (by decide) rfl) rfl rfl rfl ?_
  refine me0 (pc' := 32) (S' := .int (15 : Int32) :: _) dm_L_30 rfl rfl rfl rfl ?_
  refine me0 (pc' := 33) (S' := [.int (9 : Int32)]) dm_L_32 (show mj_alu .iand [.int 15, .int (xs 0)] = some [.int (9 : Int32)] from congrArg (fun z => some [Value.int z]) hs) rfl rfl rfl ?_
  refine me2 (pc' := 338) dm_L_33 rfl rfl rfl ?_
  refine me1 (pc' := 339) dm_L_338 rfl rfl rfl rfl ?_
  refine me1 (pc' := 340) dm_L_339 rfl rfl rfl rfl ?_
  refine me1 (pc' := 341) dm_L_340 rfl rfl rfl rfl ?_
  refine me0 (pc' := 342) (S' := .int (1 : Int32) :: _) dm_L_341 rfl rfl rfl rfl ?_
  refine me0 (pc' := 343) (S' := .int (1 : Int32) :: _) dm_L_342 rfl rfl rfl rfl ?_
  refine me3 (pc' := 344) dm_L_343 (x_iald (v := (xs 1)) rfl (by decide) (by decide) rfl) rfl rfl rfl ?_
  refine me4 (pc' := 347) (L0 := [(0, .ref 2), (1, .int (xs 1))]) dm_L_344 rfl (g_inv (As := [.int (xs 1)]) (lu (n := 2) (j := 0) rfl rfl) rfl rfl rfl (Nat.le_of_ble_eq_true rfl)) pm_X11_keep rfl (Nat.le_of_ble_eq_true rfl) rfl rfl rfl ?_
  refine hC (d := 1979) rfl rfl (fun U D hU hUs hD hDs => ?_)
  have hA : (pg_h0 ++ U).length = 102 := by rw [List.length_append, hU]; rfl
  refine pg_cast (List.append_assoc _ _ _).symm ?_
  refine me1 (pc' := 348) dm_L_347 rfl rfl rfl rfl ?_
  refine me1 (pc' := 349) dm_L_348 rfl rfl rfl rfl ?_
  refine me1 (pc' := 350) dm_L_349 rfl rfl rfl rfl ?_
  refine me0 (pc' := 351) (S' := .int (1 : Int32) :: _) dm_L_350 rfl rfl rfl rfl ?_
  refine me0 (pc' := 352) (S' := .int (1 : Int32) :: _) dm_L_351 rfl rfl rfl rfl ?_
  refine me3 (pc' := 353) dm_L_352 (x_iald (v := (xs 1)) rfl (by decide) (by decide) rfl) rfl rfl rfl ?_
  refine me4 (pc' := 356) (L0 := [(0, .ref 102), (1, .int (xs 1))]) dm_L_353 rfl (g_inv (As := [.int (xs 1)]) (lu (n := 102) (j := 0) hA rfl) rfl rfl rfl (Nat.le_of_ble_eq_true rfl)) pm_X12_keep rfl (Nat.le_of_ble_eq_true rfl) rfl rfl rfl ?_
  refine hR (d := 1979) hA (fun R hR1 hR2 => ?_)
  refine me_2t (pc' := 450) dm_L_356 rfl (mj_cnd_eq.mpr rfl) ?_
  refine me1 (pc' := 453) (L' := [(3, .int (6 : Int32)), (2, .ref 102), (1, .ref 2), (0, .ref 0)]) dm_L_450 rfl rfl rfl rfl ?_
  refine me2 (pc' := 18) dm_L_453 rfl rfl rfl ?_
  refine me1 (pc' := 19) dm_L_18 rfl rfl rfl rfl ?_
  refine me1 (pc' := 20) dm_L_19 rfl rfl rfl rfl ?_
  refine me3 (pc' := 21) dm_L_20 (x_len (v := (6 : Int32)) rfl (by decide) rfl) rfl rfl rfl ?_
  refine me0 (pc' := 23) (S' := .int (6 : Int32) :: _) dm_L_21 rfl rfl rfl rfl ?_
  refine me0 (pc' := 24) (S' := .int (0 : Int32) :: _) dm_L_23 rfl rfl rfl rfl ?_
  refine me_2t (pc' := 456) dm_L_24 rfl rfl ?_
  refine me0 (pc' := 457) (S' := .int (1 : Int32) :: _) dm_L_456 rfl rfl rfl rfl ?_
  refine me5 dm_L_457 rfl rfl rfl ?_
  exact hP U D R hU hUs hD hDs hR1 hR2
set_option maxRecDepth 100000 in
set_option maxHeartbeats 4000000 in
theorem L_back (xs : Nat → Int32) (hs : xs 0 &&& 15 = 10) {P : Option Value → mj_H → Prop} (hP : ∀ U D R, U.length = 100 → mj_sl U ≤ 20000 → D.length ≤ 10 → mj_sl D ≤ 2000 → R.length = 25 → mj_sl R ≤ 3000000 → P (some (.int 1)) ((pg_h0 ++ U) ++ (R ++ D))) : pgE (pg_xt 6 xs) 2000 13 4 false (some .boolean) (mj_dec code) 18 [(3, .int 0), (2, .ref 102), (1, .ref 2), (0, .ref 0)] [] (pg_h0 ++ (cT ++ (rT ++ []))) P := by
  obtain ⟨a, hC, hR⟩ := O_back (xs 1)
  refine me1 (pc' := 19) dm_L_18 rfl rfl rfl rfl ?_
  refine me1 (pc' := 20) dm_L_19 rfl rfl rfl rfl ?_
  refine me3 (pc' := 21) dm_L_20 (x_len (v := (6 : Int32)) rfl (by decide) rfl) rfl rfl rfl ?_
  refine me0 (pc' := 23) (S' := .int (6 : Int32) :: _) dm_L_21 rfl rfl rfl rfl ?_
  refine me0 (pc' := 24) (S' := .int (0 : Int32) :: _) dm_L_23 rfl rfl rfl rfl ?_
  refine me_2f (pc' := 27) dm_L_24 rfl (by decide) rfl ?_
  refine me1 (pc' := 28) dm_L_27 rfl rfl rfl rfl ?_
  refine me1 (pc' := 29) dm_L_28 rfl rfl rfl rfl ?_
  refine me3 (pc' := 30) dm_L_29 (x_iald (v := (xs 0)) rfl (by decide) (by decide) rfl) rfl rfl rfl ?_
  refine me0 (pc' := 32) (S' := .int (15 : Int32) :: _) dm_L_30 rfl rfl rfl rfl ?_
  refine me0 (pc' := 33) (S' := [.int (10 : Int32)]) dm_L_32 (show mj_alu .iand [.int 15, .int (xs 0)] = some [.int (10 : Int32)] from congrArg (fun z => some [Value.int z]) hs) rfl rfl rfl ?_
  refine me2 (pc' := 361) dm_L_33 rfl rfl rfl ?_
  refine me1 (pc' := 362) dm_L_361 rfl rfl rfl rfl ?_
  refine me1 (pc' := 363) dm_L_362 rfl rfl rfl rfl ?_
  refine me1 (pc' := 364) dm_L_363 rfl rfl rfl rfl ?_
  refine me0 (pc' := 365) (S' := .int (1 : Int32) :: _) dm_L_364 rfl rfl rfl rfl ?_
  refine me0 (pc' := 366) (S' := .int (1 : Int32) :: _) dm_L_365 rfl rfl rfl rfl ?_
  refine me3 (pc' := 367) dm_L_366 (x_iald (v := (xs 1)) rfl (by decide) (by decide) rfl) rfl rfl rfl ?_
  refine me4 (pc' := 370) (L0 := [(0, .ref 2), (1, .int (xs 1))]) dm_L_367 rfl (g_inv (As := [.int (xs 1)]) (lu (n := 2) (j := 0) rfl rfl) rfl rfl rfl (Nat.le_of_ble_eq_true rfl)) pm_X11_back rfl (Nat.le_of_ble_eq_true rfl) rfl rfl rfl ?_
  refine hC (d := 1979) rfl rfl (fun U D hU hUs hD hDs => ?_)
  have hA : (pg_h0 ++ U).length = 102 := by rw [List.length_append, hU]; rfl
  refine pg_cast (List.append_assoc _ _ _).symm ?_
  refine me1 (pc' := 371) dm_L_370 rfl rfl rfl rfl ?_
  refine me1 (pc' := 372) dm_L_371 rfl rfl rfl rfl ?_
  refine me1 (pc' := 373) dm_L_372 rfl rfl rfl rfl ?_
  refine me0 (pc' := 374) (S' := .int (1 : Int32) :: _) dm_L_373 rfl rfl rfl rfl ?_
  refine me0 (pc' := 375) (S' := .int (1 : Int32) :: _) dm_L_374 rfl rfl rfl rfl ?_
  refine me3 (pc' := 376) dm_L_375 (x_iald (v := (xs 1)) rfl (by decide) (by decide) rfl) rfl rfl rfl ?_
  refine me4 (pc' := 379) (L0 := [(0, .ref 102), (1, .int (xs 1))]) dm_L_376 rfl (g_inv (As := [.int (xs 1)]) (lu (n := 102) (j := 0) hA rfl) rfl rfl rfl (Nat.le_of_ble_eq_true rfl)) pm_X12_back rfl (Nat.le_of_ble_eq_true rfl) rfl rfl rfl ?_
  refine hR (d := 1979) hA (fun R hR1 hR2 => ?_)
  refine me_2t (pc' := 450) dm_L_379 rfl (mj_cnd_eq.mpr rfl) ?_
  refine me1 (pc' := 453) (L' := [(3, .int (6 : Int32)), (2, .ref 102), (1, .ref 2), (0, .ref 0)]) dm_L_450 rfl rfl rfl rfl ?_
  refine me2 (pc' := 18) dm_L_453 rfl rfl rfl ?_
  refine me1 (pc' := 19) dm_L_18 rfl rfl rfl rfl ?_
  refine me1 (pc' := 20) dm_L_19 rfl rfl rfl rfl ?_
  refine me3 (pc' := 21) dm_L_20 (x_len (v := (6 : Int32)) rfl (by decide) rfl) rfl rfl rfl ?_
  refine me0 (pc' := 23) (S' := .int (6 : Int32) :: _) dm_L_21 rfl rfl rfl rfl ?_
  refine me0 (pc' := 24) (S' := .int (0 : Int32) :: _) dm_L_23 rfl rfl rfl rfl ?_
  refine me_2t (pc' := 456) dm_L_24 rfl rfl ?_
  refine me0 (pc' := 457) (S' := .int (1 : Int32) :: _) dm_L_456 rfl rfl rfl rfl ?_
  refine me5 dm_L_457 rfl rfl rfl ?_
  exact hP U D R hU hUs hD hDs hR1 hR2
set_option maxRecDepth 100000 in
set_option maxHeartbeats 4000000 in
theorem L_names (xs : Nat → Int32) (hs : xs 0 &&& 15 = 11) {P : Option Value → mj_H → Prop} (hP : ∀ U D R, U.length = 100 → mj_sl U ≤ 20000 → D.length ≤ 10 → mj_sl D ≤ 2000 → R.length = 25 → mj_sl R ≤ 3000000 → P (some (.int 1)) ((pg_h0 ++ U) ++ (R ++ D))) : pgE (pg_xt 6 xs) 2000 13 4 false (some .boolean) (mj_dec code) 18 [(3, .int 0), (2, .ref 102), (1, .ref 2), (0, .ref 0)] [] (pg_h0 ++ (cT ++ (rT ++ []))) P := by
  obtain ⟨a, hC, hR⟩ := O_names (xs 1)
  refine me1 (pc' := 19) dm_L_18 rfl rfl rfl rfl ?_
  refine me1 (pc' := 20) dm_L_19 rfl rfl rfl rfl ?_
  refine me3 (pc' := 21) dm_L_20 (x_len (v := (6 : Int32)) rfl (by decide) rfl) rfl rfl rfl ?_
  refine me0 (pc' := 23) (S' := .int (6 : Int32) :: _) dm_L_21 rfl rfl rfl rfl ?_
  refine me0 (pc' := 24) (S' := .int (0 : Int32) :: _) dm_L_23 rfl rfl rfl rfl ?_
  refine me_2f (pc' := 27) dm_L_24 rfl (by decide) rfl ?_
  refine me1 (pc' := 28) dm_L_27 rfl rfl rfl rfl ?_
  refine me1 (pc' := 29) dm_L_28 rfl rfl rfl rfl ?_
  refine me3 (pc' := 30) dm_L_29 (x_iald (v := (xs 0)) rfl (by decide) (by decide) rfl) rfl rfl rfl ?_
  refine me0 (pc' := 32) (S' := .int (15 : Int32) :: _) dm_L_30 rfl rfl rfl rfl ?_
  refine me0 (pc' := 33) (S' := [.int (11 : Int32)]) dm_L_32 (show mj_alu .iand [.int 15, .int (xs 0)] = some [.int (11 : Int32)] from congrArg (fun z => some [Value.int z]) hs) rfl rfl rfl ?_
  refine me2 (pc' := 384) dm_L_33 rfl rfl rfl ?_
  refine me1 (pc' := 385) dm_L_384 rfl rfl rfl rfl ?_
  refine me1 (pc' := 386) dm_L_385 rfl rfl rfl rfl ?_
  refine me1 (pc' := 387) dm_L_386 rfl rfl rfl rfl ?_
  refine me0 (pc' := 388) (S' := .int (1 : Int32) :: _) dm_L_387 rfl rfl rfl rfl ?_
  refine me0 (pc' := 389) (S' := .int (1 : Int32) :: _) dm_L_388 rfl rfl rfl rfl ?_
  refine me3 (pc' := 390) dm_L_389 (x_iald (v := (xs 1)) rfl (by decide) (by decide) rfl) rfl rfl rfl ?_
  refine me4 (pc' := 393) (L0 := [(0, .ref 2), (1, .int (xs 1))]) dm_L_390 rfl (g_inv (As := [.int (xs 1)]) (lu (n := 2) (j := 0) rfl rfl) rfl rfl rfl (Nat.le_of_ble_eq_true rfl)) pm_X11_names rfl (Nat.le_of_ble_eq_true rfl) rfl rfl rfl ?_
  refine hC (d := 1979) rfl rfl (fun U D hU hUs hD hDs => ?_)
  have hA : (pg_h0 ++ U).length = 102 := by rw [List.length_append, hU]; rfl
  refine pg_cast (List.append_assoc _ _ _).symm ?_
  refine me1 (pc' := 394) dm_L_393 rfl rfl rfl rfl ?_
  refine me1 (pc' := 395) dm_L_394 rfl rfl rfl rfl ?_
  refine me1 (pc' := 396) dm_L_395 rfl rfl rfl rfl ?_
  refine me0 (pc' := 397) (S' := .int (1 : Int32) :: _) dm_L_396 rfl rfl rfl rfl ?_
  refine me0 (pc' := 398) (S' := .int (1 : Int32) :: _) dm_L_397 rfl rfl rfl rfl ?_
  refine me3 (pc' := 399) dm_L_398 (x_iald (v := (xs 1)) rfl (by decide) (by decide) rfl) rfl rfl rfl ?_
  refine me4 (pc' := 402) (L0 := [(0, .ref 102), (1, .int (xs 1))]) dm_L_399 rfl (g_inv (As := [.int (xs 1)]) (lu (n := 102) (j := 0) hA rfl) rfl rfl rfl (Nat.le_of_ble_eq_true rfl)) pm_X12_names rfl (Nat.le_of_ble_eq_true rfl) rfl rfl rfl ?_
  refine hR (d := 1979) hA (fun R hR1 hR2 => ?_)
  refine me_2t (pc' := 450) dm_L_402 rfl (mj_cnd_eq.mpr rfl) ?_
  refine me1 (pc' := 453) (L' := [(3, .int (6 : Int32)), (2, .ref 102), (1, .ref 2), (0, .ref 0)]) dm_L_450 rfl rfl rfl rfl ?_
  refine me2 (pc' := 18) dm_L_453 rfl rfl rfl ?_
  refine me1 (pc' := 19) dm_L_18 rfl rfl rfl rfl ?_
  refine me1 (pc' := 20) dm_L_19 rfl rfl rfl rfl ?_
  refine me3 (pc' := 21) dm_L_20 (x_len (v := (6 : Int32)) rfl (by decide) rfl) rfl rfl rfl ?_
  refine me0 (pc' := 23) (S' := .int (6 : Int32) :: _) dm_L_21 rfl rfl rfl rfl ?_
  refine me0 (pc' := 24) (S' := .int (0 : Int32) :: _) dm_L_23 rfl rfl rfl rfl ?_
  refine me_2t (pc' := 456) dm_L_24 rfl rfl ?_
  refine me0 (pc' := 457) (S' := .int (1 : Int32) :: _) dm_L_456 rfl rfl rfl rfl ?_
  refine me5 dm_L_457 rfl rfl rfl ?_
  exact hP U D R hU hUs hD hDs hR1 hR2
set_option maxRecDepth 100000 in
set_option maxHeartbeats 4000000 in
theorem L_letter (xs : Nat → Int32) (hs : xs 0 &&& 15 = 12) {P : Option Value → mj_H → Prop} (hP : ∀ U D R, U.length = 100 → mj_sl U ≤ 20000 → D.length ≤ 10 → mj_sl D ≤ 2000 → R.length = 25 → mj_sl R ≤ 3000000 → P (some (.int 1)) ((pg_h0 ++ U) ++ (R ++ D))) : pgE (pg_xt 6 xs) 2000 13 4 false (some .boolean) (mj_dec code) 18 [(3, .int 0), (2, .ref 102), (1, .ref 2), (0, .ref 0)] [] (pg_h0 ++ (cT ++ (rT ++ []))) P := by
  obtain ⟨a, hC, hR⟩ := O_letter (xs 1) (xs 2) (xs 3)
  refine me1 (pc' := 19) dm_L_18 rfl rfl rfl rfl ?_
  refine me1 (pc' := 20) dm_L_19 rfl rfl rfl rfl ?_
  refine me3 (pc' := 21) dm_L_20 (x_len (v := (6 : Int32)) rfl (by decide) rfl) rfl rfl rfl ?_
  refine me0 (pc' := 23) (S' := .int (6 : Int32) :: _) dm_L_21 rfl rfl rfl rfl ?_
  refine me0 (pc' := 24) (S' := .int (0 : Int32) :: _) dm_L_23 rfl rfl rfl rfl ?_
  refine me_2f (pc' := 27) dm_L_24 rfl (by decide) rfl ?_
  refine me1 (pc' := 28) dm_L_27 rfl rfl rfl rfl ?_
  refine me1 (pc' := 29) dm_L_28 rfl rfl rfl rfl ?_
  refine me3 (pc' := 30) dm_L_29 (x_iald (v := (xs 0)) rfl (by decide) (by decide) rfl) rfl rfl rfl ?_
  refine me0 (pc' := 32) (S' := .int (15 : Int32) :: _) dm_L_30 rfl rfl rfl rfl ?_
  refine me0 (pc' := 33) (S' := [.int (12 : Int32)]) dm_L_32 (show mj_alu .iand [.int 15, .int (xs 0)] = some [.int (12 : Int32)] from congrArg (fun z => some [Value.int z]) hs) rfl rfl rfl ?_
  refine me2 (pc' := 407) dm_L_33 rfl rfl rfl ?_
  refine me1 (pc' := 408) dm_L_407 rfl rfl rfl rfl ?_
  refine me1 (pc' := 409) dm_L_408 rfl rfl rfl rfl ?_
  refine me1 (pc' := 410) dm_L_409 rfl rfl rfl rfl ?_
  refine me0 (pc' := 411) (S' := .int (1 : Int32) :: _) dm_L_410 rfl rfl rfl rfl ?_
  refine me0 (pc' := 412) (S' := .int (1 : Int32) :: _) dm_L_411 rfl rfl rfl rfl ?_
  refine me3 (pc' := 413) dm_L_412 (x_iald (v := (xs 1)) rfl (by decide) (by decide) rfl) rfl rfl rfl ?_
  refine me1 (pc' := 414) dm_L_413 rfl rfl rfl rfl ?_
  refine me1 (pc' := 415) dm_L_414 rfl rfl rfl rfl ?_
  refine me0 (pc' := 416) (S' := .int (2 : Int32) :: _) dm_L_415 rfl rfl rfl rfl ?_
  refine me0 (pc' := 417) (S' := .int (2 : Int32) :: _) dm_L_416 rfl rfl rfl rfl ?_
  refine me3 (pc' := 418) dm_L_417 (x_iald (v := (xs 2)) rfl (by decide) (by decide) rfl) rfl rfl rfl ?_
  refine me1 (pc' := 419) dm_L_418 rfl rfl rfl rfl ?_
  refine me1 (pc' := 420) dm_L_419 rfl rfl rfl rfl ?_
  refine me0 (pc' := 421) (S' := .int (3 : Int32) :: _) dm_L_420 rfl rfl rfl rfl ?_
  refine me0 (pc' := 422) (S' := .int (3 : Int32) :: _) dm_L_421 rfl rfl rfl rfl ?_
  refine me3 (pc' := 423) dm_L_422 (x_iald (v := (xs 3)) rfl (by decide) (by decide) rfl) rfl rfl rfl ?_
  refine me4 (pc' := 426) (L0 := [(0, .ref 2), (1, .int (xs 1)), (2, .int (xs 2)), (3, .int (xs 3))]) dm_L_423 rfl (g_inv (As := [.int (xs 1), .int (xs 2), .int (xs 3)]) (lu (n := 2) (j := 0) rfl rfl) rfl rfl rfl (Nat.le_of_ble_eq_true rfl)) pm_X11_letter rfl (Nat.le_of_ble_eq_true rfl) rfl rfl rfl ?_
  refine hC (d := 1979) rfl rfl (fun U D hU hUs hD hDs => ?_)
  have hA : (pg_h0 ++ U).length = 102 := by rw [List.length_append, hU]; rfl
  refine pg_cast (List.append_assoc _ _ _).symm ?_
  refine me1 (pc' := 427) dm_L_426 rfl rfl rfl rfl ?_
  refine me1 (pc' := 428) dm_L_427 rfl rfl rfl rfl ?_
  refine me1 (pc' := 429) dm_L_428 rfl rfl rfl rfl ?_
  refine me0 (pc' := 430) (S' := .int (1 : Int32) :: _) dm_L_429 rfl rfl rfl rfl ?_
  refine me0 (pc' := 431) (S' := .int (1 : Int32) :: _) dm_L_430 rfl rfl rfl rfl ?_
  refine me3 (pc' := 432) dm_L_431 (x_iald (v := (xs 1)) rfl (by decide) (by decide) rfl) rfl rfl rfl ?_
  refine me1 (pc' := 433) dm_L_432 rfl rfl rfl rfl ?_
  refine me1 (pc' := 434) dm_L_433 rfl rfl rfl rfl ?_
  refine me0 (pc' := 435) (S' := .int (2 : Int32) :: _) dm_L_434 rfl rfl rfl rfl ?_
  refine me0 (pc' := 436) (S' := .int (2 : Int32) :: _) dm_L_435 rfl rfl rfl rfl ?_
  refine me3 (pc' := 437) dm_L_436 (x_iald (v := (xs 2)) rfl (by decide) (by decide) rfl) rfl rfl rfl ?_
  refine me1 (pc' := 438) dm_L_437 rfl rfl rfl rfl ?_
  refine me1 (pc' := 439) dm_L_438 rfl rfl rfl rfl ?_
  refine me0 (pc' := 440) (S' := .int (3 : Int32) :: _) dm_L_439 rfl rfl rfl rfl ?_
  refine me0 (pc' := 441) (S' := .int (3 : Int32) :: _) dm_L_440 rfl rfl rfl rfl ?_
  refine me3 (pc' := 442) dm_L_441 (x_iald (v := (xs 3)) rfl (by decide) (by decide) rfl) rfl rfl rfl ?_
  refine me4 (pc' := 445) (L0 := [(0, .ref 102), (1, .int (xs 1)), (2, .int (xs 2)), (3, .int (xs 3))]) dm_L_442 rfl (g_inv (As := [.int (xs 1), .int (xs 2), .int (xs 3)]) (lu (n := 102) (j := 0) hA rfl) rfl rfl rfl (Nat.le_of_ble_eq_true rfl)) pm_X12_letter rfl (Nat.le_of_ble_eq_true rfl) rfl rfl rfl ?_
  refine hR (d := 1979) hA (fun R hR1 hR2 => ?_)
  refine me_2t (pc' := 450) dm_L_445 rfl (mj_cnd_eq.mpr rfl) ?_
  refine me1 (pc' := 453) (L' := [(3, .int (6 : Int32)), (2, .ref 102), (1, .ref 2), (0, .ref 0)]) dm_L_450 rfl rfl rfl rfl ?_
  refine me2 (pc' := 18) dm_L_453 rfl rfl rfl ?_
  refine me1 (pc' := 19) dm_L_18 rfl rfl rfl rfl ?_
  refine me1 (pc' := 20) dm_L_19 rfl rfl rfl rfl ?_
  refine me3 (pc' := 21) dm_L_20 (x_len (v := (6 : Int32)) rfl (by decide) rfl) rfl rfl rfl ?_
  refine me0 (pc' := 23) (S' := .int (6 : Int32) :: _) dm_L_21 rfl rfl rfl rfl ?_
  refine me0 (pc' := 24) (S' := .int (0 : Int32) :: _) dm_L_23 rfl rfl rfl rfl ?_
  refine me_2t (pc' := 456) dm_L_24 rfl rfl ?_
  refine me0 (pc' := 457) (S' := .int (1 : Int32) :: _) dm_L_456 rfl rfl rfl rfl ?_
  refine me5 dm_L_457 rfl rfl rfl ?_
  exact hP U D R hU hUs hD hDs hR1 hR2
set_option maxRecDepth 100000 in
set_option maxHeartbeats 4000000 in
theorem L_other (xs : Nat → Int32) (hs : ¬ xs 0 &&& 15 = 0 ∧ ¬ xs 0 &&& 15 = 1 ∧ ¬ xs 0 &&& 15 = 2 ∧ ¬ xs 0 &&& 15 = 3 ∧ ¬ xs 0 &&& 15 = 4 ∧ ¬ xs 0 &&& 15 = 5 ∧ ¬ xs 0 &&& 15 = 6 ∧ ¬ xs 0 &&& 15 = 7 ∧ ¬ xs 0 &&& 15 = 8 ∧ ¬ xs 0 &&& 15 = 9 ∧ ¬ xs 0 &&& 15 = 10 ∧ ¬ xs 0 &&& 15 = 11 ∧ ¬ xs 0 &&& 15 = 12 ∧ True) {P : Option Value → mj_H → Prop} (hP : ∀ U D R, U.length = 100 → mj_sl U ≤ 20000 → D.length ≤ 10 → mj_sl D ≤ 2000 → R.length = 25 → mj_sl R ≤ 3000000 → P (some (.int 1)) ((pg_h0 ++ U) ++ (R ++ D))) : pgE (pg_xt 6 xs) 2000 13 4 false (some .boolean) (mj_dec code) 18 [(3, .int 0), (2, .ref 102), (1, .ref 2), (0, .ref 0)] [] (pg_h0 ++ (cT ++ (rT ++ []))) P := by
  refine me1 (pc' := 19) dm_L_18 rfl rfl rfl rfl ?_
  refine me1 (pc' := 20) dm_L_19 rfl rfl rfl rfl ?_
  refine me3 (pc' := 21) dm_L_20 (x_len (v := (6 : Int32)) rfl (by decide) rfl) rfl rfl rfl ?_
  refine me0 (pc' := 23) (S' := .int (6 : Int32) :: _) dm_L_21 rfl rfl rfl rfl ?_
  refine me0 (pc' := 24) (S' := .int (0 : Int32) :: _) dm_L_23 rfl rfl rfl rfl ?_
  refine me_2f (pc' := 27) dm_L_24 rfl (by decide) rfl ?_
  refine me1 (pc' := 28) dm_L_27 rfl rfl rfl rfl ?_
  refine me1 (pc' := 29) dm_L_28 rfl rfl rfl rfl ?_
  refine me3 (pc' := 30) dm_L_29 (x_iald (v := (xs 0)) rfl (by decide) (by decide) rfl) rfl rfl rfl ?_
  refine me0 (pc' := 32) (S' := .int (15 : Int32) :: _) dm_L_30 rfl rfl rfl rfl ?_
  refine me0 (pc' := 33) dm_L_32 rfl rfl rfl rfl ?_
  refine me2 (pc' := 450) dm_L_33 (sw_tdef [0, 1, 2, 3, 4, 5, 6, 7, 8, 9, 10, 11, 12] rfl rfl rfl ⟨(fun z => hs.1 (mj_cnd_eq.mp z)), (fun z => hs.2.1 (mj_cnd_eq.mp z)), (fun z => hs.2.2.1 (mj_cnd_eq.mp z)), (fun z => hs.2.2.2.1 (mj_cnd_eq.mp z)), (fun z => hs.2.2.2.2.1 (mj_cnd_eq.mp z)), (fun z => hs.2.2.2.2.2.1 (mj_cnd_eq.mp z)), (fun z => hs.2.2.2.2.2.2.1 (mj_cnd_eq.mp z)), (fun z => hs.2.2.2.2.2.2.2.1 (mj_cnd_eq.mp z)), (fun z => hs.2.2.2.2.2.2.2.2.1 (mj_cnd_eq.mp z)), (fun z => hs.2.2.2.2.2.2.2.2.2.1 (mj_cnd_eq.mp z)), (fun z => hs.2.2.2.2.2.2.2.2.2.2.1 (mj_cnd_eq.mp z)), (fun z => hs.2.2.2.2.2.2.2.2.2.2.2.1 (mj_cnd_eq.mp z)), (fun z => hs.2.2.2.2.2.2.2.2.2.2.2.2.1 (mj_cnd_eq.mp z)), trivial⟩) rfl rfl ?_
  refine me1 (pc' := 453) (L' := [(3, .int (6 : Int32)), (2, .ref 102), (1, .ref 2), (0, .ref 0)]) dm_L_450 rfl rfl rfl rfl ?_
  refine me2 (pc' := 18) dm_L_453 rfl rfl rfl ?_
  refine me1 (pc' := 19) dm_L_18 rfl rfl rfl rfl ?_
  refine me1 (pc' := 20) dm_L_19 rfl rfl rfl rfl ?_
  refine me3 (pc' := 21) dm_L_20 (x_len (v := (6 : Int32)) rfl (by decide) rfl) rfl rfl rfl ?_
  refine me0 (pc' := 23) (S' := .int (6 : Int32) :: _) dm_L_21 rfl rfl rfl rfl ?_
  refine me0 (pc' := 24) (S' := .int (0 : Int32) :: _) dm_L_23 rfl rfl rfl rfl ?_
  refine me_2t (pc' := 456) dm_L_24 rfl rfl ?_
  refine me0 (pc' := 457) (S' := .int (1 : Int32) :: _) dm_L_456 rfl rfl rfl rfl ?_
  refine me5 dm_L_457 rfl rfl rfl ?_
  exact (List.append_assoc pg_h0 cT (rT ++ [])) ▸ hP cT [] rT rfl (Nat.le_of_ble_eq_true rfl) (Nat.le_of_ble_eq_true rfl) (Nat.le_of_ble_eq_true rfl) rfl (Nat.le_of_ble_eq_true rfl)
theorem L_few0 (xs : Nat → Int32) {P : Option Value → mj_H → Prop} (hP : ∀ U D R, U.length = 100 → mj_sl U ≤ 20000 → D.length ≤ 10 → mj_sl D ≤ 2000 → R.length = 25 → mj_sl R ≤ 3000000 → P (some (.int 1)) ((pg_h0 ++ U) ++ (R ++ D))) : pgE (pg_xt 0 xs) 2000 13 4 false (some .boolean) (mj_dec code) 18 [(3, .int 0), (2, .ref 102), (1, .ref 2), (0, .ref 0)] [] (pg_h0 ++ (cT ++ (rT ++ []))) P := by
  refine me1 (pc' := 19) dm_L_18 rfl rfl rfl rfl ?_
  refine me1 (pc' := 20) dm_L_19 rfl rfl rfl rfl ?_
  refine me3 (pc' := 21) dm_L_20 (x_len (v := (0 : Int32)) rfl (by decide) rfl) rfl rfl rfl ?_
  refine me0 (pc' := 23) (S' := .int (6 : Int32) :: _) dm_L_21 rfl rfl rfl rfl ?_
  refine me0 (pc' := 24) (S' := .int (-6 : Int32) :: _) dm_L_23 rfl rfl rfl rfl ?_
  refine me_2t (pc' := 456) dm_L_24 rfl rfl ?_
  refine me0 (pc' := 457) (S' := .int (1 : Int32) :: _) dm_L_456 rfl rfl rfl rfl ?_
  refine me5 dm_L_457 rfl rfl rfl ?_
  exact (List.append_assoc pg_h0 cT (rT ++ [])) ▸ hP cT [] rT rfl (Nat.le_of_ble_eq_true rfl) (Nat.le_of_ble_eq_true rfl) (Nat.le_of_ble_eq_true rfl) rfl (Nat.le_of_ble_eq_true rfl)
theorem L_few1 (xs : Nat → Int32) {P : Option Value → mj_H → Prop} (hP : ∀ U D R, U.length = 100 → mj_sl U ≤ 20000 → D.length ≤ 10 → mj_sl D ≤ 2000 → R.length = 25 → mj_sl R ≤ 3000000 → P (some (.int 1)) ((pg_h0 ++ U) ++ (R ++ D))) : pgE (pg_xt 1 xs) 2000 13 4 false (some .boolean) (mj_dec code) 18 [(3, .int 0), (2, .ref 102), (1, .ref 2), (0, .ref 0)] [] (pg_h0 ++ (cT ++ (rT ++ []))) P := by
  refine me1 (pc' := 19) dm_L_18 rfl rfl rfl rfl ?_
  refine me1 (pc' := 20) dm_L_19 rfl rfl rfl rfl ?_
  refine me3 (pc' := 21) dm_L_20 (x_len (v := (1 : Int32)) rfl (by decide) rfl) rfl rfl rfl ?_
  refine me0 (pc' := 23) (S' := .int (6 : Int32) :: _) dm_L_21 rfl rfl rfl rfl ?_
  refine me0 (pc' := 24) (S' := .int (-5 : Int32) :: _) dm_L_23 rfl rfl rfl rfl ?_
  refine me_2t (pc' := 456) dm_L_24 rfl rfl ?_
  refine me0 (pc' := 457) (S' := .int (1 : Int32) :: _) dm_L_456 rfl rfl rfl rfl ?_
  refine me5 dm_L_457 rfl rfl rfl ?_
  exact (List.append_assoc pg_h0 cT (rT ++ [])) ▸ hP cT [] rT rfl (Nat.le_of_ble_eq_true rfl) (Nat.le_of_ble_eq_true rfl) (Nat.le_of_ble_eq_true rfl) rfl (Nat.le_of_ble_eq_true rfl)
theorem L_few2 (xs : Nat → Int32) {P : Option Value → mj_H → Prop} (hP : ∀ U D R, U.length = 100 → mj_sl U ≤ 20000 → D.length ≤ 10 → mj_sl D ≤ 2000 → R.length = 25 → mj_sl R ≤ 3000000 → P (some (.int 1)) ((pg_h0 ++ U) ++ (R ++ D))) : pgE (pg_xt 2 xs) 2000 13 4 false (some .boolean) (mj_dec code) 18 [(3, .int 0), (2, .ref 102), (1, .ref 2), (0, .ref 0)] [] (pg_h0 ++ (cT ++ (rT ++ []))) P := by
  refine me1 (pc' := 19) dm_L_18 rfl rfl rfl rfl ?_
  refine me1 (pc' := 20) dm_L_19 rfl rfl rfl rfl ?_
  refine me3 (pc' := 21) dm_L_20 (x_len (v := (2 : Int32)) rfl (by decide) rfl) rfl rfl rfl ?_
  refine me0 (pc' := 23) (S' := .int (6 : Int32) :: _) dm_L_21 rfl rfl rfl rfl ?_
  refine me0 (pc' := 24) (S' := .int (-4 : Int32) :: _) dm_L_23 rfl rfl rfl rfl ?_
  refine me_2t (pc' := 456) dm_L_24 rfl rfl ?_
  refine me0 (pc' := 457) (S' := .int (1 : Int32) :: _) dm_L_456 rfl rfl rfl rfl ?_
  refine me5 dm_L_457 rfl rfl rfl ?_
  exact (List.append_assoc pg_h0 cT (rT ++ [])) ▸ hP cT [] rT rfl (Nat.le_of_ble_eq_true rfl) (Nat.le_of_ble_eq_true rfl) (Nat.le_of_ble_eq_true rfl) rfl (Nat.le_of_ble_eq_true rfl)
theorem L_few3 (xs : Nat → Int32) {P : Option Value → mj_H → Prop} (hP : ∀ U D R, U.length = 100 → mj_sl U ≤ 20000 → D.length ≤ 10 → mj_sl D ≤ 2000 → R.length = 25 → mj_sl R ≤ 3000000 → P (some (.int 1)) ((pg_h0 ++ U) ++ (R ++ D))) : pgE (pg_xt 3 xs) 2000 13 4 false (some .boolean) (mj_dec code) 18 [(3, .int 0), (2, .ref 102), (1, .ref 2), (0, .ref 0)] [] (pg_h0 ++ (cT ++ (rT ++ []))) P := by
  refine me1 (pc' := 19) dm_L_18 rfl rfl rfl rfl ?_
  refine me1 (pc' := 20) dm_L_19 rfl rfl rfl rfl ?_
  refine me3 (pc' := 21) dm_L_20 (x_len (v := (3 : Int32)) rfl (by decide) rfl) rfl rfl rfl ?_
  refine me0 (pc' := 23) (S' := .int (6 : Int32) :: _) dm_L_21 rfl rfl rfl rfl ?_
  refine me0 (pc' := 24) (S' := .int (-3 : Int32) :: _) dm_L_23 rfl rfl rfl rfl ?_
  refine me_2t (pc' := 456) dm_L_24 rfl rfl ?_
  refine me0 (pc' := 457) (S' := .int (1 : Int32) :: _) dm_L_456 rfl rfl rfl rfl ?_
  refine me5 dm_L_457 rfl rfl rfl ?_
  exact (List.append_assoc pg_h0 cT (rT ++ [])) ▸ hP cT [] rT rfl (Nat.le_of_ble_eq_true rfl) (Nat.le_of_ble_eq_true rfl) (Nat.le_of_ble_eq_true rfl) rfl (Nat.le_of_ble_eq_true rfl)
theorem L_few4 (xs : Nat → Int32) {P : Option Value → mj_H → Prop} (hP : ∀ U D R, U.length = 100 → mj_sl U ≤ 20000 → D.length ≤ 10 → mj_sl D ≤ 2000 → R.length = 25 → mj_sl R ≤ 3000000 → P (some (.int 1)) ((pg_h0 ++ U) ++ (R ++ D))) : pgE (pg_xt 4 xs) 2000 13 4 false (some .boolean) (mj_dec code) 18 [(3, .int 0), (2, .ref 102), (1, .ref 2), (0, .ref 0)] [] (pg_h0 ++ (cT ++ (rT ++ []))) P := by
  refine me1 (pc' := 19) dm_L_18 rfl rfl rfl rfl ?_
  refine me1 (pc' := 20) dm_L_19 rfl rfl rfl rfl ?_
  refine me3 (pc' := 21) dm_L_20 (x_len (v := (4 : Int32)) rfl (by decide) rfl) rfl rfl rfl ?_
  refine me0 (pc' := 23) (S' := .int (6 : Int32) :: _) dm_L_21 rfl rfl rfl rfl ?_
  refine me0 (pc' := 24) (S' := .int (-2 : Int32) :: _) dm_L_23 rfl rfl rfl rfl ?_
  refine me_2t (pc' := 456) dm_L_24 rfl rfl ?_
  refine me0 (pc' := 457) (S' := .int (1 : Int32) :: _) dm_L_456 rfl rfl rfl rfl ?_
  refine me5 dm_L_457 rfl rfl rfl ?_
  exact (List.append_assoc pg_h0 cT (rT ++ [])) ▸ hP cT [] rT rfl (Nat.le_of_ble_eq_true rfl) (Nat.le_of_ble_eq_true rfl) (Nat.le_of_ble_eq_true rfl) rfl (Nat.le_of_ble_eq_true rfl)
theorem L_few5 (xs : Nat → Int32) {P : Option Value → mj_H → Prop} (hP : ∀ U D R, U.length = 100 → mj_sl U ≤ 20000 → D.length ≤ 10 → mj_sl D ≤ 2000 → R.length = 25 → mj_sl R ≤ 3000000 → P (some (.int 1)) ((pg_h0 ++ U) ++ (R ++ D))) : pgE (pg_xt 5 xs) 2000 13 4 false (some .boolean) (mj_dec code) 18 [(3, .int 0), (2, .ref 102), (1, .ref 2), (0, .ref 0)] [] (pg_h0 ++ (cT ++ (rT ++ []))) P := by
  refine me1 (pc' := 19) dm_L_18 rfl rfl rfl rfl ?_
  refine me1 (pc' := 20) dm_L_19 rfl rfl rfl rfl ?_
  refine me3 (pc' := 21) dm_L_20 (x_len (v := (5 : Int32)) rfl (by decide) rfl) rfl rfl rfl ?_
  refine me0 (pc' := 23) (S' := .int (6 : Int32) :: _) dm_L_21 rfl rfl rfl rfl ?_
  refine me0 (pc' := 24) (S' := .int (-1 : Int32) :: _) dm_L_23 rfl rfl rfl rfl ?_
  refine me_2t (pc' := 456) dm_L_24 rfl rfl ?_
  refine me0 (pc' := 457) (S' := .int (1 : Int32) :: _) dm_L_456 rfl rfl rfl rfl ?_
  refine me5 dm_L_457 rfl rfl rfl ?_
  exact (List.append_assoc pg_h0 cT (rT ++ [])) ▸ hP cT [] rT rfl (Nat.le_of_ble_eq_true rfl) (Nat.le_of_ble_eq_true rfl) (Nat.le_of_ble_eq_true rfl) rfl (Nat.le_of_ble_eq_true rfl)
theorem sl_app (a b : mj_H) : mj_sl (a ++ b) = mj_sl a + mj_sl b := by
  unfold mj_sl
  rw [List.map_append, List.sum_append]
theorem p1_E (L : Nat) (hL : L ≤ 6) (xs : Nat → Int32) : pgE (pg_xt L xs) 2000 13 4 false (some .boolean) (mj_dec code) 0 [(0, .ref 0)] [] pg_h0 (fun r h' => r = some (.int 1) ∧ h'.length ≤ 600002 ∧ mj_sl h' ≤ 7302250) := by
  refine p1_pre ?_
  have hP : ∀ U D R, U.length = 100 → mj_sl U ≤ 20000 → D.length ≤ 10 → mj_sl D ≤ 2000 → R.length = 25 → mj_sl R ≤ 3000000 → (fun (r : Option Value) (h' : mj_H) => r = some (.int 1) ∧ h'.length ≤ 600002 ∧ mj_sl h' ≤ 7302250) (some (.int 1)) ((pg_h0 ++ U) ++ (R ++ D)) := by
    intro U D R a1 a2 a3 a4 a5 a6
    refine ⟨rfl, ?_, ?_⟩
    · have e1 : pg_h0.length = 2 := rfl
      simp only [List.length_append]
      omega
    · have e1 : mj_sl pg_h0 = 0 := rfl
      simp only [sl_app]
      omega
  rcases (show L = 0 ∨ L = 1 ∨ L = 2 ∨ L = 3 ∨ L = 4 ∨ L = 5 ∨ L = 6 by omega) with rfl | rfl | rfl | rfl | rfl | rfl | rfl
  · exact L_few0 xs hP
  · exact L_few1 xs hP
  · exact L_few2 xs hP
  · exact L_few3 xs hP
  · exact L_few4 xs hP
  · exact L_few5 xs hP
  by_cases g0 : xs 0 &&& 15 = 0
  · exact L_feed xs g0 hP
  by_cases g1 : xs 0 &&& 15 = 1
  · exact L_line xs g1 hP
  by_cases g2 : xs 0 &&& 15 = 2
  · exact L_told xs g2 hP
  by_cases g3 : xs 0 &&& 15 = 3
  · exact L_point xs g3 hP
  by_cases g4 : xs 0 &&& 15 = 4
  · exact L_kind xs g4 hP
  by_cases g5 : xs 0 &&& 15 = 5
  · exact L_count xs g5 hP
  by_cases g6 : xs 0 &&& 15 = 6
  · exact L_item xs g6 hP
  by_cases g7 : xs 0 &&& 15 = 7
  · exact L_print xs g7 hP
  by_cases g8 : xs 0 &&& 15 = 8
  · exact L_octet xs g8 hP
  by_cases g9 : xs 0 &&& 15 = 9
  · exact L_keep xs g9 hP
  by_cases g10 : xs 0 &&& 15 = 10
  · exact L_back xs g10 hP
  by_cases g11 : xs 0 &&& 15 = 11
  · exact L_names xs g11 hP
  by_cases g12 : xs 0 &&& 15 = 12
  · exact L_letter xs g12 hP
  exact L_other xs ⟨g0, g1, g2, g3, g4, g5, g6, g7, g8, g9, g10, g11, g12, trivial⟩ hP
theorem p1_pure (L : Nat) (hL : L ≤ 6) (xs : Nat → Int32) : ∃ N h', pg_law L xs N = some (some (.int 1), h') ∧ h'.length ≤ 600002 ∧ mj_sl h' ≤ 7302250 := by
  obtain ⟨r, h', ⟨N0, hr⟩, rfl, h1, h2⟩ := p1_E L hL xs
  exact ⟨N0, h', hr N0 N0 (Nat.le_refl _) (Nat.le_refl _), h1, h2⟩
theorem whole_start {p : Program} {e : Env} {s : State} {m : MethodId} {below : List Frame} {meth : Method} {c : Code} (l : Launch) {b L : Nat} {xs : Nat → Int32} (hL : L ≤ 6) (C0 : lw_At p s m meth c b L xs) : W p l e room_1 s m #[Value.ref b] below meth c s.heap [] 0 0 (lw_Z below #[Value.ref b] s) (entryFrame m ([Value.ref b] : List Value).toArray 4) := pg_start l C0 (p1_pure L hL xs)
